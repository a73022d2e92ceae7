theorem bdX1_begin_0 : (decode cX1_begin 0 = .ok (.aload_n 0, 1)) ∧ (decode cX1_begin 1 = .ok (.iconst 0, 1)) ∧ (decode cX1_begin 2 = .ok (.putfield 37, 3)) ∧ (decode cX1_begin 5 = .ok (.iconst 0, 1)) ∧ (decode cX1_begin 6 = .ok (.istore_n 1, 1)) ∧ (decode cX1_begin 7 = .ok (.iload_n 1, 1)) ∧ (decode cX1_begin 8 = .ok (.iconst 5, 1)) ∧ (decode cX1_begin 9 = .ok (.if_icmp .ge 30, 3)) ∧ (decode cX1_begin 12 = .ok (.aload_n 0, 1)) ∧ (decode cX1_begin 13 = .ok (.getfield 27, 3)) ∧ (decode cX1_begin 16 = .ok (.getfield 44, 3)) ∧ (decode cX1_begin 19 = .ok (.iload_n 1, 1)) ∧ (decode cX1_begin 20 = .ok (.aaload, 1)) ∧ (decode cX1_begin 21 = .ok (.iconst 0, 1)) ∧ (decode cX1_begin 22 = .ok (.aload_n 0, 1)) ∧ (decode cX1_begin 23 = .ok (.getfield 11, 3)) := by decide +kernel
theorem dX1_begin_0 : decode cX1_begin 0 = .ok (.aload_n 0, 1) := bdX1_begin_0.1
theorem dX1_begin_1 : decode cX1_begin 1 = .ok (.iconst 0, 1) := bdX1_begin_0.2.1
theorem dX1_begin_2 : decode cX1_begin 2 = .ok (.putfield 37, 3) := bdX1_begin_0.2.2.1
theorem dX1_begin_5 : decode cX1_begin 5 = .ok (.iconst 0, 1) := bdX1_begin_0.2.2.2.1
theorem dX1_begin_6 : decode cX1_begin 6 = .ok (.istore_n 1, 1) := bdX1_begin_0.2.2.2.2.1
theorem dX1_begin_7 : decode cX1_begin 7 = .ok (.iload_n 1, 1) := bdX1_begin_0.2.2.2.2.2.1
theorem dX1_begin_8 : decode cX1_begin 8 = .ok (.iconst 5, 1) := bdX1_begin_0.2.2.2.2.2.2.1
theorem dX1_begin_9 : decode cX1_begin 9 = .ok (.if_icmp .ge 30, 3) := bdX1_begin_0.2.2.2.2.2.2.2.1
theorem dX1_begin_12 : decode cX1_begin 12 = .ok (.aload_n 0, 1) := bdX1_begin_0.2.2.2.2.2.2.2.2.1
theorem dX1_begin_13 : decode cX1_begin 13 = .ok (.getfield 27, 3) := bdX1_begin_0.2.2.2.2.2.2.2.2.2.1
theorem dX1_begin_16 : decode cX1_begin 16 = .ok (.getfield 44, 3) := bdX1_begin_0.2.2.2.2.2.2.2.2.2.2.1
theorem dX1_begin_19 : decode cX1_begin 19 = .ok (.iload_n 1, 1) := bdX1_begin_0.2.2.2.2.2.2.2.2.2.2.2.1
theorem dX1_begin_20 : decode cX1_begin 20 = .ok (.aaload, 1) := bdX1_begin_0.2.2.2.2.2.2.2.2.2.2.2.2.1
theorem dX1_begin_21 : decode cX1_begin 21 = .ok (.iconst 0, 1) := bdX1_begin_0.2.2.2.2.2.2.2.2.2.2.2.2.2.1
theorem dX1_begin_22 : decode cX1_begin 22 = .ok (.aload_n 0, 1) := bdX1_begin_0.2.2.2.2.2.2.2.2.2.2.2.2.2.2.1
theorem dX1_begin_23 : decode cX1_begin 23 = .ok (.getfield 11, 3) := bdX1_begin_0.2.2.2.2.2.2.2.2.2.2.2.2.2.2.2
theorem bdX1_begin_26 : (decode cX1_begin 26 = .ok (.iload_n 1, 1)) ∧ (decode cX1_begin 27 = .ok (.aaload, 1)) ∧ (decode cX1_begin 28 = .ok (.iconst 0, 1)) ∧ (decode cX1_begin 29 = .ok (.iconst 4, 1)) ∧ (decode cX1_begin 30 = .ok (.invokestatic 47, 3)) ∧ (decode cX1_begin 33 = .ok (.iinc 1 1, 3)) ∧ (decode cX1_begin 36 = .ok (.goto (-29), 3)) ∧ (decode cX1_begin 39 = .ok (.iconst 0, 1)) ∧ (decode cX1_begin 40 = .ok (.istore_n 1, 1)) ∧ (decode cX1_begin 41 = .ok (.iload_n 1, 1)) ∧ (decode cX1_begin 42 = .ok (.iconst 4, 1)) ∧ (decode cX1_begin 43 = .ok (.if_icmp .ge 40, 3)) ∧ (decode cX1_begin 46 = .ok (.iconst 0, 1)) ∧ (decode cX1_begin 47 = .ok (.istore_n 2, 1)) ∧ (decode cX1_begin 48 = .ok (.iload_n 2, 1)) ∧ (decode cX1_begin 49 = .ok (.iconst 4, 1)) := by decide +kernel
theorem dX1_begin_26 : decode cX1_begin 26 = .ok (.iload_n 1, 1) := bdX1_begin_26.1
theorem dX1_begin_27 : decode cX1_begin 27 = .ok (.aaload, 1) := bdX1_begin_26.2.1
theorem dX1_begin_28 : decode cX1_begin 28 = .ok (.iconst 0, 1) := bdX1_begin_26.2.2.1
theorem dX1_begin_29 : decode cX1_begin 29 = .ok (.iconst 4, 1) := bdX1_begin_26.2.2.2.1
theorem dX1_begin_30 : decode cX1_begin 30 = .ok (.invokestatic 47, 3) := bdX1_begin_26.2.2.2.2.1
theorem dX1_begin_33 : decode cX1_begin 33 = .ok (.iinc 1 1, 3) := bdX1_begin_26.2.2.2.2.2.1
theorem dX1_begin_36 : decode cX1_begin 36 = .ok (.goto (-29), 3) := bdX1_begin_26.2.2.2.2.2.2.1
theorem dX1_begin_39 : decode cX1_begin 39 = .ok (.iconst 0, 1) := bdX1_begin_26.2.2.2.2.2.2.2.1
theorem dX1_begin_40 : decode cX1_begin 40 = .ok (.istore_n 1, 1) := bdX1_begin_26.2.2.2.2.2.2.2.2.1
theorem dX1_begin_41 : decode cX1_begin 41 = .ok (.iload_n 1, 1) := bdX1_begin_26.2.2.2.2.2.2.2.2.2.1
theorem dX1_begin_42 : decode cX1_begin 42 = .ok (.iconst 4, 1) := bdX1_begin_26.2.2.2.2.2.2.2.2.2.2.1
theorem dX1_begin_43 : decode cX1_begin 43 = .ok (.if_icmp .ge 40, 3) := bdX1_begin_26.2.2.2.2.2.2.2.2.2.2.2.1
theorem dX1_begin_46 : decode cX1_begin 46 = .ok (.iconst 0, 1) := bdX1_begin_26.2.2.2.2.2.2.2.2.2.2.2.2.1
theorem dX1_begin_47 : decode cX1_begin 47 = .ok (.istore_n 2, 1) := bdX1_begin_26.2.2.2.2.2.2.2.2.2.2.2.2.2.1
theorem dX1_begin_48 : decode cX1_begin 48 = .ok (.iload_n 2, 1) := bdX1_begin_26.2.2.2.2.2.2.2.2.2.2.2.2.2.2.1
theorem dX1_begin_49 : decode cX1_begin 49 = .ok (.iconst 4, 1) := bdX1_begin_26.2.2.2.2.2.2.2.2.2.2.2.2.2.2.2
theorem bdX1_begin_50 : (decode cX1_begin 50 = .ok (.if_icmp .ge 27, 3)) ∧ (decode cX1_begin 53 = .ok (.aload_n 0, 1)) ∧ (decode cX1_begin 54 = .ok (.getfield 16, 3)) ∧ (decode cX1_begin 57 = .ok (.iload_n 1, 1)) ∧ (decode cX1_begin 58 = .ok (.aaload, 1)) ∧ (decode cX1_begin 59 = .ok (.iload_n 2, 1)) ∧ (decode cX1_begin 60 = .ok (.iload_n 1, 1)) ∧ (decode cX1_begin 61 = .ok (.iload_n 2, 1)) ∧ (decode cX1_begin 62 = .ok (.if_icmp .ne 7, 3)) ∧ (decode cX1_begin 65 = .ok (.iconst 1, 1)) ∧ (decode cX1_begin 66 = .ok (.goto 4, 3)) ∧ (decode cX1_begin 69 = .ok (.iconst 0, 1)) ∧ (decode cX1_begin 70 = .ok (.iastore, 1)) ∧ (decode cX1_begin 71 = .ok (.iinc 2 1, 3)) ∧ (decode cX1_begin 74 = .ok (.goto (-26), 3)) ∧ (decode cX1_begin 77 = .ok (.iinc 1 1, 3)) := by decide +kernel
theorem dX1_begin_50 : decode cX1_begin 50 = .ok (.if_icmp .ge 27, 3) := bdX1_begin_50.1
theorem dX1_begin_53 : decode cX1_begin 53 = .ok (.aload_n 0, 1) := bdX1_begin_50.2.1
theorem dX1_begin_54 : decode cX1_begin 54 = .ok (.getfield 16, 3) := bdX1_begin_50.2.2.1
theorem dX1_begin_57 : decode cX1_begin 57 = .ok (.iload_n 1, 1) := bdX1_begin_50.2.2.2.1
theorem dX1_begin_58 : decode cX1_begin 58 = .ok (.aaload, 1) := bdX1_begin_50.2.2.2.2.1
theorem dX1_begin_59 : decode cX1_begin 59 = .ok (.iload_n 2, 1) := bdX1_begin_50.2.2.2.2.2.1
theorem dX1_begin_60 : decode cX1_begin 60 = .ok (.iload_n 1, 1) := bdX1_begin_50.2.2.2.2.2.2.1
theorem dX1_begin_61 : decode cX1_begin 61 = .ok (.iload_n 2, 1) := bdX1_begin_50.2.2.2.2.2.2.2.1
theorem dX1_begin_62 : decode cX1_begin 62 = .ok (.if_icmp .ne 7, 3) := bdX1_begin_50.2.2.2.2.2.2.2.2.1
theorem dX1_begin_65 : decode cX1_begin 65 = .ok (.iconst 1, 1) := bdX1_begin_50.2.2.2.2.2.2.2.2.2.1
theorem dX1_begin_66 : decode cX1_begin 66 = .ok (.goto 4, 3) := bdX1_begin_50.2.2.2.2.2.2.2.2.2.2.1
theorem dX1_begin_69 : decode cX1_begin 69 = .ok (.iconst 0, 1) := bdX1_begin_50.2.2.2.2.2.2.2.2.2.2.2.1
theorem dX1_begin_70 : decode cX1_begin 70 = .ok (.iastore, 1) := bdX1_begin_50.2.2.2.2.2.2.2.2.2.2.2.2.1
theorem dX1_begin_71 : decode cX1_begin 71 = .ok (.iinc 2 1, 3) := bdX1_begin_50.2.2.2.2.2.2.2.2.2.2.2.2.2.1
theorem dX1_begin_74 : decode cX1_begin 74 = .ok (.goto (-26), 3) := bdX1_begin_50.2.2.2.2.2.2.2.2.2.2.2.2.2.2.1
theorem dX1_begin_77 : decode cX1_begin 77 = .ok (.iinc 1 1, 3) := bdX1_begin_50.2.2.2.2.2.2.2.2.2.2.2.2.2.2.2
theorem dX1_begin_80 : decode cX1_begin 80 = .ok (.goto (-39), 3) := by decide +kernel
theorem dX1_begin_83 : decode cX1_begin 83 = .ok (.return_, 1) := by decide +kernel
set_option maxHeartbeats 4000000 in
set_option maxRecDepth 100000 in
theorem k_X1_begin (l : Launch) (dC : Nat → ClassId) (dI : Nat → Nat → Nat) (h : Nat → Nat) (cs : Nat → ClassId) (sz : Nat) (I : Nat → Int32) (L : Nat → Int64) (A : Nat → Nat → Int32) (Q : Nat → Nat → Int64) (G : Nat → Nat → Nat → Int32) (J : Nat → Nat → Nat → Int64) (u9 : Nat) : Met l yX1_begin wsX1_begin ({ frames := 1, cells := 0, slots := 0, locals := 60 }) (va_Pc [.ref (h 108)] (xPre (dC, dI) (wLead h cs I L A Q G J) (tysA cs) sz)) (va_Qv (fun (u : CS) => ∃ i212 : Int32, ∃ g2 : Nat → Nat → Int32, ∃ g3 : Nat → Nat → Int32, (i212 = nI 0) ∧ u = ((va_up I 212 i212), L, A, Q, (va_up (va_up G 2 g2) 3 g3), J)) (xB (dC, dI) (tysA cs) (va_A (wLead h cs I L A Q G J) sz) (fun u : CS => wLead h cs u.1 u.2.1 u.2.2.1 u.2.2.2.1 u.2.2.2.2.1 u.2.2.2.2.2)) (va_A (wLead h cs I L A Q G J) sz)) 0 0 (va_A (wLead h cs I L A Q G J) sz) := by
  refine Met.ofW (cc := cX1_begin) (maxL := 3) (ret := none) (by decide) rfl ?_
  intro p e s m args below meth c s₁ B hml hv
  obtain ⟨rfl, hsz, hP, hK, hD0, hN⟩ := hv
  have hx := B.exec
  have hb := B.bytes
  have hr := B.returns
  have hts := atoms_spec (ws := wsX1_begin) B.pre
  have hown : s.vm.findClass RX1 = some m.cls := findClass_of_methodNamed B.named
  have hlocks := B.notSynchronized
  subst hsz
  have hD := hD0.self (sz := s.heap.size)
  generalize hAe : va_A (wLead h cs I L A Q G J) s.heap.size = A0 at hD ⊢
  have hA : ∀ q : Nat, s.heap.size ≤ q → A0 q := fun q h => by rw [← hAe]; exact Or.inr h
  have hl := lv_entry ([.ref (h 108)]) (n := 3) (Nat.le_of_ble_eq_true rfl)
  rw [lg_entry_eq]
  generalize (lg_sl ([.ref (h 108)]) ++ List.replicate (3 - (lg_sl ([.ref (h 108)])).length) Slot.unset).toArray = ls at hl ⊢
  have hl : lv_has ls 3 [(0, .ref (h 108))] := hl
  generalize hH : s.heap = H at hP ⊢
  have hS : va_S A0 s.heap H [] := by rw [← hH]; exact va_S.rf
  have hinX1 : ∀ w ∈ wsX10, w ∈ wsX1_begin := by decide +kernel
  have hinX3 : ∀ w ∈ wsX30, w ∈ wsX1_begin := by decide +kernel
  refine lv_aload_n hx hb dX1_begin_0 rfl (lv_at hl 0 rfl) ?_
  refine lv_iconst (v := nI 0) hx hb dX1_begin_1 (by decide) ?_
  refine va_put (D := (dC, dI)) (ci := 1) (v := .int (nI 0)) (ty := .int) (C := RX1) (T := TX1) (N := 6) hx hb hts hinX1 tyX1 tyX1_ok nmX1 hown hK hP hD hS 0 rfl rfl 4 (by decide) (hts (.fieldLink RX1 37 "MixedWords$Leader" "times" "I") (by decide +kernel)) (fun _ h9 => h9) rfl (by decide +kernel) rfl rfl (Nat.le_of_ble_eq_true rfl) dX1_begin_2 (fun H locs hP hD hS => ?_)
  have hP : va_P (dC, dI) vwCl (wLead h cs (va_up I 212 (nI 0)) L A Q G J) H := hP
  have hD : va_D A0 (wLead h cs (va_up I 212 (nI 0)) L A Q G J) := hD
  refine lv_iconst (v := nI 0) hx hb dX1_begin_5 (by decide) ?_
  refine lv_istore_n (lv' := [(1, .int (nI 0)), (0, .ref (h 108))]) hx hb dX1_begin_6 rfl hl (by decide) rfl (fun ls hl => ?_)
  refine lv_iload_n hx hb dX1_begin_7 rfl (lv_at hl 0 rfl) ?_
  refine lv_iconst (v := nI 5) hx hb dX1_begin_8 (by decide) ?_
  refine lv_icmp_ge (tgt := 39) hx hb dX1_begin_9 (by decide) (fun c9 => False.elim (by revert c9; decide +kernel)) (fun _ => ?_)
  refine lv_aload_n hx hb dX1_begin_12 rfl (lv_at hl 1 rfl) ?_
  refine va_get (D := (dC, dI)) (ci := 1) (v := .ref (h 101)) (C := RX1) (T := TX1) (N := 6) hx hb hts hinX1 hown hK hP 0 rfl rfl 0 (by decide) (hts (.fieldLink RX1 27 "MixedWords$Leader" "mix" "LMixedWords$Mix;") (by decide +kernel)) (fun _ h9 => h9) rfl dX1_begin_13 ?_
  refine va_get (D := (dC, dI)) (ci := 3) (v := .ref (h 130)) (C := RX3) (T := TX3) (N := 6) hx hb hts hinX3 hown hK hP 13 rfl rfl 4 (by decide) (hts (.fieldLink RX1 44 "MixedWords$Mix" "cells" "[[I") (by decide +kernel)) (fun _ h9 => h9) rfl dX1_begin_16 ?_
  refine lv_iload_n hx hb dX1_begin_19 rfl (lv_at hl 0 rfl) ?_
  refine xa_aald (b := h 131) hx hb hK hP 14 3 rfl rfl rfl (by omega) (by decide) (if_pos (by omega)) dX1_begin_20 ?_
  refine lv_iconst (v := nI 0) hx hb dX1_begin_21 (by decide) ?_
  refine lv_aload_n hx hb dX1_begin_22 rfl (lv_at hl 1 rfl) ?_
  refine va_get (D := (dC, dI)) (ci := 1) (v := .ref (h 200)) (C := RX1) (T := TX1) (N := 6) hx hb hts hinX1 hown hK hP 0 rfl rfl 1 (by decide) (hts (.fieldLink RX1 11 "MixedWords$Leader" "columns" "[[I") (by decide +kernel)) (fun _ h9 => h9) rfl dX1_begin_23 ?_
  refine lv_iload_n hx hb dX1_begin_26 rfl (lv_at hl 0 rfl) ?_
  refine xa_aald (b := h 201) hx hb hK hP 1 3 rfl rfl rfl (by omega) (by decide) (if_pos (by omega)) dX1_begin_27 ?_
  refine lv_iconst (v := nI 0) hx hb dX1_begin_28 (by decide) ?_
  refine lv_iconst (v := nI 4) hx hb dX1_begin_29 (by decide) ?_
  refine xa_copy (cA := cs 0) hx hb (hml.trans hl.1.symm) hown (hts (.methodLink RX1 47 arraycopyName) (by decide +kernel)) (hts (.native arraycopyName) (by decide +kernel)) (hts (.static arraycopyName) (by decide +kernel)) (hts (.initialized "java/lang/System") (by decide +kernel)) hK hP hD hS 15 2 rfl rfl (by omega) (by omega) (by decide) (by decide) (Nat.le_of_ble_eq_true rfl) (Nat.le_of_ble_eq_true rfl) dX1_begin_30 (fun H locs hP hD hS => ?_)
  have hP : va_P (dC, dI) vwCl (wLead h cs (va_up I 212 (nI 0)) L A Q (va_up G 2 (va_up (G 2) 0 (va_cpy ((G 0) 0) ((G 2) 0) 0 0 4))) J) H := hP
  have hD : va_D A0 (wLead h cs (va_up I 212 (nI 0)) L A Q (va_up G 2 (va_up (G 2) 0 (va_cpy ((G 0) 0) ((G 2) 0) 0 0 4))) J) := hD
  refine lv_iinc (v := nI 1) (lv' := [(1, .int (nI 1)), (0, .ref (h 108))]) hx hb dX1_begin_33 hl (k := 0) rfl (by decide +kernel) (by decide) rfl (fun ls hl => ?_)
  refine lv_goto (tgt := 7) hx hb dX1_begin_36 (by decide) ?_
  refine lv_iload_n hx hb dX1_begin_7 rfl (lv_at hl 0 rfl) ?_
  refine lv_iconst (v := nI 5) hx hb dX1_begin_8 (by decide) ?_
  refine lv_icmp_ge (tgt := 39) hx hb dX1_begin_9 (by decide) (fun c9 => False.elim (by revert c9; decide +kernel)) (fun _ => ?_)
  refine lv_aload_n hx hb dX1_begin_12 rfl (lv_at hl 1 rfl) ?_
  refine va_get (D := (dC, dI)) (ci := 1) (v := .ref (h 101)) (C := RX1) (T := TX1) (N := 6) hx hb hts hinX1 hown hK hP 0 rfl rfl 0 (by decide) (hts (.fieldLink RX1 27 "MixedWords$Leader" "mix" "LMixedWords$Mix;") (by decide +kernel)) (fun _ h9 => h9) rfl dX1_begin_13 ?_
  refine va_get (D := (dC, dI)) (ci := 3) (v := .ref (h 130)) (C := RX3) (T := TX3) (N := 6) hx hb hts hinX3 hown hK hP 13 rfl rfl 4 (by decide) (hts (.fieldLink RX1 44 "MixedWords$Mix" "cells" "[[I") (by decide +kernel)) (fun _ h9 => h9) rfl dX1_begin_16 ?_
  refine lv_iload_n hx hb dX1_begin_19 rfl (lv_at hl 0 rfl) ?_
  refine xa_aald (b := h 132) hx hb hK hP 14 3 rfl rfl rfl (by omega) (by decide) (if_pos (by omega)) dX1_begin_20 ?_
  refine lv_iconst (v := nI 0) hx hb dX1_begin_21 (by decide) ?_
  refine lv_aload_n hx hb dX1_begin_22 rfl (lv_at hl 1 rfl) ?_
  refine va_get (D := (dC, dI)) (ci := 1) (v := .ref (h 200)) (C := RX1) (T := TX1) (N := 6) hx hb hts hinX1 hown hK hP 0 rfl rfl 1 (by decide) (hts (.fieldLink RX1 11 "MixedWords$Leader" "columns" "[[I") (by decide +kernel)) (fun _ h9 => h9) rfl dX1_begin_23 ?_
  refine lv_iload_n hx hb dX1_begin_26 rfl (lv_at hl 0 rfl) ?_
  refine xa_aald (b := h 202) hx hb hK hP 1 3 rfl rfl rfl (by omega) (by decide) (if_pos (by omega)) dX1_begin_27 ?_
  refine lv_iconst (v := nI 0) hx hb dX1_begin_28 (by decide) ?_
  refine lv_iconst (v := nI 4) hx hb dX1_begin_29 (by decide) ?_
  refine xa_copy (cA := cs 0) hx hb (hml.trans hl.1.symm) hown (hts (.methodLink RX1 47 arraycopyName) (by decide +kernel)) (hts (.native arraycopyName) (by decide +kernel)) (hts (.static arraycopyName) (by decide +kernel)) (hts (.initialized "java/lang/System") (by decide +kernel)) hK hP hD hS 16 3 rfl rfl (by omega) (by omega) (by decide) (by decide) (Nat.le_of_ble_eq_true rfl) (Nat.le_of_ble_eq_true rfl) dX1_begin_30 (fun H locs hP hD hS => ?_)
  have hP : va_P (dC, dI) vwCl (wLead h cs (va_up I 212 (nI 0)) L A Q (va_up G 2 (va_up (va_up (G 2) 0 (va_cpy ((G 0) 0) ((G 2) 0) 0 0 4)) 1 (va_cpy ((G 0) 1) ((va_up (G 2) 0 (va_cpy ((G 0) 0) ((G 2) 0) 0 0 4)) 1) 0 0 4))) J) H := hP
  have hD : va_D A0 (wLead h cs (va_up I 212 (nI 0)) L A Q (va_up G 2 (va_up (va_up (G 2) 0 (va_cpy ((G 0) 0) ((G 2) 0) 0 0 4)) 1 (va_cpy ((G 0) 1) ((va_up (G 2) 0 (va_cpy ((G 0) 0) ((G 2) 0) 0 0 4)) 1) 0 0 4))) J) := hD
  refine lv_iinc (v := nI 2) (lv' := [(1, .int (nI 2)), (0, .ref (h 108))]) hx hb dX1_begin_33 hl (k := 0) rfl (by decide +kernel) (by decide) rfl (fun ls hl => ?_)
  refine lv_goto (tgt := 7) hx hb dX1_begin_36 (by decide) ?_
  refine lv_iload_n hx hb dX1_begin_7 rfl (lv_at hl 0 rfl) ?_
  refine lv_iconst (v := nI 5) hx hb dX1_begin_8 (by decide) ?_
  refine lv_icmp_ge (tgt := 39) hx hb dX1_begin_9 (by decide) (fun c9 => False.elim (by revert c9; decide +kernel)) (fun _ => ?_)
  refine lv_aload_n hx hb dX1_begin_12 rfl (lv_at hl 1 rfl) ?_
  refine va_get (D := (dC, dI)) (ci := 1) (v := .ref (h 101)) (C := RX1) (T := TX1) (N := 6) hx hb hts hinX1 hown hK hP 0 rfl rfl 0 (by decide) (hts (.fieldLink RX1 27 "MixedWords$Leader" "mix" "LMixedWords$Mix;") (by decide +kernel)) (fun _ h9 => h9) rfl dX1_begin_13 ?_
  refine va_get (D := (dC, dI)) (ci := 3) (v := .ref (h 130)) (C := RX3) (T := TX3) (N := 6) hx hb hts hinX3 hown hK hP 13 rfl rfl 4 (by decide) (hts (.fieldLink RX1 44 "MixedWords$Mix" "cells" "[[I") (by decide +kernel)) (fun _ h9 => h9) rfl dX1_begin_16 ?_
  refine lv_iload_n hx hb dX1_begin_19 rfl (lv_at hl 0 rfl) ?_
  refine xa_aald (b := h 133) hx hb hK hP 14 3 rfl rfl rfl (by omega) (by decide) (if_pos (by omega)) dX1_begin_20 ?_
  refine lv_iconst (v := nI 0) hx hb dX1_begin_21 (by decide) ?_
  refine lv_aload_n hx hb dX1_begin_22 rfl (lv_at hl 1 rfl) ?_
  refine va_get (D := (dC, dI)) (ci := 1) (v := .ref (h 200)) (C := RX1) (T := TX1) (N := 6) hx hb hts hinX1 hown hK hP 0 rfl rfl 1 (by decide) (hts (.fieldLink RX1 11 "MixedWords$Leader" "columns" "[[I") (by decide +kernel)) (fun _ h9 => h9) rfl dX1_begin_23 ?_
  refine lv_iload_n hx hb dX1_begin_26 rfl (lv_at hl 0 rfl) ?_
  refine xa_aald (b := h 203) hx hb hK hP 1 3 rfl rfl rfl (by omega) (by decide) (if_pos (by omega)) dX1_begin_27 ?_
  refine lv_iconst (v := nI 0) hx hb dX1_begin_28 (by decide) ?_
  refine lv_iconst (v := nI 4) hx hb dX1_begin_29 (by decide) ?_
  refine xa_copy (cA := cs 0) hx hb (hml.trans hl.1.symm) hown (hts (.methodLink RX1 47 arraycopyName) (by decide +kernel)) (hts (.native arraycopyName) (by decide +kernel)) (hts (.static arraycopyName) (by decide +kernel)) (hts (.initialized "java/lang/System") (by decide +kernel)) hK hP hD hS 17 4 rfl rfl (by omega) (by omega) (by decide) (by decide) (Nat.le_of_ble_eq_true rfl) (Nat.le_of_ble_eq_true rfl) dX1_begin_30 (fun H locs hP hD hS => ?_)
  have hP : va_P (dC, dI) vwCl (wLead h cs (va_up I 212 (nI 0)) L A Q (va_up G 2 (va_up (va_up (va_up (G 2) 0 (va_cpy ((G 0) 0) ((G 2) 0) 0 0 4)) 1 (va_cpy ((G 0) 1) ((va_up (G 2) 0 (va_cpy ((G 0) 0) ((G 2) 0) 0 0 4)) 1) 0 0 4)) 2 (va_cpy ((G 0) 2) ((va_up (va_up (G 2) 0 (va_cpy ((G 0) 0) ((G 2) 0) 0 0 4)) 1 (va_cpy ((G 0) 1) ((va_up (G 2) 0 (va_cpy ((G 0) 0) ((G 2) 0) 0 0 4)) 1) 0 0 4)) 2) 0 0 4))) J) H := hP
  have hD : va_D A0 (wLead h cs (va_up I 212 (nI 0)) L A Q (va_up G 2 (va_up (va_up (va_up (G 2) 0 (va_cpy ((G 0) 0) ((G 2) 0) 0 0 4)) 1 (va_cpy ((G 0) 1) ((va_up (G 2) 0 (va_cpy ((G 0) 0) ((G 2) 0) 0 0 4)) 1) 0 0 4)) 2 (va_cpy ((G 0) 2) ((va_up (va_up (G 2) 0 (va_cpy ((G 0) 0) ((G 2) 0) 0 0 4)) 1 (va_cpy ((G 0) 1) ((va_up (G 2) 0 (va_cpy ((G 0) 0) ((G 2) 0) 0 0 4)) 1) 0 0 4)) 2) 0 0 4))) J) := hD
  refine lv_iinc (v := nI 3) (lv' := [(1, .int (nI 3)), (0, .ref (h 108))]) hx hb dX1_begin_33 hl (k := 0) rfl (by decide +kernel) (by decide) rfl (fun ls hl => ?_)
  refine lv_goto (tgt := 7) hx hb dX1_begin_36 (by decide) ?_
  refine lv_iload_n hx hb dX1_begin_7 rfl (lv_at hl 0 rfl) ?_
  refine lv_iconst (v := nI 5) hx hb dX1_begin_8 (by decide) ?_
  refine lv_icmp_ge (tgt := 39) hx hb dX1_begin_9 (by decide) (fun c9 => False.elim (by revert c9; decide +kernel)) (fun _ => ?_)
  refine lv_aload_n hx hb dX1_begin_12 rfl (lv_at hl 1 rfl) ?_
  refine va_get (D := (dC, dI)) (ci := 1) (v := .ref (h 101)) (C := RX1) (T := TX1) (N := 6) hx hb hts hinX1 hown hK hP 0 rfl rfl 0 (by decide) (hts (.fieldLink RX1 27 "MixedWords$Leader" "mix" "LMixedWords$Mix;") (by decide +kernel)) (fun _ h9 => h9) rfl dX1_begin_13 ?_
  refine va_get (D := (dC, dI)) (ci := 3) (v := .ref (h 130)) (C := RX3) (T := TX3) (N := 6) hx hb hts hinX3 hown hK hP 13 rfl rfl 4 (by decide) (hts (.fieldLink RX1 44 "MixedWords$Mix" "cells" "[[I") (by decide +kernel)) (fun _ h9 => h9) rfl dX1_begin_16 ?_
  refine lv_iload_n hx hb dX1_begin_19 rfl (lv_at hl 0 rfl) ?_
  refine xa_aald (b := h 134) hx hb hK hP 14 3 rfl rfl rfl (by omega) (by decide) (if_pos (by omega)) dX1_begin_20 ?_
  refine lv_iconst (v := nI 0) hx hb dX1_begin_21 (by decide) ?_
  refine lv_aload_n hx hb dX1_begin_22 rfl (lv_at hl 1 rfl) ?_
  refine va_get (D := (dC, dI)) (ci := 1) (v := .ref (h 200)) (C := RX1) (T := TX1) (N := 6) hx hb hts hinX1 hown hK hP 0 rfl rfl 1 (by decide) (hts (.fieldLink RX1 11 "MixedWords$Leader" "columns" "[[I") (by decide +kernel)) (fun _ h9 => h9) rfl dX1_begin_23 ?_
  refine lv_iload_n hx hb dX1_begin_26 rfl (lv_at hl 0 rfl) ?_
  refine xa_aald (b := h 204) hx hb hK hP 1 3 rfl rfl rfl (by omega) (by decide) (if_pos (by omega)) dX1_begin_27 ?_
  refine lv_iconst (v := nI 0) hx hb dX1_begin_28 (by decide) ?_
  refine lv_iconst (v := nI 4) hx hb dX1_begin_29 (by decide) ?_
  refine xa_copy (cA := cs 0) hx hb (hml.trans hl.1.symm) hown (hts (.methodLink RX1 47 arraycopyName) (by decide +kernel)) (hts (.native arraycopyName) (by decide +kernel)) (hts (.static arraycopyName) (by decide +kernel)) (hts (.initialized "java/lang/System") (by decide +kernel)) hK hP hD hS 18 5 rfl rfl (by omega) (by omega) (by decide) (by decide) (Nat.le_of_ble_eq_true rfl) (Nat.le_of_ble_eq_true rfl) dX1_begin_30 (fun H locs hP hD hS => ?_)
  have hP : va_P (dC, dI) vwCl (wLead h cs (va_up I 212 (nI 0)) L A Q (va_up G 2 (va_up (va_up (va_up (va_up (G 2) 0 (va_cpy ((G 0) 0) ((G 2) 0) 0 0 4)) 1 (va_cpy ((G 0) 1) ((va_up (G 2) 0 (va_cpy ((G 0) 0) ((G 2) 0) 0 0 4)) 1) 0 0 4)) 2 (va_cpy ((G 0) 2) ((va_up (va_up (G 2) 0 (va_cpy ((G 0) 0) ((G 2) 0) 0 0 4)) 1 (va_cpy ((G 0) 1) ((va_up (G 2) 0 (va_cpy ((G 0) 0) ((G 2) 0) 0 0 4)) 1) 0 0 4)) 2) 0 0 4)) 3 (va_cpy ((G 0) 3) ((va_up (va_up (va_up (G 2) 0 (va_cpy ((G 0) 0) ((G 2) 0) 0 0 4)) 1 (va_cpy ((G 0) 1) ((va_up (G 2) 0 (va_cpy ((G 0) 0) ((G 2) 0) 0 0 4)) 1) 0 0 4)) 2 (va_cpy ((G 0) 2) ((va_up (va_up (G 2) 0 (va_cpy ((G 0) 0) ((G 2) 0) 0 0 4)) 1 (va_cpy ((G 0) 1) ((va_up (G 2) 0 (va_cpy ((G 0) 0) ((G 2) 0) 0 0 4)) 1) 0 0 4)) 2) 0 0 4)) 3) 0 0 4))) J) H := hP
  have hD : va_D A0 (wLead h cs (va_up I 212 (nI 0)) L A Q (va_up G 2 (va_up (va_up (va_up (va_up (G 2) 0 (va_cpy ((G 0) 0) ((G 2) 0) 0 0 4)) 1 (va_cpy ((G 0) 1) ((va_up (G 2) 0 (va_cpy ((G 0) 0) ((G 2) 0) 0 0 4)) 1) 0 0 4)) 2 (va_cpy ((G 0) 2) ((va_up (va_up (G 2) 0 (va_cpy ((G 0) 0) ((G 2) 0) 0 0 4)) 1 (va_cpy ((G 0) 1) ((va_up (G 2) 0 (va_cpy ((G 0) 0) ((G 2) 0) 0 0 4)) 1) 0 0 4)) 2) 0 0 4)) 3 (va_cpy ((G 0) 3) ((va_up (va_up (va_up (G 2) 0 (va_cpy ((G 0) 0) ((G 2) 0) 0 0 4)) 1 (va_cpy ((G 0) 1) ((va_up (G 2) 0 (va_cpy ((G 0) 0) ((G 2) 0) 0 0 4)) 1) 0 0 4)) 2 (va_cpy ((G 0) 2) ((va_up (va_up (G 2) 0 (va_cpy ((G 0) 0) ((G 2) 0) 0 0 4)) 1 (va_cpy ((G 0) 1) ((va_up (G 2) 0 (va_cpy ((G 0) 0) ((G 2) 0) 0 0 4)) 1) 0 0 4)) 2) 0 0 4)) 3) 0 0 4))) J) := hD
  refine lv_iinc (v := nI 4) (lv' := [(1, .int (nI 4)), (0, .ref (h 108))]) hx hb dX1_begin_33 hl (k := 0) rfl (by decide +kernel) (by decide) rfl (fun ls hl => ?_)
  refine lv_goto (tgt := 7) hx hb dX1_begin_36 (by decide) ?_
  refine lv_iload_n hx hb dX1_begin_7 rfl (lv_at hl 0 rfl) ?_
  refine lv_iconst (v := nI 5) hx hb dX1_begin_8 (by decide) ?_
  refine lv_icmp_ge (tgt := 39) hx hb dX1_begin_9 (by decide) (fun c9 => False.elim (by revert c9; decide +kernel)) (fun _ => ?_)
  refine lv_aload_n hx hb dX1_begin_12 rfl (lv_at hl 1 rfl) ?_
  refine va_get (D := (dC, dI)) (ci := 1) (v := .ref (h 101)) (C := RX1) (T := TX1) (N := 6) hx hb hts hinX1 hown hK hP 0 rfl rfl 0 (by decide) (hts (.fieldLink RX1 27 "MixedWords$Leader" "mix" "LMixedWords$Mix;") (by decide +kernel)) (fun _ h9 => h9) rfl dX1_begin_13 ?_
  refine va_get (D := (dC, dI)) (ci := 3) (v := .ref (h 130)) (C := RX3) (T := TX3) (N := 6) hx hb hts hinX3 hown hK hP 13 rfl rfl 4 (by decide) (hts (.fieldLink RX1 44 "MixedWords$Mix" "cells" "[[I") (by decide +kernel)) (fun _ h9 => h9) rfl dX1_begin_16 ?_
  refine lv_iload_n hx hb dX1_begin_19 rfl (lv_at hl 0 rfl) ?_
  refine xa_aald (b := h 135) hx hb hK hP 14 3 rfl rfl rfl (by omega) (by decide) (if_pos (by omega)) dX1_begin_20 ?_
  refine lv_iconst (v := nI 0) hx hb dX1_begin_21 (by decide) ?_
  refine lv_aload_n hx hb dX1_begin_22 rfl (lv_at hl 1 rfl) ?_
  refine va_get (D := (dC, dI)) (ci := 1) (v := .ref (h 200)) (C := RX1) (T := TX1) (N := 6) hx hb hts hinX1 hown hK hP 0 rfl rfl 1 (by decide) (hts (.fieldLink RX1 11 "MixedWords$Leader" "columns" "[[I") (by decide +kernel)) (fun _ h9 => h9) rfl dX1_begin_23 ?_
  refine lv_iload_n hx hb dX1_begin_26 rfl (lv_at hl 0 rfl) ?_
  refine xa_aald (b := h 205) hx hb hK hP 1 3 rfl rfl rfl (by omega) (by decide) (if_pos (by omega)) dX1_begin_27 ?_
  refine lv_iconst (v := nI 0) hx hb dX1_begin_28 (by decide) ?_
  refine lv_iconst (v := nI 4) hx hb dX1_begin_29 (by decide) ?_
  refine xa_copy (cA := cs 0) hx hb (hml.trans hl.1.symm) hown (hts (.methodLink RX1 47 arraycopyName) (by decide +kernel)) (hts (.native arraycopyName) (by decide +kernel)) (hts (.static arraycopyName) (by decide +kernel)) (hts (.initialized "java/lang/System") (by decide +kernel)) hK hP hD hS 19 6 rfl rfl (by omega) (by omega) (by decide) (by decide) (Nat.le_of_ble_eq_true rfl) (Nat.le_of_ble_eq_true rfl) dX1_begin_30 (fun H locs hP hD hS => ?_)
  have hP : va_P (dC, dI) vwCl (wLead h cs (va_up I 212 (nI 0)) L A Q (va_up G 2 (va_up (va_up (va_up (va_up (va_up (G 2) 0 (va_cpy ((G 0) 0) ((G 2) 0) 0 0 4)) 1 (va_cpy ((G 0) 1) ((va_up (G 2) 0 (va_cpy ((G 0) 0) ((G 2) 0) 0 0 4)) 1) 0 0 4)) 2 (va_cpy ((G 0) 2) ((va_up (va_up (G 2) 0 (va_cpy ((G 0) 0) ((G 2) 0) 0 0 4)) 1 (va_cpy ((G 0) 1) ((va_up (G 2) 0 (va_cpy ((G 0) 0) ((G 2) 0) 0 0 4)) 1) 0 0 4)) 2) 0 0 4)) 3 (va_cpy ((G 0) 3) ((va_up (va_up (va_up (G 2) 0 (va_cpy ((G 0) 0) ((G 2) 0) 0 0 4)) 1 (va_cpy ((G 0) 1) ((va_up (G 2) 0 (va_cpy ((G 0) 0) ((G 2) 0) 0 0 4)) 1) 0 0 4)) 2 (va_cpy ((G 0) 2) ((va_up (va_up (G 2) 0 (va_cpy ((G 0) 0) ((G 2) 0) 0 0 4)) 1 (va_cpy ((G 0) 1) ((va_up (G 2) 0 (va_cpy ((G 0) 0) ((G 2) 0) 0 0 4)) 1) 0 0 4)) 2) 0 0 4)) 3) 0 0 4)) 4 (va_cpy ((G 0) 4) ((va_up (va_up (va_up (va_up (G 2) 0 (va_cpy ((G 0) 0) ((G 2) 0) 0 0 4)) 1 (va_cpy ((G 0) 1) ((va_up (G 2) 0 (va_cpy ((G 0) 0) ((G 2) 0) 0 0 4)) 1) 0 0 4)) 2 (va_cpy ((G 0) 2) ((va_up (va_up (G 2) 0 (va_cpy ((G 0) 0) ((G 2) 0) 0 0 4)) 1 (va_cpy ((G 0) 1) ((va_up (G 2) 0 (va_cpy ((G 0) 0) ((G 2) 0) 0 0 4)) 1) 0 0 4)) 2) 0 0 4)) 3 (va_cpy ((G 0) 3) ((va_up (va_up (va_up (G 2) 0 (va_cpy ((G 0) 0) ((G 2) 0) 0 0 4)) 1 (va_cpy ((G 0) 1) ((va_up (G 2) 0 (va_cpy ((G 0) 0) ((G 2) 0) 0 0 4)) 1) 0 0 4)) 2 (va_cpy ((G 0) 2) ((va_up (va_up (G 2) 0 (va_cpy ((G 0) 0) ((G 2) 0) 0 0 4)) 1 (va_cpy ((G 0) 1) ((va_up (G 2) 0 (va_cpy ((G 0) 0) ((G 2) 0) 0 0 4)) 1) 0 0 4)) 2) 0 0 4)) 3) 0 0 4)) 4) 0 0 4))) J) H := hP
  have hD : va_D A0 (wLead h cs (va_up I 212 (nI 0)) L A Q (va_up G 2 (va_up (va_up (va_up (va_up (va_up (G 2) 0 (va_cpy ((G 0) 0) ((G 2) 0) 0 0 4)) 1 (va_cpy ((G 0) 1) ((va_up (G 2) 0 (va_cpy ((G 0) 0) ((G 2) 0) 0 0 4)) 1) 0 0 4)) 2 (va_cpy ((G 0) 2) ((va_up (va_up (G 2) 0 (va_cpy ((G 0) 0) ((G 2) 0) 0 0 4)) 1 (va_cpy ((G 0) 1) ((va_up (G 2) 0 (va_cpy ((G 0) 0) ((G 2) 0) 0 0 4)) 1) 0 0 4)) 2) 0 0 4)) 3 (va_cpy ((G 0) 3) ((va_up (va_up (va_up (G 2) 0 (va_cpy ((G 0) 0) ((G 2) 0) 0 0 4)) 1 (va_cpy ((G 0) 1) ((va_up (G 2) 0 (va_cpy ((G 0) 0) ((G 2) 0) 0 0 4)) 1) 0 0 4)) 2 (va_cpy ((G 0) 2) ((va_up (va_up (G 2) 0 (va_cpy ((G 0) 0) ((G 2) 0) 0 0 4)) 1 (va_cpy ((G 0) 1) ((va_up (G 2) 0 (va_cpy ((G 0) 0) ((G 2) 0) 0 0 4)) 1) 0 0 4)) 2) 0 0 4)) 3) 0 0 4)) 4 (va_cpy ((G 0) 4) ((va_up (va_up (va_up (va_up (G 2) 0 (va_cpy ((G 0) 0) ((G 2) 0) 0 0 4)) 1 (va_cpy ((G 0) 1) ((va_up (G 2) 0 (va_cpy ((G 0) 0) ((G 2) 0) 0 0 4)) 1) 0 0 4)) 2 (va_cpy ((G 0) 2) ((va_up (va_up (G 2) 0 (va_cpy ((G 0) 0) ((G 2) 0) 0 0 4)) 1 (va_cpy ((G 0) 1) ((va_up (G 2) 0 (va_cpy ((G 0) 0) ((G 2) 0) 0 0 4)) 1) 0 0 4)) 2) 0 0 4)) 3 (va_cpy ((G 0) 3) ((va_up (va_up (va_up (G 2) 0 (va_cpy ((G 0) 0) ((G 2) 0) 0 0 4)) 1 (va_cpy ((G 0) 1) ((va_up (G 2) 0 (va_cpy ((G 0) 0) ((G 2) 0) 0 0 4)) 1) 0 0 4)) 2 (va_cpy ((G 0) 2) ((va_up (va_up (G 2) 0 (va_cpy ((G 0) 0) ((G 2) 0) 0 0 4)) 1 (va_cpy ((G 0) 1) ((va_up (G 2) 0 (va_cpy ((G 0) 0) ((G 2) 0) 0 0 4)) 1) 0 0 4)) 2) 0 0 4)) 3) 0 0 4)) 4) 0 0 4))) J) := hD
  refine lv_iinc (v := nI 5) (lv' := [(1, .int (nI 5)), (0, .ref (h 108))]) hx hb dX1_begin_33 hl (k := 0) rfl (by decide +kernel) (by decide) rfl (fun ls hl => ?_)
  refine lv_goto (tgt := 7) hx hb dX1_begin_36 (by decide) ?_
  refine lv_iload_n hx hb dX1_begin_7 rfl (lv_at hl 0 rfl) ?_
  refine lv_iconst (v := nI 5) hx hb dX1_begin_8 (by decide) ?_
  refine lv_icmp_ge (tgt := 39) hx hb dX1_begin_9 (by decide) (fun _ => ?_) (fun c9 => False.elim (by revert c9; decide +kernel))
  refine lv_iconst (v := nI 0) hx hb dX1_begin_39 (by decide) ?_
  refine lv_istore_n (lv' := [(1, .int (nI 0)), (0, .ref (h 108))]) hx hb dX1_begin_40 rfl hl (by decide) rfl (fun ls hl => ?_)
  have cut_41 : ∀ (nf : Nat) (n : Nat) (g3 : Nat → Nat → Int32), (4 - n) < nf → (n ≤ 4) → ∀ (H : Heap) (locs : List Loc) (ls : Array Slot), va_P (dC, dI) vwCl (wLead h cs (va_up I 212 (nI 0)) L A Q (va_up (va_up G 2 (va_up (va_up (va_up (va_up (va_up (G 2) 0 (va_cpy ((G 0) 0) ((G 2) 0) 0 0 4)) 1 (va_cpy ((G 0) 1) ((va_up (G 2) 0 (va_cpy ((G 0) 0) ((G 2) 0) 0 0 4)) 1) 0 0 4)) 2 (va_cpy ((G 0) 2) ((va_up (va_up (G 2) 0 (va_cpy ((G 0) 0) ((G 2) 0) 0 0 4)) 1 (va_cpy ((G 0) 1) ((va_up (G 2) 0 (va_cpy ((G 0) 0) ((G 2) 0) 0 0 4)) 1) 0 0 4)) 2) 0 0 4)) 3 (va_cpy ((G 0) 3) ((va_up (va_up (va_up (G 2) 0 (va_cpy ((G 0) 0) ((G 2) 0) 0 0 4)) 1 (va_cpy ((G 0) 1) ((va_up (G 2) 0 (va_cpy ((G 0) 0) ((G 2) 0) 0 0 4)) 1) 0 0 4)) 2 (va_cpy ((G 0) 2) ((va_up (va_up (G 2) 0 (va_cpy ((G 0) 0) ((G 2) 0) 0 0 4)) 1 (va_cpy ((G 0) 1) ((va_up (G 2) 0 (va_cpy ((G 0) 0) ((G 2) 0) 0 0 4)) 1) 0 0 4)) 2) 0 0 4)) 3) 0 0 4)) 4 (va_cpy ((G 0) 4) ((va_up (va_up (va_up (va_up (G 2) 0 (va_cpy ((G 0) 0) ((G 2) 0) 0 0 4)) 1 (va_cpy ((G 0) 1) ((va_up (G 2) 0 (va_cpy ((G 0) 0) ((G 2) 0) 0 0 4)) 1) 0 0 4)) 2 (va_cpy ((G 0) 2) ((va_up (va_up (G 2) 0 (va_cpy ((G 0) 0) ((G 2) 0) 0 0 4)) 1 (va_cpy ((G 0) 1) ((va_up (G 2) 0 (va_cpy ((G 0) 0) ((G 2) 0) 0 0 4)) 1) 0 0 4)) 2) 0 0 4)) 3 (va_cpy ((G 0) 3) ((va_up (va_up (va_up (G 2) 0 (va_cpy ((G 0) 0) ((G 2) 0) 0 0 4)) 1 (va_cpy ((G 0) 1) ((va_up (G 2) 0 (va_cpy ((G 0) 0) ((G 2) 0) 0 0 4)) 1) 0 0 4)) 2 (va_cpy ((G 0) 2) ((va_up (va_up (G 2) 0 (va_cpy ((G 0) 0) ((G 2) 0) 0 0 4)) 1 (va_cpy ((G 0) 1) ((va_up (G 2) 0 (va_cpy ((G 0) 0) ((G 2) 0) 0 0 4)) 1) 0 0 4)) 2) 0 0 4)) 3) 0 0 4)) 4) 0 0 4))) 3 g3) J) H → va_D A0 (wLead h cs (va_up I 212 (nI 0)) L A Q (va_up (va_up G 2 (va_up (va_up (va_up (va_up (va_up (G 2) 0 (va_cpy ((G 0) 0) ((G 2) 0) 0 0 4)) 1 (va_cpy ((G 0) 1) ((va_up (G 2) 0 (va_cpy ((G 0) 0) ((G 2) 0) 0 0 4)) 1) 0 0 4)) 2 (va_cpy ((G 0) 2) ((va_up (va_up (G 2) 0 (va_cpy ((G 0) 0) ((G 2) 0) 0 0 4)) 1 (va_cpy ((G 0) 1) ((va_up (G 2) 0 (va_cpy ((G 0) 0) ((G 2) 0) 0 0 4)) 1) 0 0 4)) 2) 0 0 4)) 3 (va_cpy ((G 0) 3) ((va_up (va_up (va_up (G 2) 0 (va_cpy ((G 0) 0) ((G 2) 0) 0 0 4)) 1 (va_cpy ((G 0) 1) ((va_up (G 2) 0 (va_cpy ((G 0) 0) ((G 2) 0) 0 0 4)) 1) 0 0 4)) 2 (va_cpy ((G 0) 2) ((va_up (va_up (G 2) 0 (va_cpy ((G 0) 0) ((G 2) 0) 0 0 4)) 1 (va_cpy ((G 0) 1) ((va_up (G 2) 0 (va_cpy ((G 0) 0) ((G 2) 0) 0 0 4)) 1) 0 0 4)) 2) 0 0 4)) 3) 0 0 4)) 4 (va_cpy ((G 0) 4) ((va_up (va_up (va_up (va_up (G 2) 0 (va_cpy ((G 0) 0) ((G 2) 0) 0 0 4)) 1 (va_cpy ((G 0) 1) ((va_up (G 2) 0 (va_cpy ((G 0) 0) ((G 2) 0) 0 0 4)) 1) 0 0 4)) 2 (va_cpy ((G 0) 2) ((va_up (va_up (G 2) 0 (va_cpy ((G 0) 0) ((G 2) 0) 0 0 4)) 1 (va_cpy ((G 0) 1) ((va_up (G 2) 0 (va_cpy ((G 0) 0) ((G 2) 0) 0 0 4)) 1) 0 0 4)) 2) 0 0 4)) 3 (va_cpy ((G 0) 3) ((va_up (va_up (va_up (G 2) 0 (va_cpy ((G 0) 0) ((G 2) 0) 0 0 4)) 1 (va_cpy ((G 0) 1) ((va_up (G 2) 0 (va_cpy ((G 0) 0) ((G 2) 0) 0 0 4)) 1) 0 0 4)) 2 (va_cpy ((G 0) 2) ((va_up (va_up (G 2) 0 (va_cpy ((G 0) 0) ((G 2) 0) 0 0 4)) 1 (va_cpy ((G 0) 1) ((va_up (G 2) 0 (va_cpy ((G 0) 0) ((G 2) 0) 0 0 4)) 1) 0 0 4)) 2) 0 0 4)) 3) 0 0 4)) 4) 0 0 4))) 3 g3) J) → va_S A0 s.heap H locs → lv_has ls 3 [(0, .ref (h 108)), (1, .int (nI n))] → W p l e (headSpec wsX1_begin ({ frames := 1, cells := 0, slots := 0, locals := 60 })).room s m ([.ref (h 108)] : List Value).toArray below meth c H locs 0 0 (MQ below (va_Qv (fun (u : CS) => ∃ i212 : Int32, ∃ g2 : Nat → Nat → Int32, ∃ g3 : Nat → Nat → Int32, (i212 = nI 0) ∧ u = ((va_up I 212 i212), L, A, Q, (va_up (va_up G 2 g2) 3 g3), J)) (xB (dC, dI) (tysA cs) A0 (fun u : CS => wLead h cs u.1 u.2.1 u.2.2.1 u.2.2.2.1 u.2.2.2.2.1 u.2.2.2.2.2)) A0) ([.ref (h 108)] : List Value).toArray s 0 0 A0) (F0 m 41 ls []) := by
    intro nf
    induction nf with
    | zero => intro n g3 hm; exact absurd hm (Nat.not_lt_zero _)
    | succ nf ih_41 =>
      intro n g3 hm_41 hn41 H locs ls hP hD hS hl
      refine lv_iload_n hx hb dX1_begin_41 rfl (lv_at hl 1 rfl) ?_
      refine lv_iconst (v := nI 4) hx hb dX1_begin_42 (by decide) ?_
      refine xn_ge (tgt := 83) hx hb dX1_begin_43 (by decide) (by omega) (by omega) (fun c_43_0 => ?_) (fun c_43_0 => ?_)
      · skip
        exact xr_v hx hb hr hlocks hK hS dX1_begin_83 ((va_up I 212 (nI 0)), L, A, Q, (va_up (va_up G 2 (va_up (va_up (va_up (va_up (va_up (G 2) 0 (va_cpy ((G 0) 0) ((G 2) 0) 0 0 4)) 1 (va_cpy ((G 0) 1) ((va_up (G 2) 0 (va_cpy ((G 0) 0) ((G 2) 0) 0 0 4)) 1) 0 0 4)) 2 (va_cpy ((G 0) 2) ((va_up (va_up (G 2) 0 (va_cpy ((G 0) 0) ((G 2) 0) 0 0 4)) 1 (va_cpy ((G 0) 1) ((va_up (G 2) 0 (va_cpy ((G 0) 0) ((G 2) 0) 0 0 4)) 1) 0 0 4)) 2) 0 0 4)) 3 (va_cpy ((G 0) 3) ((va_up (va_up (va_up (G 2) 0 (va_cpy ((G 0) 0) ((G 2) 0) 0 0 4)) 1 (va_cpy ((G 0) 1) ((va_up (G 2) 0 (va_cpy ((G 0) 0) ((G 2) 0) 0 0 4)) 1) 0 0 4)) 2 (va_cpy ((G 0) 2) ((va_up (va_up (G 2) 0 (va_cpy ((G 0) 0) ((G 2) 0) 0 0 4)) 1 (va_cpy ((G 0) 1) ((va_up (G 2) 0 (va_cpy ((G 0) 0) ((G 2) 0) 0 0 4)) 1) 0 0 4)) 2) 0 0 4)) 3) 0 0 4)) 4 (va_cpy ((G 0) 4) ((va_up (va_up (va_up (va_up (G 2) 0 (va_cpy ((G 0) 0) ((G 2) 0) 0 0 4)) 1 (va_cpy ((G 0) 1) ((va_up (G 2) 0 (va_cpy ((G 0) 0) ((G 2) 0) 0 0 4)) 1) 0 0 4)) 2 (va_cpy ((G 0) 2) ((va_up (va_up (G 2) 0 (va_cpy ((G 0) 0) ((G 2) 0) 0 0 4)) 1 (va_cpy ((G 0) 1) ((va_up (G 2) 0 (va_cpy ((G 0) 0) ((G 2) 0) 0 0 4)) 1) 0 0 4)) 2) 0 0 4)) 3 (va_cpy ((G 0) 3) ((va_up (va_up (va_up (G 2) 0 (va_cpy ((G 0) 0) ((G 2) 0) 0 0 4)) 1 (va_cpy ((G 0) 1) ((va_up (G 2) 0 (va_cpy ((G 0) 0) ((G 2) 0) 0 0 4)) 1) 0 0 4)) 2 (va_cpy ((G 0) 2) ((va_up (va_up (G 2) 0 (va_cpy ((G 0) 0) ((G 2) 0) 0 0 4)) 1 (va_cpy ((G 0) 1) ((va_up (G 2) 0 (va_cpy ((G 0) 0) ((G 2) 0) 0 0 4)) 1) 0 0 4)) 2) 0 0 4)) 3) 0 0 4)) 4) 0 0 4))) 3 g3), J) ⟨(nI 0), (va_up (va_up (va_up (va_up (va_up (G 2) 0 (va_cpy ((G 0) 0) ((G 2) 0) 0 0 4)) 1 (va_cpy ((G 0) 1) ((va_up (G 2) 0 (va_cpy ((G 0) 0) ((G 2) 0) 0 0 4)) 1) 0 0 4)) 2 (va_cpy ((G 0) 2) ((va_up (va_up (G 2) 0 (va_cpy ((G 0) 0) ((G 2) 0) 0 0 4)) 1 (va_cpy ((G 0) 1) ((va_up (G 2) 0 (va_cpy ((G 0) 0) ((G 2) 0) 0 0 4)) 1) 0 0 4)) 2) 0 0 4)) 3 (va_cpy ((G 0) 3) ((va_up (va_up (va_up (G 2) 0 (va_cpy ((G 0) 0) ((G 2) 0) 0 0 4)) 1 (va_cpy ((G 0) 1) ((va_up (G 2) 0 (va_cpy ((G 0) 0) ((G 2) 0) 0 0 4)) 1) 0 0 4)) 2 (va_cpy ((G 0) 2) ((va_up (va_up (G 2) 0 (va_cpy ((G 0) 0) ((G 2) 0) 0 0 4)) 1 (va_cpy ((G 0) 1) ((va_up (G 2) 0 (va_cpy ((G 0) 0) ((G 2) 0) 0 0 4)) 1) 0 0 4)) 2) 0 0 4)) 3) 0 0 4)) 4 (va_cpy ((G 0) 4) ((va_up (va_up (va_up (va_up (G 2) 0 (va_cpy ((G 0) 0) ((G 2) 0) 0 0 4)) 1 (va_cpy ((G 0) 1) ((va_up (G 2) 0 (va_cpy ((G 0) 0) ((G 2) 0) 0 0 4)) 1) 0 0 4)) 2 (va_cpy ((G 0) 2) ((va_up (va_up (G 2) 0 (va_cpy ((G 0) 0) ((G 2) 0) 0 0 4)) 1 (va_cpy ((G 0) 1) ((va_up (G 2) 0 (va_cpy ((G 0) 0) ((G 2) 0) 0 0 4)) 1) 0 0 4)) 2) 0 0 4)) 3 (va_cpy ((G 0) 3) ((va_up (va_up (va_up (G 2) 0 (va_cpy ((G 0) 0) ((G 2) 0) 0 0 4)) 1 (va_cpy ((G 0) 1) ((va_up (G 2) 0 (va_cpy ((G 0) 0) ((G 2) 0) 0 0 4)) 1) 0 0 4)) 2 (va_cpy ((G 0) 2) ((va_up (va_up (G 2) 0 (va_cpy ((G 0) 0) ((G 2) 0) 0 0 4)) 1 (va_cpy ((G 0) 1) ((va_up (G 2) 0 (va_cpy ((G 0) 0) ((G 2) 0) 0 0 4)) 1) 0 0 4)) 2) 0 0 4)) 3) 0 0 4)) 4) 0 0 4)), g3, rfl, rfl⟩ hP hD
      · skip
        refine lv_iconst (v := nI 0) hx hb dX1_begin_46 (by decide) ?_
        refine lv_istore_n (lv' := [(2, .int (nI 0)), (0, .ref (h 108)), (1, .int (nI n))]) hx hb dX1_begin_47 rfl hl (by decide) rfl (fun ls hl => ?_)
        have cut_48 : ∀ (nf : Nat) (k : Nat) (h3 : Nat → Nat → Int32), (4 - k) < nf → (k ≤ 4) → ∀ (H : Heap) (locs : List Loc) (ls : Array Slot), va_P (dC, dI) vwCl (wLead h cs (va_up I 212 (nI 0)) L A Q (va_up (va_up G 2 (va_up (va_up (va_up (va_up (va_up (G 2) 0 (va_cpy ((G 0) 0) ((G 2) 0) 0 0 4)) 1 (va_cpy ((G 0) 1) ((va_up (G 2) 0 (va_cpy ((G 0) 0) ((G 2) 0) 0 0 4)) 1) 0 0 4)) 2 (va_cpy ((G 0) 2) ((va_up (va_up (G 2) 0 (va_cpy ((G 0) 0) ((G 2) 0) 0 0 4)) 1 (va_cpy ((G 0) 1) ((va_up (G 2) 0 (va_cpy ((G 0) 0) ((G 2) 0) 0 0 4)) 1) 0 0 4)) 2) 0 0 4)) 3 (va_cpy ((G 0) 3) ((va_up (va_up (va_up (G 2) 0 (va_cpy ((G 0) 0) ((G 2) 0) 0 0 4)) 1 (va_cpy ((G 0) 1) ((va_up (G 2) 0 (va_cpy ((G 0) 0) ((G 2) 0) 0 0 4)) 1) 0 0 4)) 2 (va_cpy ((G 0) 2) ((va_up (va_up (G 2) 0 (va_cpy ((G 0) 0) ((G 2) 0) 0 0 4)) 1 (va_cpy ((G 0) 1) ((va_up (G 2) 0 (va_cpy ((G 0) 0) ((G 2) 0) 0 0 4)) 1) 0 0 4)) 2) 0 0 4)) 3) 0 0 4)) 4 (va_cpy ((G 0) 4) ((va_up (va_up (va_up (va_up (G 2) 0 (va_cpy ((G 0) 0) ((G 2) 0) 0 0 4)) 1 (va_cpy ((G 0) 1) ((va_up (G 2) 0 (va_cpy ((G 0) 0) ((G 2) 0) 0 0 4)) 1) 0 0 4)) 2 (va_cpy ((G 0) 2) ((va_up (va_up (G 2) 0 (va_cpy ((G 0) 0) ((G 2) 0) 0 0 4)) 1 (va_cpy ((G 0) 1) ((va_up (G 2) 0 (va_cpy ((G 0) 0) ((G 2) 0) 0 0 4)) 1) 0 0 4)) 2) 0 0 4)) 3 (va_cpy ((G 0) 3) ((va_up (va_up (va_up (G 2) 0 (va_cpy ((G 0) 0) ((G 2) 0) 0 0 4)) 1 (va_cpy ((G 0) 1) ((va_up (G 2) 0 (va_cpy ((G 0) 0) ((G 2) 0) 0 0 4)) 1) 0 0 4)) 2 (va_cpy ((G 0) 2) ((va_up (va_up (G 2) 0 (va_cpy ((G 0) 0) ((G 2) 0) 0 0 4)) 1 (va_cpy ((G 0) 1) ((va_up (G 2) 0 (va_cpy ((G 0) 0) ((G 2) 0) 0 0 4)) 1) 0 0 4)) 2) 0 0 4)) 3) 0 0 4)) 4) 0 0 4))) 3 h3) J) H → va_D A0 (wLead h cs (va_up I 212 (nI 0)) L A Q (va_up (va_up G 2 (va_up (va_up (va_up (va_up (va_up (G 2) 0 (va_cpy ((G 0) 0) ((G 2) 0) 0 0 4)) 1 (va_cpy ((G 0) 1) ((va_up (G 2) 0 (va_cpy ((G 0) 0) ((G 2) 0) 0 0 4)) 1) 0 0 4)) 2 (va_cpy ((G 0) 2) ((va_up (va_up (G 2) 0 (va_cpy ((G 0) 0) ((G 2) 0) 0 0 4)) 1 (va_cpy ((G 0) 1) ((va_up (G 2) 0 (va_cpy ((G 0) 0) ((G 2) 0) 0 0 4)) 1) 0 0 4)) 2) 0 0 4)) 3 (va_cpy ((G 0) 3) ((va_up (va_up (va_up (G 2) 0 (va_cpy ((G 0) 0) ((G 2) 0) 0 0 4)) 1 (va_cpy ((G 0) 1) ((va_up (G 2) 0 (va_cpy ((G 0) 0) ((G 2) 0) 0 0 4)) 1) 0 0 4)) 2 (va_cpy ((G 0) 2) ((va_up (va_up (G 2) 0 (va_cpy ((G 0) 0) ((G 2) 0) 0 0 4)) 1 (va_cpy ((G 0) 1) ((va_up (G 2) 0 (va_cpy ((G 0) 0) ((G 2) 0) 0 0 4)) 1) 0 0 4)) 2) 0 0 4)) 3) 0 0 4)) 4 (va_cpy ((G 0) 4) ((va_up (va_up (va_up (va_up (G 2) 0 (va_cpy ((G 0) 0) ((G 2) 0) 0 0 4)) 1 (va_cpy ((G 0) 1) ((va_up (G 2) 0 (va_cpy ((G 0) 0) ((G 2) 0) 0 0 4)) 1) 0 0 4)) 2 (va_cpy ((G 0) 2) ((va_up (va_up (G 2) 0 (va_cpy ((G 0) 0) ((G 2) 0) 0 0 4)) 1 (va_cpy ((G 0) 1) ((va_up (G 2) 0 (va_cpy ((G 0) 0) ((G 2) 0) 0 0 4)) 1) 0 0 4)) 2) 0 0 4)) 3 (va_cpy ((G 0) 3) ((va_up (va_up (va_up (G 2) 0 (va_cpy ((G 0) 0) ((G 2) 0) 0 0 4)) 1 (va_cpy ((G 0) 1) ((va_up (G 2) 0 (va_cpy ((G 0) 0) ((G 2) 0) 0 0 4)) 1) 0 0 4)) 2 (va_cpy ((G 0) 2) ((va_up (va_up (G 2) 0 (va_cpy ((G 0) 0) ((G 2) 0) 0 0 4)) 1 (va_cpy ((G 0) 1) ((va_up (G 2) 0 (va_cpy ((G 0) 0) ((G 2) 0) 0 0 4)) 1) 0 0 4)) 2) 0 0 4)) 3) 0 0 4)) 4) 0 0 4))) 3 h3) J) → va_S A0 s.heap H locs → lv_has ls 3 [(0, .ref (h 108)), (1, .int (nI n)), (2, .int (nI k))] → W p l e (headSpec wsX1_begin ({ frames := 1, cells := 0, slots := 0, locals := 60 })).room s m ([.ref (h 108)] : List Value).toArray below meth c H locs 0 0 (MQ below (va_Qv (fun (u : CS) => ∃ i212 : Int32, ∃ g2 : Nat → Nat → Int32, ∃ g3 : Nat → Nat → Int32, (i212 = nI 0) ∧ u = ((va_up I 212 i212), L, A, Q, (va_up (va_up G 2 g2) 3 g3), J)) (xB (dC, dI) (tysA cs) A0 (fun u : CS => wLead h cs u.1 u.2.1 u.2.2.1 u.2.2.2.1 u.2.2.2.2.1 u.2.2.2.2.2)) A0) ([.ref (h 108)] : List Value).toArray s 0 0 A0) (F0 m 48 ls []) := by
          intro nf
          induction nf with
          | zero => intro k h3 hm; exact absurd hm (Nat.not_lt_zero _)
          | succ nf ih_48 =>
            intro k h3 hm_48 hk48 H locs ls hP hD hS hl
            refine lv_iload_n hx hb dX1_begin_48 rfl (lv_at hl 2 rfl) ?_
            refine lv_iconst (v := nI 4) hx hb dX1_begin_49 (by decide) ?_
            refine xn_ge (tgt := 77) hx hb dX1_begin_50 (by decide) (by omega) (by omega) (fun c_50_1 => ?_) (fun c_50_1 => ?_)
            · skip
              refine lv_iinc (v := nI (n + 1)) (lv' := [(1, .int (nI (n + 1))), (0, .ref (h 108)), (2, .int (nI k))]) hx hb dX1_begin_77 hl (k := 1) rfl (nI_1 _) (by decide) rfl (fun ls hl => ?_)
              refine lv_goto (tgt := 41) hx hb dX1_begin_80 (by decide) ?_
              exact ih_41 (n + 1) h3 (by omega) (by first | assumption | omega) _ _ _ hP hD hS (lv_sub hl [1, 0] rfl)
            · skip
              refine lv_aload_n hx hb dX1_begin_53 rfl (lv_at hl 0 rfl) ?_
              refine va_get (D := (dC, dI)) (ci := 1) (v := .ref (h 206)) (C := RX1) (T := TX1) (N := 6) hx hb hts hinX1 hown hK hP 0 rfl rfl 2 (by decide) (hts (.fieldLink RX1 16 "MixedWords$Leader" "steps" "[[I") (by decide +kernel)) (fun _ h9 => h9) rfl dX1_begin_54 ?_
              refine lv_iload_n hx hb dX1_begin_57 rfl (lv_at hl 1 rfl) ?_
              refine xa_aald (b := h (n + 207)) hx hb hK hP 7 3 rfl rfl rfl (by omega) (by decide) (if_pos (by omega)) dX1_begin_58 ?_
              refine lv_iload_n hx hb dX1_begin_59 rfl (lv_at hl 2 rfl) ?_
              refine lv_iload_n hx hb dX1_begin_60 rfl (lv_at hl 1 rfl) ?_
              refine lv_iload_n hx hb dX1_begin_61 rfl (lv_at hl 2 rfl) ?_
              refine xn_ne (tgt := 69) hx hb dX1_begin_62 (by decide) (by omega) (by omega) (fun c_62_2 => ?_) (fun c_62_2 => ?_)
              · skip
                refine lv_iconst (v := nI 0) hx hb dX1_begin_69 (by decide) ?_
                refine xa_iast hx hb hK hP hD hS (8 + n) 0 (wLead_atG3 (by omega)) rfl (by omega) (by decide) dX1_begin_70 (fun H locs hP hD hS => ?_)
                rw [wLead_setG3 (by omega)] at hP hD
                have hP : va_P (dC, dI) vwCl (wLead h cs (va_up I 212 (nI 0)) L A Q (va_up (va_up G 2 (va_up (va_up (va_up (va_up (va_up (G 2) 0 (va_cpy ((G 0) 0) ((G 2) 0) 0 0 4)) 1 (va_cpy ((G 0) 1) ((va_up (G 2) 0 (va_cpy ((G 0) 0) ((G 2) 0) 0 0 4)) 1) 0 0 4)) 2 (va_cpy ((G 0) 2) ((va_up (va_up (G 2) 0 (va_cpy ((G 0) 0) ((G 2) 0) 0 0 4)) 1 (va_cpy ((G 0) 1) ((va_up (G 2) 0 (va_cpy ((G 0) 0) ((G 2) 0) 0 0 4)) 1) 0 0 4)) 2) 0 0 4)) 3 (va_cpy ((G 0) 3) ((va_up (va_up (va_up (G 2) 0 (va_cpy ((G 0) 0) ((G 2) 0) 0 0 4)) 1 (va_cpy ((G 0) 1) ((va_up (G 2) 0 (va_cpy ((G 0) 0) ((G 2) 0) 0 0 4)) 1) 0 0 4)) 2 (va_cpy ((G 0) 2) ((va_up (va_up (G 2) 0 (va_cpy ((G 0) 0) ((G 2) 0) 0 0 4)) 1 (va_cpy ((G 0) 1) ((va_up (G 2) 0 (va_cpy ((G 0) 0) ((G 2) 0) 0 0 4)) 1) 0 0 4)) 2) 0 0 4)) 3) 0 0 4)) 4 (va_cpy ((G 0) 4) ((va_up (va_up (va_up (va_up (G 2) 0 (va_cpy ((G 0) 0) ((G 2) 0) 0 0 4)) 1 (va_cpy ((G 0) 1) ((va_up (G 2) 0 (va_cpy ((G 0) 0) ((G 2) 0) 0 0 4)) 1) 0 0 4)) 2 (va_cpy ((G 0) 2) ((va_up (va_up (G 2) 0 (va_cpy ((G 0) 0) ((G 2) 0) 0 0 4)) 1 (va_cpy ((G 0) 1) ((va_up (G 2) 0 (va_cpy ((G 0) 0) ((G 2) 0) 0 0 4)) 1) 0 0 4)) 2) 0 0 4)) 3 (va_cpy ((G 0) 3) ((va_up (va_up (va_up (G 2) 0 (va_cpy ((G 0) 0) ((G 2) 0) 0 0 4)) 1 (va_cpy ((G 0) 1) ((va_up (G 2) 0 (va_cpy ((G 0) 0) ((G 2) 0) 0 0 4)) 1) 0 0 4)) 2 (va_cpy ((G 0) 2) ((va_up (va_up (G 2) 0 (va_cpy ((G 0) 0) ((G 2) 0) 0 0 4)) 1 (va_cpy ((G 0) 1) ((va_up (G 2) 0 (va_cpy ((G 0) 0) ((G 2) 0) 0 0 4)) 1) 0 0 4)) 2) 0 0 4)) 3) 0 0 4)) 4) 0 0 4))) 3 (va_up h3 n (upd (h3 n) k (nI 0)))) J) H := hP
                have hD : va_D A0 (wLead h cs (va_up I 212 (nI 0)) L A Q (va_up (va_up G 2 (va_up (va_up (va_up (va_up (va_up (G 2) 0 (va_cpy ((G 0) 0) ((G 2) 0) 0 0 4)) 1 (va_cpy ((G 0) 1) ((va_up (G 2) 0 (va_cpy ((G 0) 0) ((G 2) 0) 0 0 4)) 1) 0 0 4)) 2 (va_cpy ((G 0) 2) ((va_up (va_up (G 2) 0 (va_cpy ((G 0) 0) ((G 2) 0) 0 0 4)) 1 (va_cpy ((G 0) 1) ((va_up (G 2) 0 (va_cpy ((G 0) 0) ((G 2) 0) 0 0 4)) 1) 0 0 4)) 2) 0 0 4)) 3 (va_cpy ((G 0) 3) ((va_up (va_up (va_up (G 2) 0 (va_cpy ((G 0) 0) ((G 2) 0) 0 0 4)) 1 (va_cpy ((G 0) 1) ((va_up (G 2) 0 (va_cpy ((G 0) 0) ((G 2) 0) 0 0 4)) 1) 0 0 4)) 2 (va_cpy ((G 0) 2) ((va_up (va_up (G 2) 0 (va_cpy ((G 0) 0) ((G 2) 0) 0 0 4)) 1 (va_cpy ((G 0) 1) ((va_up (G 2) 0 (va_cpy ((G 0) 0) ((G 2) 0) 0 0 4)) 1) 0 0 4)) 2) 0 0 4)) 3) 0 0 4)) 4 (va_cpy ((G 0) 4) ((va_up (va_up (va_up (va_up (G 2) 0 (va_cpy ((G 0) 0) ((G 2) 0) 0 0 4)) 1 (va_cpy ((G 0) 1) ((va_up (G 2) 0 (va_cpy ((G 0) 0) ((G 2) 0) 0 0 4)) 1) 0 0 4)) 2 (va_cpy ((G 0) 2) ((va_up (va_up (G 2) 0 (va_cpy ((G 0) 0) ((G 2) 0) 0 0 4)) 1 (va_cpy ((G 0) 1) ((va_up (G 2) 0 (va_cpy ((G 0) 0) ((G 2) 0) 0 0 4)) 1) 0 0 4)) 2) 0 0 4)) 3 (va_cpy ((G 0) 3) ((va_up (va_up (va_up (G 2) 0 (va_cpy ((G 0) 0) ((G 2) 0) 0 0 4)) 1 (va_cpy ((G 0) 1) ((va_up (G 2) 0 (va_cpy ((G 0) 0) ((G 2) 0) 0 0 4)) 1) 0 0 4)) 2 (va_cpy ((G 0) 2) ((va_up (va_up (G 2) 0 (va_cpy ((G 0) 0) ((G 2) 0) 0 0 4)) 1 (va_cpy ((G 0) 1) ((va_up (G 2) 0 (va_cpy ((G 0) 0) ((G 2) 0) 0 0 4)) 1) 0 0 4)) 2) 0 0 4)) 3) 0 0 4)) 4) 0 0 4))) 3 (va_up h3 n (upd (h3 n) k (nI 0)))) J) := hD
                refine lv_iinc (v := nI (k + 1)) (lv' := [(2, .int (nI (k + 1))), (0, .ref (h 108)), (1, .int (nI n))]) hx hb dX1_begin_71 hl (k := 2) rfl (nI_1 _) (by decide) rfl (fun ls hl => ?_)
                refine lv_goto (tgt := 48) hx hb dX1_begin_74 (by decide) ?_
                exact ih_48 (k + 1) (va_up h3 n (upd (h3 n) k (nI 0))) (by omega) (by first | assumption | omega) _ _ _ hP hD hS (lv_sub hl [1, 2, 0] rfl)
              · skip
                refine lv_iconst (v := nI 1) hx hb dX1_begin_65 (by decide) ?_
                refine lv_goto (tgt := 70) hx hb dX1_begin_66 (by decide) ?_
                refine xa_iast hx hb hK hP hD hS (8 + n) 0 (wLead_atG3 (by omega)) rfl (by omega) (by decide) dX1_begin_70 (fun H locs hP hD hS => ?_)
                rw [wLead_setG3 (by omega)] at hP hD
                have hP : va_P (dC, dI) vwCl (wLead h cs (va_up I 212 (nI 0)) L A Q (va_up (va_up G 2 (va_up (va_up (va_up (va_up (va_up (G 2) 0 (va_cpy ((G 0) 0) ((G 2) 0) 0 0 4)) 1 (va_cpy ((G 0) 1) ((va_up (G 2) 0 (va_cpy ((G 0) 0) ((G 2) 0) 0 0 4)) 1) 0 0 4)) 2 (va_cpy ((G 0) 2) ((va_up (va_up (G 2) 0 (va_cpy ((G 0) 0) ((G 2) 0) 0 0 4)) 1 (va_cpy ((G 0) 1) ((va_up (G 2) 0 (va_cpy ((G 0) 0) ((G 2) 0) 0 0 4)) 1) 0 0 4)) 2) 0 0 4)) 3 (va_cpy ((G 0) 3) ((va_up (va_up (va_up (G 2) 0 (va_cpy ((G 0) 0) ((G 2) 0) 0 0 4)) 1 (va_cpy ((G 0) 1) ((va_up (G 2) 0 (va_cpy ((G 0) 0) ((G 2) 0) 0 0 4)) 1) 0 0 4)) 2 (va_cpy ((G 0) 2) ((va_up (va_up (G 2) 0 (va_cpy ((G 0) 0) ((G 2) 0) 0 0 4)) 1 (va_cpy ((G 0) 1) ((va_up (G 2) 0 (va_cpy ((G 0) 0) ((G 2) 0) 0 0 4)) 1) 0 0 4)) 2) 0 0 4)) 3) 0 0 4)) 4 (va_cpy ((G 0) 4) ((va_up (va_up (va_up (va_up (G 2) 0 (va_cpy ((G 0) 0) ((G 2) 0) 0 0 4)) 1 (va_cpy ((G 0) 1) ((va_up (G 2) 0 (va_cpy ((G 0) 0) ((G 2) 0) 0 0 4)) 1) 0 0 4)) 2 (va_cpy ((G 0) 2) ((va_up (va_up (G 2) 0 (va_cpy ((G 0) 0) ((G 2) 0) 0 0 4)) 1 (va_cpy ((G 0) 1) ((va_up (G 2) 0 (va_cpy ((G 0) 0) ((G 2) 0) 0 0 4)) 1) 0 0 4)) 2) 0 0 4)) 3 (va_cpy ((G 0) 3) ((va_up (va_up (va_up (G 2) 0 (va_cpy ((G 0) 0) ((G 2) 0) 0 0 4)) 1 (va_cpy ((G 0) 1) ((va_up (G 2) 0 (va_cpy ((G 0) 0) ((G 2) 0) 0 0 4)) 1) 0 0 4)) 2 (va_cpy ((G 0) 2) ((va_up (va_up (G 2) 0 (va_cpy ((G 0) 0) ((G 2) 0) 0 0 4)) 1 (va_cpy ((G 0) 1) ((va_up (G 2) 0 (va_cpy ((G 0) 0) ((G 2) 0) 0 0 4)) 1) 0 0 4)) 2) 0 0 4)) 3) 0 0 4)) 4) 0 0 4))) 3 (va_up h3 n (upd (h3 n) k (nI 1)))) J) H := hP
                have hD : va_D A0 (wLead h cs (va_up I 212 (nI 0)) L A Q (va_up (va_up G 2 (va_up (va_up (va_up (va_up (va_up (G 2) 0 (va_cpy ((G 0) 0) ((G 2) 0) 0 0 4)) 1 (va_cpy ((G 0) 1) ((va_up (G 2) 0 (va_cpy ((G 0) 0) ((G 2) 0) 0 0 4)) 1) 0 0 4)) 2 (va_cpy ((G 0) 2) ((va_up (va_up (G 2) 0 (va_cpy ((G 0) 0) ((G 2) 0) 0 0 4)) 1 (va_cpy ((G 0) 1) ((va_up (G 2) 0 (va_cpy ((G 0) 0) ((G 2) 0) 0 0 4)) 1) 0 0 4)) 2) 0 0 4)) 3 (va_cpy ((G 0) 3) ((va_up (va_up (va_up (G 2) 0 (va_cpy ((G 0) 0) ((G 2) 0) 0 0 4)) 1 (va_cpy ((G 0) 1) ((va_up (G 2) 0 (va_cpy ((G 0) 0) ((G 2) 0) 0 0 4)) 1) 0 0 4)) 2 (va_cpy ((G 0) 2) ((va_up (va_up (G 2) 0 (va_cpy ((G 0) 0) ((G 2) 0) 0 0 4)) 1 (va_cpy ((G 0) 1) ((va_up (G 2) 0 (va_cpy ((G 0) 0) ((G 2) 0) 0 0 4)) 1) 0 0 4)) 2) 0 0 4)) 3) 0 0 4)) 4 (va_cpy ((G 0) 4) ((va_up (va_up (va_up (va_up (G 2) 0 (va_cpy ((G 0) 0) ((G 2) 0) 0 0 4)) 1 (va_cpy ((G 0) 1) ((va_up (G 2) 0 (va_cpy ((G 0) 0) ((G 2) 0) 0 0 4)) 1) 0 0 4)) 2 (va_cpy ((G 0) 2) ((va_up (va_up (G 2) 0 (va_cpy ((G 0) 0) ((G 2) 0) 0 0 4)) 1 (va_cpy ((G 0) 1) ((va_up (G 2) 0 (va_cpy ((G 0) 0) ((G 2) 0) 0 0 4)) 1) 0 0 4)) 2) 0 0 4)) 3 (va_cpy ((G 0) 3) ((va_up (va_up (va_up (G 2) 0 (va_cpy ((G 0) 0) ((G 2) 0) 0 0 4)) 1 (va_cpy ((G 0) 1) ((va_up (G 2) 0 (va_cpy ((G 0) 0) ((G 2) 0) 0 0 4)) 1) 0 0 4)) 2 (va_cpy ((G 0) 2) ((va_up (va_up (G 2) 0 (va_cpy ((G 0) 0) ((G 2) 0) 0 0 4)) 1 (va_cpy ((G 0) 1) ((va_up (G 2) 0 (va_cpy ((G 0) 0) ((G 2) 0) 0 0 4)) 1) 0 0 4)) 2) 0 0 4)) 3) 0 0 4)) 4) 0 0 4))) 3 (va_up h3 n (upd (h3 n) k (nI 1)))) J) := hD
                refine lv_iinc (v := nI (k + 1)) (lv' := [(2, .int (nI (k + 1))), (0, .ref (h 108)), (1, .int (nI n))]) hx hb dX1_begin_71 hl (k := 2) rfl (nI_1 _) (by decide) rfl (fun ls hl => ?_)
                refine lv_goto (tgt := 48) hx hb dX1_begin_74 (by decide) ?_
                exact ih_48 (k + 1) (va_up h3 n (upd (h3 n) k (nI 1))) (by omega) (by first | assumption | omega) _ _ _ hP hD hS (lv_sub hl [1, 2, 0] rfl)
        exact cut_48 _ 0 g3 (Nat.lt_succ_self _) (by first | assumption | omega) _ _ _ hP hD hS (lv_sub hl [1, 2, 0] rfl)
  exact cut_41 _ 0 (G 3) (Nat.lt_succ_self _) (by first | assumption | omega) _ _ _ hP hD hS (lv_sub hl [1, 0] rfl)
set_option maxRecDepth 20000 in
theorem ggX1_lead_X1_begin : GoodIn wsX1_lead wsX1_begin := goodIn_r _ [9, 4, 2, 10, 11, 12, 13, 14, 15, 16, 38, 39, 40, 41, 42, 43, 44, 45, 46, 47, 48, 49] (by decide +kernel) (by decide +kernel)
set_option maxRecDepth 20000 in
theorem gX1_lead_X1_begin : GoodIn wsX1_lead (wsV RX1 34 RX1 yX1_begin wsX1_begin) := goodIn_app (goodIn_of _ (by decide +kernel)) ggX1_lead_X1_begin
set_option maxRecDepth 20000 in
theorem ggX1_lead_X1_shortenFirst : GoodIn wsX1_lead wsX1_shortenFirst := goodIn_r _ [20, 2, 21, 22, 23, 24, 8, 25, 11, 26, 27, 28, 29, 30, 31, 32, 33, 34, 35, 36, 37, 16, 38, 39, 40, 41, 42, 43, 44, 45, 46, 47, 48, 49] (by decide +kernel) (by decide +kernel)
set_option maxRecDepth 20000 in
theorem gX1_lead_X1_shortenFirst : GoodIn wsX1_lead (wsV RX1 40 RX1 yX1_shortenFirst wsX1_shortenFirst) := goodIn_app (goodIn_of _ (by decide +kernel)) ggX1_lead_X1_shortenFirst
theorem bdX1_lead_0 : (decode cX1_lead 0 = .ok (.aload_n 0, 1)) ∧ (decode cX1_lead 1 = .ok (.getfield 23, 3)) ∧ (decode cX1_lead 4 = .ok (.aload_n 0, 1)) ∧ (decode cX1_lead 5 = .ok (.getfield 27, 3)) ∧ (decode cX1_lead 8 = .ok (.getfield 31, 3)) ∧ (decode cX1_lead 11 = .ok (.if_icmp .ne 4, 3)) ∧ (decode cX1_lead 14 = .ok (.return_, 1)) ∧ (decode cX1_lead 15 = .ok (.aload_n 0, 1)) ∧ (decode cX1_lead 16 = .ok (.invokevirtual 34, 3)) ∧ (decode cX1_lead 19 = .ok (.aload_n 0, 1)) ∧ (decode cX1_lead 20 = .ok (.getfield 37, 3)) ∧ (decode cX1_lead 23 = .ok (.sipush 2000, 3)) ∧ (decode cX1_lead 26 = .ok (.if_icmp .ge 23, 3)) ∧ (decode cX1_lead 29 = .ok (.aload_n 0, 1)) ∧ (decode cX1_lead 30 = .ok (.invokevirtual 40, 3)) ∧ (decode cX1_lead 33 = .ok (.ifCond .eq 16, 3)) := by decide +kernel
theorem dX1_lead_0 : decode cX1_lead 0 = .ok (.aload_n 0, 1) := bdX1_lead_0.1
theorem dX1_lead_1 : decode cX1_lead 1 = .ok (.getfield 23, 3) := bdX1_lead_0.2.1
theorem dX1_lead_4 : decode cX1_lead 4 = .ok (.aload_n 0, 1) := bdX1_lead_0.2.2.1
theorem dX1_lead_5 : decode cX1_lead 5 = .ok (.getfield 27, 3) := bdX1_lead_0.2.2.2.1
theorem dX1_lead_8 : decode cX1_lead 8 = .ok (.getfield 31, 3) := bdX1_lead_0.2.2.2.2.1
theorem dX1_lead_11 : decode cX1_lead 11 = .ok (.if_icmp .ne 4, 3) := bdX1_lead_0.2.2.2.2.2.1
theorem dX1_lead_14 : decode cX1_lead 14 = .ok (.return_, 1) := bdX1_lead_0.2.2.2.2.2.2.1
theorem dX1_lead_15 : decode cX1_lead 15 = .ok (.aload_n 0, 1) := bdX1_lead_0.2.2.2.2.2.2.2.1
theorem dX1_lead_16 : decode cX1_lead 16 = .ok (.invokevirtual 34, 3) := bdX1_lead_0.2.2.2.2.2.2.2.2.1
theorem dX1_lead_19 : decode cX1_lead 19 = .ok (.aload_n 0, 1) := bdX1_lead_0.2.2.2.2.2.2.2.2.2.1
theorem dX1_lead_20 : decode cX1_lead 20 = .ok (.getfield 37, 3) := bdX1_lead_0.2.2.2.2.2.2.2.2.2.2.1
theorem dX1_lead_23 : decode cX1_lead 23 = .ok (.sipush 2000, 3) := bdX1_lead_0.2.2.2.2.2.2.2.2.2.2.2.1
theorem dX1_lead_26 : decode cX1_lead 26 = .ok (.if_icmp .ge 23, 3) := bdX1_lead_0.2.2.2.2.2.2.2.2.2.2.2.2.1
theorem dX1_lead_29 : decode cX1_lead 29 = .ok (.aload_n 0, 1) := bdX1_lead_0.2.2.2.2.2.2.2.2.2.2.2.2.2.1
theorem dX1_lead_30 : decode cX1_lead 30 = .ok (.invokevirtual 40, 3) := bdX1_lead_0.2.2.2.2.2.2.2.2.2.2.2.2.2.2.1
theorem dX1_lead_33 : decode cX1_lead 33 = .ok (.ifCond .eq 16, 3) := bdX1_lead_0.2.2.2.2.2.2.2.2.2.2.2.2.2.2.2
theorem bdX1_lead_36 : (decode cX1_lead 36 = .ok (.aload_n 0, 1)) ∧ (decode cX1_lead 37 = .ok (.dup, 1)) ∧ (decode cX1_lead 38 = .ok (.getfield 37, 3)) ∧ (decode cX1_lead 41 = .ok (.iconst 1, 1)) ∧ (decode cX1_lead 42 = .ok (.iadd, 1)) ∧ (decode cX1_lead 43 = .ok (.putfield 37, 3)) ∧ (decode cX1_lead 46 = .ok (.goto (-27), 3)) ∧ (decode cX1_lead 49 = .ok (.aload_n 0, 1)) ∧ (decode cX1_lead 50 = .ok (.aload_n 0, 1)) ∧ (decode cX1_lead 51 = .ok (.getfield 27, 3)) ∧ (decode cX1_lead 54 = .ok (.getfield 31, 3)) ∧ (decode cX1_lead 57 = .ok (.putfield 23, 3)) ∧ (decode cX1_lead 60 = .ok (.return_, 1)) := by decide +kernel
theorem dX1_lead_36 : decode cX1_lead 36 = .ok (.aload_n 0, 1) := bdX1_lead_36.1
theorem dX1_lead_37 : decode cX1_lead 37 = .ok (.dup, 1) := bdX1_lead_36.2.1
theorem dX1_lead_38 : decode cX1_lead 38 = .ok (.getfield 37, 3) := bdX1_lead_36.2.2.1
theorem dX1_lead_41 : decode cX1_lead 41 = .ok (.iconst 1, 1) := bdX1_lead_36.2.2.2.1
theorem dX1_lead_42 : decode cX1_lead 42 = .ok (.iadd, 1) := bdX1_lead_36.2.2.2.2.1
theorem dX1_lead_43 : decode cX1_lead 43 = .ok (.putfield 37, 3) := bdX1_lead_36.2.2.2.2.2.1
theorem dX1_lead_46 : decode cX1_lead 46 = .ok (.goto (-27), 3) := bdX1_lead_36.2.2.2.2.2.2.1
theorem dX1_lead_49 : decode cX1_lead 49 = .ok (.aload_n 0, 1) := bdX1_lead_36.2.2.2.2.2.2.2.1
theorem dX1_lead_50 : decode cX1_lead 50 = .ok (.aload_n 0, 1) := bdX1_lead_36.2.2.2.2.2.2.2.2.1
theorem dX1_lead_51 : decode cX1_lead 51 = .ok (.getfield 27, 3) := bdX1_lead_36.2.2.2.2.2.2.2.2.2.1
theorem dX1_lead_54 : decode cX1_lead 54 = .ok (.getfield 31, 3) := bdX1_lead_36.2.2.2.2.2.2.2.2.2.2.1
theorem dX1_lead_57 : decode cX1_lead 57 = .ok (.putfield 23, 3) := bdX1_lead_36.2.2.2.2.2.2.2.2.2.2.2.1
theorem dX1_lead_60 : decode cX1_lead 60 = .ok (.return_, 1) := bdX1_lead_36.2.2.2.2.2.2.2.2.2.2.2.2
set_option maxHeartbeats 4000000 in
set_option maxRecDepth 100000 in
theorem k_X1_lead (l : Launch) (dC : Nat → ClassId) (dI : Nat → Nat → Nat) (h : Nat → Nat) (cs : Nat → ClassId) (sz : Nat) (I : Nat → Int32) (L : Nat → Int64) (A : Nat → Nat → Int32) (Q : Nat → Nat → Int64) (G : Nat → Nat → Nat → Int32) (J : Nat → Nat → Nat → Int64) (R M : Nat) (hR : I 120 = nI R) (hR1 : 1 ≤ R) (hR5 : R ≤ 5) (hM : I 121 = nI M) (hM1 : 1 ≤ M) (hM4 : M ≤ 4) : Met l yX1_lead wsX1_lead ({ frames := 3, cells := 0, slots := 0, locals := 108 }) (va_Pc [.ref (h 108)] (xPre (dC, dI) (wLead h cs I L A Q G J) (tysA cs) sz)) (va_Qv (fun (u : CS) => ∃ i212 : Int32, ∃ i213 : Int32, ∃ g2 : Nat → Nat → Int32, ∃ g3 : Nat → Nat → Int32, (True) ∧ u = ((va_up (va_up I 212 i212) 213 i213), L, A, Q, (va_up (va_up G 2 g2) 3 g3), J)) (xB (dC, dI) (tysA cs) (va_A (wLead h cs I L A Q G J) sz) (fun u : CS => wLead h cs u.1 u.2.1 u.2.2.1 u.2.2.2.1 u.2.2.2.2.1 u.2.2.2.2.2)) (va_A (wLead h cs I L A Q G J) sz)) 0 0 (va_A (wLead h cs I L A Q G J) sz) := by
  refine Met.ofW (cc := cX1_lead) (maxL := 1) (ret := none) (by decide) rfl ?_
  intro p e s m args below meth c s₁ B hml hv
  obtain ⟨rfl, hsz, hP, hK, hD0, hN⟩ := hv
  have hx := B.exec
  have hb := B.bytes
  have hr := B.returns
  have hts := atoms_spec (ws := wsX1_lead) B.pre
  have hown : s.vm.findClass RX1 = some m.cls := findClass_of_methodNamed B.named
  have hlocks := B.notSynchronized
  subst hsz
  have hD := hD0.self (sz := s.heap.size)
  generalize hAe : va_A (wLead h cs I L A Q G J) s.heap.size = A0 at hD ⊢
  have hA : ∀ q : Nat, s.heap.size ≤ q → A0 q := fun q h => by rw [← hAe]; exact Or.inr h
  have hl := lv_entry ([.ref (h 108)]) (n := 1) (Nat.le_of_ble_eq_true rfl)
  rw [lg_entry_eq]
  generalize (lg_sl ([.ref (h 108)]) ++ List.replicate (1 - (lg_sl ([.ref (h 108)])).length) Slot.unset).toArray = ls at hl ⊢
  have hl : lv_has ls 1 [(0, .ref (h 108))] := hl
  generalize hH : s.heap = H at hP ⊢
  have hS : va_S A0 s.heap H [] := by rw [← hH]; exact va_S.rf
  have hinX1 : ∀ w ∈ wsX10, w ∈ wsX1_lead := by decide +kernel
  have hinX3 : ∀ w ∈ wsX30, w ∈ wsX1_lead := by decide +kernel
  refine lv_aload_n hx hb dX1_lead_0 rfl (lv_at hl 0 rfl) ?_
  refine va_get (D := (dC, dI)) (ci := 1) (v := .int (I 213)) (C := RX1) (T := TX1) (N := 6) hx hb hts hinX1 hown hK hP 0 rfl rfl 5 (by decide) (hts (.fieldLink RX1 23 "MixedWords$Leader" "stamp" "I") (by decide +kernel)) (fun _ h9 => h9) rfl dX1_lead_1 ?_
  refine lv_aload_n hx hb dX1_lead_4 rfl (lv_at hl 0 rfl) ?_
  refine va_get (D := (dC, dI)) (ci := 1) (v := .ref (h 101)) (C := RX1) (T := TX1) (N := 6) hx hb hts hinX1 hown hK hP 0 rfl rfl 0 (by decide) (hts (.fieldLink RX1 27 "MixedWords$Leader" "mix" "LMixedWords$Mix;") (by decide +kernel)) (fun _ h9 => h9) rfl dX1_lead_5 ?_
  refine va_get (D := (dC, dI)) (ci := 3) (v := .int (I 123)) (C := RX3) (T := TX3) (N := 6) hx hb hts hinX3 hown hK hP 13 rfl rfl 3 (by decide) (hts (.fieldLink RX1 31 "MixedWords$Mix" "stamp" "I") (by decide +kernel)) (fun _ h9 => h9) rfl dX1_lead_8 ?_
  refine lv_icmp_ne (tgt := 15) hx hb dX1_lead_11 (by decide) (fun c_11_0 => ?_) (fun c_11_0 => ?_)
  · skip
    refine lv_aload_n hx hb dX1_lead_15 rfl (lv_at hl 0 rfl) ?_
    refine xj_v (wc := (wLead h cs I L A Q G J)) (wr := ([] : va_W)) hP hD hS hA [0, 1, 2, 3, 4, 5, 6, 7, 8, 9, 10, 11, 12, 13, 14, 15, 16, 17, 18, 19, 20] [] rfl rfl (by decide) (by decide) (va_runV (As := []) (rest := []) ⟨hx, hb, hml, hown, hts⟩ (k_X1_begin l dC dI h cs H.size I L A Q G J 0) (cwV 0 hts gX1_lead_X1_begin rfl rfl rfl (by decide +kernel) ⟨Nat.le_of_ble_eq_true rfl, Nat.le_of_ble_eq_true rfl⟩) (xpV (wc := (wLead h cs I L A Q G J)) hP hD hK hN [0, 1, 2, 3, 4, 5, 6, 7, 8, 9, 10, 11, 12, 13, 14, 15, 16, 17, 18, 19, 20] rfl (by decide) 0 (ci := 1) rfl rfl _) rfl rfl hl.1 rfl (lv_room (Nat.le_of_ble_eq_true rfl)) dX1_lead_16 ⟨Nat.zero_le _, Nat.zero_le _⟩) (fun u_2 H locs hw hP hD hS => ?_)
    obtain ⟨i212_4, g2_5, g3_6, hf_7, rfl⟩ := hw
    have hP : va_P (dC, dI) vwCl (wLead h cs (va_up I 212 i212_4) L A Q (va_up (va_up G 2 g2_5) 3 g3_6) J) H := hP
    have hD : va_D A0 (wLead h cs (va_up I 212 i212_4) L A Q (va_up (va_up G 2 g2_5) 3 g3_6) J) := hD
    obtain rfl := hf_7
    have cut_19 : ∀ (nf : Nat) (n : Nat) (g2 : Nat → Nat → Int32) (g3 : Nat → Nat → Int32), (2000 - n) < nf → (n ≤ 2000) → ∀ (H : Heap) (locs : List Loc) (ls : Array Slot), va_P (dC, dI) vwCl (wLead h cs (va_up I 212 (nI n)) L A Q (va_up (va_up G 2 g2) 3 g3) J) H → va_D A0 (wLead h cs (va_up I 212 (nI n)) L A Q (va_up (va_up G 2 g2) 3 g3) J) → va_S A0 s.heap H locs → lv_has ls 1 [(0, .ref (h 108))] → W p l e (headSpec wsX1_lead ({ frames := 3, cells := 0, slots := 0, locals := 108 })).room s m ([.ref (h 108)] : List Value).toArray below meth c H locs 0 0 (MQ below (va_Qv (fun (u : CS) => ∃ i212 : Int32, ∃ i213 : Int32, ∃ g2 : Nat → Nat → Int32, ∃ g3 : Nat → Nat → Int32, (True) ∧ u = ((va_up (va_up I 212 i212) 213 i213), L, A, Q, (va_up (va_up G 2 g2) 3 g3), J)) (xB (dC, dI) (tysA cs) A0 (fun u : CS => wLead h cs u.1 u.2.1 u.2.2.1 u.2.2.2.1 u.2.2.2.2.1 u.2.2.2.2.2)) A0) ([.ref (h 108)] : List Value).toArray s 0 0 A0) (F0 m 19 ls []) := by
      intro nf
      induction nf with
      | zero => intro n g2 g3 hm; exact absurd hm (Nat.not_lt_zero _)
      | succ nf ih_19 =>
        intro n g2 g3 hm_19 hn19 H locs ls hP hD hS hl
        refine lv_aload_n hx hb dX1_lead_19 rfl (lv_at hl 0 rfl) ?_
        refine va_get (D := (dC, dI)) (ci := 1) (v := .int (nI n)) (C := RX1) (T := TX1) (N := 6) hx hb hts hinX1 hown hK hP 0 rfl rfl 4 (by decide) (hts (.fieldLink RX1 37 "MixedWords$Leader" "times" "I") (by decide +kernel)) (fun _ h9 => h9) rfl dX1_lead_20 ?_
        refine lv_sipush (v := nI 2000) hx hb dX1_lead_23 (by decide) ?_
        refine xn_ge (tgt := 49) hx hb dX1_lead_26 (by decide) (by omega) (by omega) (fun c_26_7 => ?_) (fun c_26_7 => ?_)
        · skip
          refine lv_aload_n hx hb dX1_lead_49 rfl (lv_at hl 0 rfl) ?_
          refine lv_aload_n hx hb dX1_lead_50 rfl (lv_at hl 0 rfl) ?_
          refine va_get (D := (dC, dI)) (ci := 1) (v := .ref (h 101)) (C := RX1) (T := TX1) (N := 6) hx hb hts hinX1 hown hK hP 0 rfl rfl 0 (by decide) (hts (.fieldLink RX1 27 "MixedWords$Leader" "mix" "LMixedWords$Mix;") (by decide +kernel)) (fun _ h9 => h9) rfl dX1_lead_51 ?_
          refine va_get (D := (dC, dI)) (ci := 3) (v := .int (I 123)) (C := RX3) (T := TX3) (N := 6) hx hb hts hinX3 hown hK hP 13 rfl rfl 3 (by decide) (hts (.fieldLink RX1 31 "MixedWords$Mix" "stamp" "I") (by decide +kernel)) (fun _ h9 => h9) rfl dX1_lead_54 ?_
          refine va_put (D := (dC, dI)) (ci := 1) (v := .int (I 123)) (ty := .int) (C := RX1) (T := TX1) (N := 6) hx hb hts hinX1 tyX1 tyX1_ok nmX1 hown hK hP hD hS 0 rfl rfl 5 (by decide) (hts (.fieldLink RX1 23 "MixedWords$Leader" "stamp" "I") (by decide +kernel)) (fun _ h9 => h9) rfl (by decide +kernel) rfl rfl (Nat.le_of_ble_eq_true rfl) dX1_lead_57 (fun H locs hP hD hS => ?_)
          have hP : va_P (dC, dI) vwCl (wLead h cs (va_up (va_up I 212 (nI n)) 213 (I 123)) L A Q (va_up (va_up G 2 g2) 3 g3) J) H := hP
          have hD : va_D A0 (wLead h cs (va_up (va_up I 212 (nI n)) 213 (I 123)) L A Q (va_up (va_up G 2 g2) 3 g3) J) := hD
          exact xr_v hx hb hr hlocks hK hS dX1_lead_60 ((va_up (va_up I 212 (nI n)) 213 (I 123)), L, A, Q, (va_up (va_up G 2 g2) 3 g3), J) ⟨(nI n), (I 123), g2, g3, trivial, rfl⟩ hP hD
        · skip
          refine lv_aload_n hx hb dX1_lead_29 rfl (lv_at hl 0 rfl) ?_
          refine xj_i (wc := (wLead h cs (va_up I 212 (nI n)) L A Q (va_up (va_up G 2 g2) 3 g3) J)) (wr := ([] : va_W)) hP hD hS hA [0, 1, 2, 3, 4, 5, 6, 7, 8, 9, 10, 11, 12, 13, 14, 15, 16, 17, 18, 19, 20] [] rfl rfl (by decide) (by decide) (va_runV (As := []) (rest := []) ⟨hx, hb, hml, hown, hts⟩ (k_X1_shortenFirst l dC dI h cs H.size (va_up I 212 (nI n)) L A Q (va_up (va_up G 2 g2) 3 g3) J R M hR (by first | assumption | omega | exact hR1) (by first | assumption | omega | exact hR5) hM (by first | assumption | omega | exact hM1) (by first | assumption | omega | exact hM4)) (cwV 0 hts gX1_lead_X1_shortenFirst rfl rfl rfl (by decide +kernel) ⟨Nat.le_of_ble_eq_true rfl, Nat.le_of_ble_eq_true rfl⟩) (xpV (wc := (wLead h cs (va_up I 212 (nI n)) L A Q (va_up (va_up G 2 g2) 3 g3) J)) hP hD hK hN [0, 1, 2, 3, 4, 5, 6, 7, 8, 9, 10, 11, 12, 13, 14, 15, 16, 17, 18, 19, 20] rfl (by decide) 0 (ci := 1) rfl rfl _) rfl rfl hl.1 rfl (lv_room (Nat.le_of_ble_eq_true rfl)) dX1_lead_30 ⟨Nat.zero_le _, Nat.zero_le _⟩) (fun r_10 u_9 H locs hw hP hD hS => ?_)
          obtain ⟨g2_11, g3_12, hf_13, rfl⟩ := hw
          have hP : va_P (dC, dI) vwCl (wLead h cs (va_up I 212 (nI n)) L A Q (va_up (va_up G 2 g2_11) 3 g3_12) J) H := hP
          have hD : va_D A0 (wLead h cs (va_up I 212 (nI n)) L A Q (va_up (va_up G 2 g2_11) 3 g3_12) J) := hD
          rcases hf_13 with rfl | rfl
          · skip
            refine lv_if_eq (tgt := 49) hx hb dX1_lead_33 (by decide) (fun _ => ?_) (fun c9 => False.elim (by revert c9; decide +kernel))
            refine lv_aload_n hx hb dX1_lead_49 rfl (lv_at hl 0 rfl) ?_
            refine lv_aload_n hx hb dX1_lead_50 rfl (lv_at hl 0 rfl) ?_
            refine va_get (D := (dC, dI)) (ci := 1) (v := .ref (h 101)) (C := RX1) (T := TX1) (N := 6) hx hb hts hinX1 hown hK hP 0 rfl rfl 0 (by decide) (hts (.fieldLink RX1 27 "MixedWords$Leader" "mix" "LMixedWords$Mix;") (by decide +kernel)) (fun _ h9 => h9) rfl dX1_lead_51 ?_
            refine va_get (D := (dC, dI)) (ci := 3) (v := .int (I 123)) (C := RX3) (T := TX3) (N := 6) hx hb hts hinX3 hown hK hP 13 rfl rfl 3 (by decide) (hts (.fieldLink RX1 31 "MixedWords$Mix" "stamp" "I") (by decide +kernel)) (fun _ h9 => h9) rfl dX1_lead_54 ?_
            refine va_put (D := (dC, dI)) (ci := 1) (v := .int (I 123)) (ty := .int) (C := RX1) (T := TX1) (N := 6) hx hb hts hinX1 tyX1 tyX1_ok nmX1 hown hK hP hD hS 0 rfl rfl 5 (by decide) (hts (.fieldLink RX1 23 "MixedWords$Leader" "stamp" "I") (by decide +kernel)) (fun _ h9 => h9) rfl (by decide +kernel) rfl rfl (Nat.le_of_ble_eq_true rfl) dX1_lead_57 (fun H locs hP hD hS => ?_)
            have hP : va_P (dC, dI) vwCl (wLead h cs (va_up (va_up I 212 (nI n)) 213 (I 123)) L A Q (va_up (va_up G 2 g2_11) 3 g3_12) J) H := hP
            have hD : va_D A0 (wLead h cs (va_up (va_up I 212 (nI n)) 213 (I 123)) L A Q (va_up (va_up G 2 g2_11) 3 g3_12) J) := hD
            exact xr_v hx hb hr hlocks hK hS dX1_lead_60 ((va_up (va_up I 212 (nI n)) 213 (I 123)), L, A, Q, (va_up (va_up G 2 g2_11) 3 g3_12), J) ⟨(nI n), (I 123), g2_11, g3_12, trivial, rfl⟩ hP hD
          · skip
            refine lv_if_eq (tgt := 49) hx hb dX1_lead_33 (by decide) (fun c9 => False.elim (by revert c9; decide +kernel)) (fun _ => ?_)
            refine lv_aload_n hx hb dX1_lead_36 rfl (lv_at hl 0 rfl) ?_
            refine lv_dup hx hb dX1_lead_37 rfl ?_
            refine va_get (D := (dC, dI)) (ci := 1) (v := .int (nI n)) (C := RX1) (T := TX1) (N := 6) hx hb hts hinX1 hown hK hP 0 rfl rfl 4 (by decide) (hts (.fieldLink RX1 37 "MixedWords$Leader" "times" "I") (by decide +kernel)) (fun _ h9 => h9) rfl dX1_lead_38 ?_
            refine lv_iconst (v := nI 1) hx hb dX1_lead_41 (by decide) ?_
            refine lv_iadd hx hb dX1_lead_42 ?_
            refine xt_i (y := nI (n + 1)) (nI_add _ _) ?_
            refine va_put (D := (dC, dI)) (ci := 1) (v := .int (nI (n + 1))) (ty := .int) (C := RX1) (T := TX1) (N := 6) hx hb hts hinX1 tyX1 tyX1_ok nmX1 hown hK hP hD hS 0 rfl rfl 4 (by decide) (hts (.fieldLink RX1 37 "MixedWords$Leader" "times" "I") (by decide +kernel)) (fun _ h9 => h9) rfl (by decide +kernel) rfl rfl (Nat.le_of_ble_eq_true rfl) dX1_lead_43 (fun H locs hP hD hS => ?_)
            have hP : va_P (dC, dI) vwCl (wLead h cs (va_up I 212 (nI (n + 1))) L A Q (va_up (va_up G 2 g2_11) 3 g3_12) J) H := hP
            have hD : va_D A0 (wLead h cs (va_up I 212 (nI (n + 1))) L A Q (va_up (va_up G 2 g2_11) 3 g3_12) J) := hD
            refine lv_goto (tgt := 19) hx hb dX1_lead_46 (by decide) ?_
            exact ih_19 (n + 1) g2_11 g3_12 (by omega) (by first | assumption | omega) _ _ _ hP hD hS (lv_sub hl [0] rfl)
    exact cut_19 _ 0 g2_5 g3_6 (Nat.lt_succ_self _) (by first | assumption | omega) _ _ _ hP hD hS (lv_sub hl [0] rfl)
  · skip
    exact xr_v hx hb hr hlocks hK hS dX1_lead_14 ((va_up (va_up I 212 (I 212)) 213 (I 213)), L, A, Q, (va_up (va_up G 2 (G 2)) 3 (G 3)), J) ⟨(I 212), (I 213), (G 2), (G 3), trivial, rfl⟩ hP hD
