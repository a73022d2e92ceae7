def wD_34 (h : Nat → Nat) (cs : Nat → ClassId) (I : Nat → Int32) (L : Nat → Int64) (A : Nat → Nat → Int32) (Q : Nat → Nat → Int64) (G : Nat → Nat → Nat → Int32) (J : Nat → Nat → Nat → Int64) : va_W := [(h 108, .inr (1, [.ref (h 101), .ref (h 200), .ref (h 206), .ref (h 211), .int (I 212), .int (I 213)])), (h 101, .inr (3, [.int (I 120), .int (I 121), .int (I 122), .int (I 123), .ref (h 130), .ref (h 136)])), (h 130, .inl (cs 3, 5, .inr (.inr (.inr (.inr (fun i => if i < 5 then some (h (i + 131)) else none)))))), (h 131, .inl (cs 0, 4, .inl ((G 0) 0))), (h 132, .inl (cs 0, 4, .inl ((G 0) 1))), (h 133, .inl (cs 0, 4, .inl ((G 0) 2))), (h 134, .inl (cs 0, 4, .inl ((G 0) 3))), (h 135, .inl (cs 0, 4, .inl ((G 0) 4))), (h 136, .inl (cs 0, 5, .inl (A 136))), (h 200, .inl (cs 3, 5, .inr (.inr (.inr (.inr (fun i => if i < 5 then some (h (i + 201)) else none)))))), (h 201, .inl (cs 0, 4, .inl ((G 2) 0))), (h 202, .inl (cs 0, 4, .inl ((G 2) 1))), (h 203, .inl (cs 0, 4, .inl ((G 2) 2))), (h 204, .inl (cs 0, 4, .inl ((G 2) 3))), (h 205, .inl (cs 0, 4, .inl ((G 2) 4))), (h 206, .inl (cs 3, 4, .inr (.inr (.inr (.inr (fun i => if i < 4 then some (h (i + 207)) else none)))))), (h 207, .inl (cs 0, 4, .inl ((G 3) 0))), (h 208, .inl (cs 0, 4, .inl ((G 3) 1))), (h 209, .inl (cs 0, 4, .inl ((G 3) 2))), (h 210, .inl (cs 0, 4, .inl ((G 3) 3))), (h 211, .inl (cs 0, 5, .inl (A 211)))]
def qG_37 : Nat → Nat → Nat → Int32 := (va_up fG 3 (va_up (fG 3) 0 (upd ((fG 3) 0) 0 (nI 1))))
def qG_38 : Nat → Nat → Nat → Int32 := (va_up qG_37 3 (va_up (qG_37 3) 1 (upd ((qG_37 3) 1) 1 (nI 1))))
def qG_39 : Nat → Nat → Nat → Int32 := (va_up qG_38 3 (va_up (qG_38 3) 2 (upd ((qG_38 3) 2) 2 (nI 1))))
def qG_40 : Nat → Nat → Nat → Int32 := (va_up qG_39 3 (va_up (qG_39 3) 3 (upd ((qG_39 3) 3) 3 (nI 1))))
theorem dX1_begin_0 : decode cX1_begin 0 = .ok (.aload_n 0, 1) := by decide +kernel
theorem dX1_begin_1 : decode cX1_begin 1 = .ok (.iconst 0, 1) := by decide +kernel
theorem dX1_begin_2 : decode cX1_begin 2 = .ok (.putfield 37, 3) := by decide +kernel
theorem dX1_begin_5 : decode cX1_begin 5 = .ok (.iconst 0, 1) := by decide +kernel
theorem dX1_begin_6 : decode cX1_begin 6 = .ok (.istore_n 1, 1) := by decide +kernel
theorem dX1_begin_7 : decode cX1_begin 7 = .ok (.iload_n 1, 1) := by decide +kernel
theorem dX1_begin_8 : decode cX1_begin 8 = .ok (.iconst 5, 1) := by decide +kernel
theorem dX1_begin_9 : decode cX1_begin 9 = .ok (.if_icmp .ge 30, 3) := by decide +kernel
theorem dX1_begin_12 : decode cX1_begin 12 = .ok (.aload_n 0, 1) := by decide +kernel
theorem dX1_begin_13 : decode cX1_begin 13 = .ok (.getfield 27, 3) := by decide +kernel
theorem dX1_begin_16 : decode cX1_begin 16 = .ok (.getfield 44, 3) := by decide +kernel
theorem dX1_begin_19 : decode cX1_begin 19 = .ok (.iload_n 1, 1) := by decide +kernel
theorem dX1_begin_20 : decode cX1_begin 20 = .ok (.aaload, 1) := by decide +kernel
theorem dX1_begin_21 : decode cX1_begin 21 = .ok (.iconst 0, 1) := by decide +kernel
theorem dX1_begin_22 : decode cX1_begin 22 = .ok (.aload_n 0, 1) := by decide +kernel
theorem dX1_begin_23 : decode cX1_begin 23 = .ok (.getfield 11, 3) := by decide +kernel
theorem dX1_begin_26 : decode cX1_begin 26 = .ok (.iload_n 1, 1) := by decide +kernel
theorem dX1_begin_27 : decode cX1_begin 27 = .ok (.aaload, 1) := by decide +kernel
theorem dX1_begin_28 : decode cX1_begin 28 = .ok (.iconst 0, 1) := by decide +kernel
theorem dX1_begin_29 : decode cX1_begin 29 = .ok (.iconst 4, 1) := by decide +kernel
theorem dX1_begin_30 : decode cX1_begin 30 = .ok (.invokestatic 47, 3) := by decide +kernel
theorem dX1_begin_33 : decode cX1_begin 33 = .ok (.iinc 1 1, 3) := by decide +kernel
theorem dX1_begin_36 : decode cX1_begin 36 = .ok (.goto (-29), 3) := by decide +kernel
theorem dX1_begin_39 : decode cX1_begin 39 = .ok (.iconst 0, 1) := by decide +kernel
theorem dX1_begin_40 : decode cX1_begin 40 = .ok (.istore_n 1, 1) := by decide +kernel
theorem dX1_begin_41 : decode cX1_begin 41 = .ok (.iload_n 1, 1) := by decide +kernel
theorem dX1_begin_42 : decode cX1_begin 42 = .ok (.iconst 4, 1) := by decide +kernel
theorem dX1_begin_43 : decode cX1_begin 43 = .ok (.if_icmp .ge 40, 3) := by decide +kernel
theorem dX1_begin_46 : decode cX1_begin 46 = .ok (.iconst 0, 1) := by decide +kernel
theorem dX1_begin_47 : decode cX1_begin 47 = .ok (.istore_n 2, 1) := by decide +kernel
theorem dX1_begin_48 : decode cX1_begin 48 = .ok (.iload_n 2, 1) := by decide +kernel
theorem dX1_begin_49 : decode cX1_begin 49 = .ok (.iconst 4, 1) := by decide +kernel
theorem dX1_begin_50 : decode cX1_begin 50 = .ok (.if_icmp .ge 27, 3) := by decide +kernel
theorem dX1_begin_53 : decode cX1_begin 53 = .ok (.aload_n 0, 1) := by decide +kernel
theorem dX1_begin_54 : decode cX1_begin 54 = .ok (.getfield 16, 3) := by decide +kernel
theorem dX1_begin_57 : decode cX1_begin 57 = .ok (.iload_n 1, 1) := by decide +kernel
theorem dX1_begin_58 : decode cX1_begin 58 = .ok (.aaload, 1) := by decide +kernel
theorem dX1_begin_59 : decode cX1_begin 59 = .ok (.iload_n 2, 1) := by decide +kernel
theorem dX1_begin_60 : decode cX1_begin 60 = .ok (.iload_n 1, 1) := by decide +kernel
theorem dX1_begin_61 : decode cX1_begin 61 = .ok (.iload_n 2, 1) := by decide +kernel
theorem dX1_begin_62 : decode cX1_begin 62 = .ok (.if_icmp .ne 7, 3) := by decide +kernel
theorem dX1_begin_65 : decode cX1_begin 65 = .ok (.iconst 1, 1) := by decide +kernel
theorem dX1_begin_66 : decode cX1_begin 66 = .ok (.goto 4, 3) := by decide +kernel
theorem dX1_begin_69 : decode cX1_begin 69 = .ok (.iconst 0, 1) := by decide +kernel
theorem dX1_begin_70 : decode cX1_begin 70 = .ok (.iastore, 1) := by decide +kernel
theorem dX1_begin_71 : decode cX1_begin 71 = .ok (.iinc 2 1, 3) := by decide +kernel
theorem dX1_begin_74 : decode cX1_begin 74 = .ok (.goto (-26), 3) := by decide +kernel
theorem dX1_begin_77 : decode cX1_begin 77 = .ok (.iinc 1 1, 3) := by decide +kernel
theorem dX1_begin_80 : decode cX1_begin 80 = .ok (.goto (-39), 3) := by decide +kernel
theorem dX1_begin_83 : decode cX1_begin 83 = .ok (.return_, 1) := by decide +kernel
set_option maxHeartbeats 4000000 in
set_option maxRecDepth 100000 in
theorem a_X1_begin_36 (l : Launch) (dC : Nat → ClassId) (dI : Nat → Nat → Nat) (h : Nat → Nat) (cs : Nat → ClassId) (sz : Nat) (I : Nat → Int32) (L : Nat → Int64) (A : Nat → Nat → Int32) (Q : Nat → Nat → Int64) (G : Nat → Nat → Nat → Int32) (J : Nat → Nat → Nat → Int64) : Met l yX1_begin wsX1_begin ({ frames := 1, cells := 0, slots := 0, locals := 60 }) (va_Pc [.ref (h 108)] (xPre (dC, dI) (wD_34 h cs fI fL fA fQ fG fJ) (tysA cs) sz)) (va_Qv (fun (u : CS) => (True) ∧ u = (fI, fL, fA, fQ, qG_40, fJ)) (xB (dC, dI) (tysA cs) (va_A (wD_34 h cs fI fL fA fQ fG fJ) sz) (fun u : CS => wD_34 h cs u.1 u.2.1 u.2.2.1 u.2.2.2.1 u.2.2.2.2.1 u.2.2.2.2.2)) (va_A (wD_34 h cs fI fL fA fQ fG fJ) sz)) 0 0 (va_A (wD_34 h cs fI fL fA fQ fG fJ) sz) := by
  refine Met.ofW (cc := cX1_begin) (maxL := 3) (ret := none) (by decide) rfl ?_
  intro p e s m args below meth c s₁ B hml hv
  obtain ⟨rfl, hsz, hP, hK, hD0, hN⟩ := hv
  have hx := B.exec
  have hb := B.bytes
  have hr := B.returns
  have hts := atoms_spec (ws := wsX1_begin) B.pre
  have hown : s.vm.findClass RX1 = some m.cls := findClass_of_methodNamed B.named
  have hlocks := B.notSynchronized
  subst hsz
  have hD := hD0.self (sz := s.heap.size)
  generalize hAe : va_A (wD_34 h cs fI fL fA fQ fG fJ) s.heap.size = A0 at hD ⊢
  have hA : ∀ q : Nat, s.heap.size ≤ q → A0 q := fun q h => by rw [← hAe]; exact Or.inr h
  have hl := lv_entry ([.ref (h 108)]) (n := 3) (Nat.le_of_ble_eq_true rfl)
  rw [lg_entry_eq]
  generalize (lg_sl ([.ref (h 108)]) ++ List.replicate (3 - (lg_sl ([.ref (h 108)])).length) Slot.unset).toArray = ls at hl ⊢
  have hl : lv_has ls 3 [(0, .ref (h 108))] := hl
  generalize hH : s.heap = H at hP ⊢
  have hS : va_S A0 s.heap H [] := by rw [← hH]; exact va_S.rf
  have hinX1 : ∀ w ∈ wsX10, w ∈ wsX1_begin := by decide +kernel
  have hinX3 : ∀ w ∈ wsX30, w ∈ wsX1_begin := by decide +kernel
  refine lv_aload_n hx hb dX1_begin_0 rfl (lv_at hl 0 rfl) ?_
  refine lv_iconst (v := nI 0) hx hb dX1_begin_1 (by decide) ?_
  refine va_put (D := (dC, dI)) (ci := 1) (v := .int (nI 0)) (ty := .int) (C := RX1) (T := TX1) (N := 6) hx hb hts hinX1 tyX1 tyX1_ok nmX1 hown hK hP hD hS 0 rfl rfl 4 (by decide) (hts (.fieldLink RX1 37 "MixedWords$Leader" "times" "I") (by decide +kernel)) (fun _ h9 => h9) rfl (by decide +kernel) rfl rfl (Nat.le_of_ble_eq_true rfl) dX1_begin_2 (fun H locs hP hD hS => ?_)
  have hP : va_P (dC, dI) vwCl (wD_34 h cs fI fL fA fQ fG fJ) H := hP
  have hD : va_D A0 (wD_34 h cs fI fL fA fQ fG fJ) := hD
  refine lv_iconst (v := nI 0) hx hb dX1_begin_5 (by decide) ?_
  refine lv_istore_n (lv' := [(1, .int (nI 0)), (0, .ref (h 108))]) hx hb dX1_begin_6 rfl hl (by decide) rfl (fun ls hl => ?_)
  refine lv_iload_n hx hb dX1_begin_7 rfl (lv_at hl 0 rfl) ?_
  refine lv_iconst (v := nI 5) hx hb dX1_begin_8 (by decide) ?_
  refine lv_icmp_ge (tgt := 39) hx hb dX1_begin_9 (by decide) (fun c9 => False.elim (by revert c9; decide +kernel)) (fun _ => ?_)
  refine lv_aload_n hx hb dX1_begin_12 rfl (lv_at hl 1 rfl) ?_
  refine va_get (D := (dC, dI)) (ci := 1) (v := .ref (h 101)) (C := RX1) (T := TX1) (N := 6) hx hb hts hinX1 hown hK hP 0 rfl rfl 0 (by decide) (hts (.fieldLink RX1 27 "MixedWords$Leader" "mix" "LMixedWords$Mix;") (by decide +kernel)) (fun _ h9 => h9) rfl dX1_begin_13 ?_
  refine va_get (D := (dC, dI)) (ci := 3) (v := .ref (h 130)) (C := RX3) (T := TX3) (N := 6) hx hb hts hinX3 hown hK hP 1 rfl rfl 4 (by decide) (hts (.fieldLink RX1 44 "MixedWords$Mix" "cells" "[[I") (by decide +kernel)) (fun _ h9 => h9) rfl dX1_begin_16 ?_
  refine lv_iload_n hx hb dX1_begin_19 rfl (lv_at hl 0 rfl) ?_
  refine xa_aald (b := h 131) hx hb hK hP 2 3 rfl rfl rfl (by omega) (by decide) (if_pos (by omega)) dX1_begin_20 ?_
  refine lv_iconst (v := nI 0) hx hb dX1_begin_21 (by decide) ?_
  refine lv_aload_n hx hb dX1_begin_22 rfl (lv_at hl 1 rfl) ?_
  refine va_get (D := (dC, dI)) (ci := 1) (v := .ref (h 200)) (C := RX1) (T := TX1) (N := 6) hx hb hts hinX1 hown hK hP 0 rfl rfl 1 (by decide) (hts (.fieldLink RX1 11 "MixedWords$Leader" "columns" "[[I") (by decide +kernel)) (fun _ h9 => h9) rfl dX1_begin_23 ?_
  refine lv_iload_n hx hb dX1_begin_26 rfl (lv_at hl 0 rfl) ?_
  refine xa_aald (b := h 201) hx hb hK hP 9 3 rfl rfl rfl (by omega) (by decide) (if_pos (by omega)) dX1_begin_27 ?_
  refine lv_iconst (v := nI 0) hx hb dX1_begin_28 (by decide) ?_
  refine lv_iconst (v := nI 4) hx hb dX1_begin_29 (by decide) ?_
  refine xa_copyS hx hb (hml.trans hl.1.symm) hown (hts (.methodLink RX1 47 arraycopyName) (by decide +kernel)) (hts (.native arraycopyName) (by decide +kernel)) (hts (.static arraycopyName) (by decide +kernel)) (hts (.initialized "java/lang/System") (by decide +kernel)) hK hP hD hS 3 10 rfl rfl (by omega) (by omega) (by decide) (by decide) (by decide +kernel) (Nat.le_of_ble_eq_true rfl) (Nat.le_of_ble_eq_true rfl) dX1_begin_30 (fun H locs hP hD hS => ?_)
  refine lv_iinc (v := nI 1) (lv' := [(1, .int (nI 1)), (0, .ref (h 108))]) hx hb dX1_begin_33 hl (k := 0) rfl (by decide +kernel) (by decide) rfl (fun ls hl => ?_)
  refine lv_goto (tgt := 7) hx hb dX1_begin_36 (by decide) ?_
  refine lv_iload_n hx hb dX1_begin_7 rfl (lv_at hl 0 rfl) ?_
  refine lv_iconst (v := nI 5) hx hb dX1_begin_8 (by decide) ?_
  refine lv_icmp_ge (tgt := 39) hx hb dX1_begin_9 (by decide) (fun c9 => False.elim (by revert c9; decide +kernel)) (fun _ => ?_)
  refine lv_aload_n hx hb dX1_begin_12 rfl (lv_at hl 1 rfl) ?_
  refine va_get (D := (dC, dI)) (ci := 1) (v := .ref (h 101)) (C := RX1) (T := TX1) (N := 6) hx hb hts hinX1 hown hK hP 0 rfl rfl 0 (by decide) (hts (.fieldLink RX1 27 "MixedWords$Leader" "mix" "LMixedWords$Mix;") (by decide +kernel)) (fun _ h9 => h9) rfl dX1_begin_13 ?_
  refine va_get (D := (dC, dI)) (ci := 3) (v := .ref (h 130)) (C := RX3) (T := TX3) (N := 6) hx hb hts hinX3 hown hK hP 1 rfl rfl 4 (by decide) (hts (.fieldLink RX1 44 "MixedWords$Mix" "cells" "[[I") (by decide +kernel)) (fun _ h9 => h9) rfl dX1_begin_16 ?_
  refine lv_iload_n hx hb dX1_begin_19 rfl (lv_at hl 0 rfl) ?_
  refine xa_aald (b := h 132) hx hb hK hP 2 3 rfl rfl rfl (by omega) (by decide) (if_pos (by omega)) dX1_begin_20 ?_
  refine lv_iconst (v := nI 0) hx hb dX1_begin_21 (by decide) ?_
  refine lv_aload_n hx hb dX1_begin_22 rfl (lv_at hl 1 rfl) ?_
  refine va_get (D := (dC, dI)) (ci := 1) (v := .ref (h 200)) (C := RX1) (T := TX1) (N := 6) hx hb hts hinX1 hown hK hP 0 rfl rfl 1 (by decide) (hts (.fieldLink RX1 11 "MixedWords$Leader" "columns" "[[I") (by decide +kernel)) (fun _ h9 => h9) rfl dX1_begin_23 ?_
  refine lv_iload_n hx hb dX1_begin_26 rfl (lv_at hl 0 rfl) ?_
  refine xa_aald (b := h 202) hx hb hK hP 9 3 rfl rfl rfl (by omega) (by decide) (if_pos (by omega)) dX1_begin_27 ?_
  refine lv_iconst (v := nI 0) hx hb dX1_begin_28 (by decide) ?_
  refine lv_iconst (v := nI 4) hx hb dX1_begin_29 (by decide) ?_
  refine xa_copyS hx hb (hml.trans hl.1.symm) hown (hts (.methodLink RX1 47 arraycopyName) (by decide +kernel)) (hts (.native arraycopyName) (by decide +kernel)) (hts (.static arraycopyName) (by decide +kernel)) (hts (.initialized "java/lang/System") (by decide +kernel)) hK hP hD hS 4 11 rfl rfl (by omega) (by omega) (by decide) (by decide) (by decide +kernel) (Nat.le_of_ble_eq_true rfl) (Nat.le_of_ble_eq_true rfl) dX1_begin_30 (fun H locs hP hD hS => ?_)
  refine lv_iinc (v := nI 2) (lv' := [(1, .int (nI 2)), (0, .ref (h 108))]) hx hb dX1_begin_33 hl (k := 0) rfl (by decide +kernel) (by decide) rfl (fun ls hl => ?_)
  refine lv_goto (tgt := 7) hx hb dX1_begin_36 (by decide) ?_
  refine lv_iload_n hx hb dX1_begin_7 rfl (lv_at hl 0 rfl) ?_
  refine lv_iconst (v := nI 5) hx hb dX1_begin_8 (by decide) ?_
  refine lv_icmp_ge (tgt := 39) hx hb dX1_begin_9 (by decide) (fun c9 => False.elim (by revert c9; decide +kernel)) (fun _ => ?_)
  refine lv_aload_n hx hb dX1_begin_12 rfl (lv_at hl 1 rfl) ?_
  refine va_get (D := (dC, dI)) (ci := 1) (v := .ref (h 101)) (C := RX1) (T := TX1) (N := 6) hx hb hts hinX1 hown hK hP 0 rfl rfl 0 (by decide) (hts (.fieldLink RX1 27 "MixedWords$Leader" "mix" "LMixedWords$Mix;") (by decide +kernel)) (fun _ h9 => h9) rfl dX1_begin_13 ?_
  refine va_get (D := (dC, dI)) (ci := 3) (v := .ref (h 130)) (C := RX3) (T := TX3) (N := 6) hx hb hts hinX3 hown hK hP 1 rfl rfl 4 (by decide) (hts (.fieldLink RX1 44 "MixedWords$Mix" "cells" "[[I") (by decide +kernel)) (fun _ h9 => h9) rfl dX1_begin_16 ?_
  refine lv_iload_n hx hb dX1_begin_19 rfl (lv_at hl 0 rfl) ?_
  refine xa_aald (b := h 133) hx hb hK hP 2 3 rfl rfl rfl (by omega) (by decide) (if_pos (by omega)) dX1_begin_20 ?_
  refine lv_iconst (v := nI 0) hx hb dX1_begin_21 (by decide) ?_
  refine lv_aload_n hx hb dX1_begin_22 rfl (lv_at hl 1 rfl) ?_
  refine va_get (D := (dC, dI)) (ci := 1) (v := .ref (h 200)) (C := RX1) (T := TX1) (N := 6) hx hb hts hinX1 hown hK hP 0 rfl rfl 1 (by decide) (hts (.fieldLink RX1 11 "MixedWords$Leader" "columns" "[[I") (by decide +kernel)) (fun _ h9 => h9) rfl dX1_begin_23 ?_
  refine lv_iload_n hx hb dX1_begin_26 rfl (lv_at hl 0 rfl) ?_
  refine xa_aald (b := h 203) hx hb hK hP 9 3 rfl rfl rfl (by omega) (by decide) (if_pos (by omega)) dX1_begin_27 ?_
  refine lv_iconst (v := nI 0) hx hb dX1_begin_28 (by decide) ?_
  refine lv_iconst (v := nI 4) hx hb dX1_begin_29 (by decide) ?_
  refine xa_copyS hx hb (hml.trans hl.1.symm) hown (hts (.methodLink RX1 47 arraycopyName) (by decide +kernel)) (hts (.native arraycopyName) (by decide +kernel)) (hts (.static arraycopyName) (by decide +kernel)) (hts (.initialized "java/lang/System") (by decide +kernel)) hK hP hD hS 5 12 rfl rfl (by omega) (by omega) (by decide) (by decide) (by decide +kernel) (Nat.le_of_ble_eq_true rfl) (Nat.le_of_ble_eq_true rfl) dX1_begin_30 (fun H locs hP hD hS => ?_)
  refine lv_iinc (v := nI 3) (lv' := [(1, .int (nI 3)), (0, .ref (h 108))]) hx hb dX1_begin_33 hl (k := 0) rfl (by decide +kernel) (by decide) rfl (fun ls hl => ?_)
  refine lv_goto (tgt := 7) hx hb dX1_begin_36 (by decide) ?_
  refine lv_iload_n hx hb dX1_begin_7 rfl (lv_at hl 0 rfl) ?_
  refine lv_iconst (v := nI 5) hx hb dX1_begin_8 (by decide) ?_
  refine lv_icmp_ge (tgt := 39) hx hb dX1_begin_9 (by decide) (fun c9 => False.elim (by revert c9; decide +kernel)) (fun _ => ?_)
  refine lv_aload_n hx hb dX1_begin_12 rfl (lv_at hl 1 rfl) ?_
  refine va_get (D := (dC, dI)) (ci := 1) (v := .ref (h 101)) (C := RX1) (T := TX1) (N := 6) hx hb hts hinX1 hown hK hP 0 rfl rfl 0 (by decide) (hts (.fieldLink RX1 27 "MixedWords$Leader" "mix" "LMixedWords$Mix;") (by decide +kernel)) (fun _ h9 => h9) rfl dX1_begin_13 ?_
  refine va_get (D := (dC, dI)) (ci := 3) (v := .ref (h 130)) (C := RX3) (T := TX3) (N := 6) hx hb hts hinX3 hown hK hP 1 rfl rfl 4 (by decide) (hts (.fieldLink RX1 44 "MixedWords$Mix" "cells" "[[I") (by decide +kernel)) (fun _ h9 => h9) rfl dX1_begin_16 ?_
  refine lv_iload_n hx hb dX1_begin_19 rfl (lv_at hl 0 rfl) ?_
  refine xa_aald (b := h 134) hx hb hK hP 2 3 rfl rfl rfl (by omega) (by decide) (if_pos (by omega)) dX1_begin_20 ?_
  refine lv_iconst (v := nI 0) hx hb dX1_begin_21 (by decide) ?_
  refine lv_aload_n hx hb dX1_begin_22 rfl (lv_at hl 1 rfl) ?_
  refine va_get (D := (dC, dI)) (ci := 1) (v := .ref (h 200)) (C := RX1) (T := TX1) (N := 6) hx hb hts hinX1 hown hK hP 0 rfl rfl 1 (by decide) (hts (.fieldLink RX1 11 "MixedWords$Leader" "columns" "[[I") (by decide +kernel)) (fun _ h9 => h9) rfl dX1_begin_23 ?_
  refine lv_iload_n hx hb dX1_begin_26 rfl (lv_at hl 0 rfl) ?_
  refine xa_aald (b := h 204) hx hb hK hP 9 3 rfl rfl rfl (by omega) (by decide) (if_pos (by omega)) dX1_begin_27 ?_
  refine lv_iconst (v := nI 0) hx hb dX1_begin_28 (by decide) ?_
  refine lv_iconst (v := nI 4) hx hb dX1_begin_29 (by decide) ?_
  refine xa_copyS hx hb (hml.trans hl.1.symm) hown (hts (.methodLink RX1 47 arraycopyName) (by decide +kernel)) (hts (.native arraycopyName) (by decide +kernel)) (hts (.static arraycopyName) (by decide +kernel)) (hts (.initialized "java/lang/System") (by decide +kernel)) hK hP hD hS 6 13 rfl rfl (by omega) (by omega) (by decide) (by decide) (by decide +kernel) (Nat.le_of_ble_eq_true rfl) (Nat.le_of_ble_eq_true rfl) dX1_begin_30 (fun H locs hP hD hS => ?_)
  refine lv_iinc (v := nI 4) (lv' := [(1, .int (nI 4)), (0, .ref (h 108))]) hx hb dX1_begin_33 hl (k := 0) rfl (by decide +kernel) (by decide) rfl (fun ls hl => ?_)
  refine lv_goto (tgt := 7) hx hb dX1_begin_36 (by decide) ?_
  refine lv_iload_n hx hb dX1_begin_7 rfl (lv_at hl 0 rfl) ?_
  refine lv_iconst (v := nI 5) hx hb dX1_begin_8 (by decide) ?_
  refine lv_icmp_ge (tgt := 39) hx hb dX1_begin_9 (by decide) (fun c9 => False.elim (by revert c9; decide +kernel)) (fun _ => ?_)
  refine lv_aload_n hx hb dX1_begin_12 rfl (lv_at hl 1 rfl) ?_
  refine va_get (D := (dC, dI)) (ci := 1) (v := .ref (h 101)) (C := RX1) (T := TX1) (N := 6) hx hb hts hinX1 hown hK hP 0 rfl rfl 0 (by decide) (hts (.fieldLink RX1 27 "MixedWords$Leader" "mix" "LMixedWords$Mix;") (by decide +kernel)) (fun _ h9 => h9) rfl dX1_begin_13 ?_
  refine va_get (D := (dC, dI)) (ci := 3) (v := .ref (h 130)) (C := RX3) (T := TX3) (N := 6) hx hb hts hinX3 hown hK hP 1 rfl rfl 4 (by decide) (hts (.fieldLink RX1 44 "MixedWords$Mix" "cells" "[[I") (by decide +kernel)) (fun _ h9 => h9) rfl dX1_begin_16 ?_
  refine lv_iload_n hx hb dX1_begin_19 rfl (lv_at hl 0 rfl) ?_
  refine xa_aald (b := h 135) hx hb hK hP 2 3 rfl rfl rfl (by omega) (by decide) (if_pos (by omega)) dX1_begin_20 ?_
  refine lv_iconst (v := nI 0) hx hb dX1_begin_21 (by decide) ?_
  refine lv_aload_n hx hb dX1_begin_22 rfl (lv_at hl 1 rfl) ?_
  refine va_get (D := (dC, dI)) (ci := 1) (v := .ref (h 200)) (C := RX1) (T := TX1) (N := 6) hx hb hts hinX1 hown hK hP 0 rfl rfl 1 (by decide) (hts (.fieldLink RX1 11 "MixedWords$Leader" "columns" "[[I") (by decide +kernel)) (fun _ h9 => h9) rfl dX1_begin_23 ?_
  refine lv_iload_n hx hb dX1_begin_26 rfl (lv_at hl 0 rfl) ?_
  refine xa_aald (b := h 205) hx hb hK hP 9 3 rfl rfl rfl (by omega) (by decide) (if_pos (by omega)) dX1_begin_27 ?_
  refine lv_iconst (v := nI 0) hx hb dX1_begin_28 (by decide) ?_
  refine lv_iconst (v := nI 4) hx hb dX1_begin_29 (by decide) ?_
  refine xa_copyS hx hb (hml.trans hl.1.symm) hown (hts (.methodLink RX1 47 arraycopyName) (by decide +kernel)) (hts (.native arraycopyName) (by decide +kernel)) (hts (.static arraycopyName) (by decide +kernel)) (hts (.initialized "java/lang/System") (by decide +kernel)) hK hP hD hS 7 14 rfl rfl (by omega) (by omega) (by decide) (by decide) (by decide +kernel) (Nat.le_of_ble_eq_true rfl) (Nat.le_of_ble_eq_true rfl) dX1_begin_30 (fun H locs hP hD hS => ?_)
  refine lv_iinc (v := nI 5) (lv' := [(1, .int (nI 5)), (0, .ref (h 108))]) hx hb dX1_begin_33 hl (k := 0) rfl (by decide +kernel) (by decide) rfl (fun ls hl => ?_)
  refine lv_goto (tgt := 7) hx hb dX1_begin_36 (by decide) ?_
  refine lv_iload_n hx hb dX1_begin_7 rfl (lv_at hl 0 rfl) ?_
  refine lv_iconst (v := nI 5) hx hb dX1_begin_8 (by decide) ?_
  refine lv_icmp_ge (tgt := 39) hx hb dX1_begin_9 (by decide) (fun _ => ?_) (fun c9 => False.elim (by revert c9; decide +kernel))
  refine lv_iconst (v := nI 0) hx hb dX1_begin_39 (by decide) ?_
  refine lv_istore_n (lv' := [(1, .int (nI 0)), (0, .ref (h 108))]) hx hb dX1_begin_40 rfl hl (by decide) rfl (fun ls hl => ?_)
  refine lv_iload_n hx hb dX1_begin_41 rfl (lv_at hl 0 rfl) ?_
  refine lv_iconst (v := nI 4) hx hb dX1_begin_42 (by decide) ?_
  refine lv_icmp_ge (tgt := 83) hx hb dX1_begin_43 (by decide) (fun c9 => False.elim (by revert c9; decide +kernel)) (fun _ => ?_)
  refine lv_iconst (v := nI 0) hx hb dX1_begin_46 (by decide) ?_
  refine lv_istore_n (lv' := [(2, .int (nI 0)), (1, .int (nI 0)), (0, .ref (h 108))]) hx hb dX1_begin_47 rfl hl (by decide) rfl (fun ls hl => ?_)
  refine lv_iload_n hx hb dX1_begin_48 rfl (lv_at hl 0 rfl) ?_
  refine lv_iconst (v := nI 4) hx hb dX1_begin_49 (by decide) ?_
  refine lv_icmp_ge (tgt := 77) hx hb dX1_begin_50 (by decide) (fun c9 => False.elim (by revert c9; decide +kernel)) (fun _ => ?_)
  refine lv_aload_n hx hb dX1_begin_53 rfl (lv_at hl 2 rfl) ?_
  refine va_get (D := (dC, dI)) (ci := 1) (v := .ref (h 206)) (C := RX1) (T := TX1) (N := 6) hx hb hts hinX1 hown hK hP 0 rfl rfl 2 (by decide) (hts (.fieldLink RX1 16 "MixedWords$Leader" "steps" "[[I") (by decide +kernel)) (fun _ h9 => h9) rfl dX1_begin_54 ?_
  refine lv_iload_n hx hb dX1_begin_57 rfl (lv_at hl 1 rfl) ?_
  refine xa_aald (b := h 207) hx hb hK hP 15 3 rfl rfl rfl (by omega) (by decide) (if_pos (by omega)) dX1_begin_58 ?_
  refine lv_iload_n hx hb dX1_begin_59 rfl (lv_at hl 0 rfl) ?_
  refine lv_iload_n hx hb dX1_begin_60 rfl (lv_at hl 1 rfl) ?_
  refine lv_iload_n hx hb dX1_begin_61 rfl (lv_at hl 0 rfl) ?_
  refine lv_icmp_ne (tgt := 69) hx hb dX1_begin_62 (by decide) (fun c9 => False.elim (by revert c9; decide +kernel)) (fun _ => ?_)
  refine lv_iconst (v := nI 1) hx hb dX1_begin_65 (by decide) ?_
  refine lv_goto (tgt := 70) hx hb dX1_begin_66 (by decide) ?_
  refine xa_iast hx hb hK hP hD hS 16 0 rfl rfl (by omega) (by decide) dX1_begin_70 (fun H locs hP hD hS => ?_)
  have hP : va_P (dC, dI) vwCl (wD_34 h cs fI fL fA fQ (va_up fG 3 (va_up (fG 3) 0 (upd ((fG 3) 0) 0 (nI 1)))) fJ) H := hP
  have hD : va_D A0 (wD_34 h cs fI fL fA fQ (va_up fG 3 (va_up (fG 3) 0 (upd ((fG 3) 0) 0 (nI 1)))) fJ) := hD
  have hP : va_P (dC, dI) vwCl (wD_34 h cs fI fL fA fQ qG_37 fJ) H := hP
  have hD : va_D A0 (wD_34 h cs fI fL fA fQ qG_37 fJ) := hD
  refine lv_iinc (v := nI 1) (lv' := [(2, .int (nI 1)), (1, .int (nI 0)), (0, .ref (h 108))]) hx hb dX1_begin_71 hl (k := 0) rfl (by decide +kernel) (by decide) rfl (fun ls hl => ?_)
  refine lv_goto (tgt := 48) hx hb dX1_begin_74 (by decide) ?_
  refine lv_iload_n hx hb dX1_begin_48 rfl (lv_at hl 0 rfl) ?_
  refine lv_iconst (v := nI 4) hx hb dX1_begin_49 (by decide) ?_
  refine lv_icmp_ge (tgt := 77) hx hb dX1_begin_50 (by decide) (fun c9 => False.elim (by revert c9; decide +kernel)) (fun _ => ?_)
  refine lv_aload_n hx hb dX1_begin_53 rfl (lv_at hl 2 rfl) ?_
  refine va_get (D := (dC, dI)) (ci := 1) (v := .ref (h 206)) (C := RX1) (T := TX1) (N := 6) hx hb hts hinX1 hown hK hP 0 rfl rfl 2 (by decide) (hts (.fieldLink RX1 16 "MixedWords$Leader" "steps" "[[I") (by decide +kernel)) (fun _ h9 => h9) rfl dX1_begin_54 ?_
  refine lv_iload_n hx hb dX1_begin_57 rfl (lv_at hl 1 rfl) ?_
  refine xa_aald (b := h 207) hx hb hK hP 15 3 rfl rfl rfl (by omega) (by decide) (if_pos (by omega)) dX1_begin_58 ?_
  refine lv_iload_n hx hb dX1_begin_59 rfl (lv_at hl 0 rfl) ?_
  refine lv_iload_n hx hb dX1_begin_60 rfl (lv_at hl 1 rfl) ?_
  refine lv_iload_n hx hb dX1_begin_61 rfl (lv_at hl 0 rfl) ?_
  refine lv_icmp_ne (tgt := 69) hx hb dX1_begin_62 (by decide) (fun _ => ?_) (fun c9 => False.elim (by revert c9; decide +kernel))
  refine lv_iconst (v := nI 0) hx hb dX1_begin_69 (by decide) ?_
  refine xa_iastS hx hb hK hP hD hS 16 0 rfl rfl (by omega) (by decide) (by decide +kernel) dX1_begin_70 (fun H locs hP hD hS => ?_)
  refine lv_iinc (v := nI 2) (lv' := [(2, .int (nI 2)), (1, .int (nI 0)), (0, .ref (h 108))]) hx hb dX1_begin_71 hl (k := 0) rfl (by decide +kernel) (by decide) rfl (fun ls hl => ?_)
  refine lv_goto (tgt := 48) hx hb dX1_begin_74 (by decide) ?_
  refine lv_iload_n hx hb dX1_begin_48 rfl (lv_at hl 0 rfl) ?_
  refine lv_iconst (v := nI 4) hx hb dX1_begin_49 (by decide) ?_
  refine lv_icmp_ge (tgt := 77) hx hb dX1_begin_50 (by decide) (fun c9 => False.elim (by revert c9; decide +kernel)) (fun _ => ?_)
  refine lv_aload_n hx hb dX1_begin_53 rfl (lv_at hl 2 rfl) ?_
  refine va_get (D := (dC, dI)) (ci := 1) (v := .ref (h 206)) (C := RX1) (T := TX1) (N := 6) hx hb hts hinX1 hown hK hP 0 rfl rfl 2 (by decide) (hts (.fieldLink RX1 16 "MixedWords$Leader" "steps" "[[I") (by decide +kernel)) (fun _ h9 => h9) rfl dX1_begin_54 ?_
  refine lv_iload_n hx hb dX1_begin_57 rfl (lv_at hl 1 rfl) ?_
  refine xa_aald (b := h 207) hx hb hK hP 15 3 rfl rfl rfl (by omega) (by decide) (if_pos (by omega)) dX1_begin_58 ?_
  refine lv_iload_n hx hb dX1_begin_59 rfl (lv_at hl 0 rfl) ?_
  refine lv_iload_n hx hb dX1_begin_60 rfl (lv_at hl 1 rfl) ?_
  refine lv_iload_n hx hb dX1_begin_61 rfl (lv_at hl 0 rfl) ?_
  refine lv_icmp_ne (tgt := 69) hx hb dX1_begin_62 (by decide) (fun _ => ?_) (fun c9 => False.elim (by revert c9; decide +kernel))
  refine lv_iconst (v := nI 0) hx hb dX1_begin_69 (by decide) ?_
  refine xa_iastS hx hb hK hP hD hS 16 0 rfl rfl (by omega) (by decide) (by decide +kernel) dX1_begin_70 (fun H locs hP hD hS => ?_)
  refine lv_iinc (v := nI 3) (lv' := [(2, .int (nI 3)), (1, .int (nI 0)), (0, .ref (h 108))]) hx hb dX1_begin_71 hl (k := 0) rfl (by decide +kernel) (by decide) rfl (fun ls hl => ?_)
  refine lv_goto (tgt := 48) hx hb dX1_begin_74 (by decide) ?_
  refine lv_iload_n hx hb dX1_begin_48 rfl (lv_at hl 0 rfl) ?_
  refine lv_iconst (v := nI 4) hx hb dX1_begin_49 (by decide) ?_
  refine lv_icmp_ge (tgt := 77) hx hb dX1_begin_50 (by decide) (fun c9 => False.elim (by revert c9; decide +kernel)) (fun _ => ?_)
  refine lv_aload_n hx hb dX1_begin_53 rfl (lv_at hl 2 rfl) ?_
  refine va_get (D := (dC, dI)) (ci := 1) (v := .ref (h 206)) (C := RX1) (T := TX1) (N := 6) hx hb hts hinX1 hown hK hP 0 rfl rfl 2 (by decide) (hts (.fieldLink RX1 16 "MixedWords$Leader" "steps" "[[I") (by decide +kernel)) (fun _ h9 => h9) rfl dX1_begin_54 ?_
  refine lv_iload_n hx hb dX1_begin_57 rfl (lv_at hl 1 rfl) ?_
  refine xa_aald (b := h 207) hx hb hK hP 15 3 rfl rfl rfl (by omega) (by decide) (if_pos (by omega)) dX1_begin_58 ?_
  refine lv_iload_n hx hb dX1_begin_59 rfl (lv_at hl 0 rfl) ?_
  refine lv_iload_n hx hb dX1_begin_60 rfl (lv_at hl 1 rfl) ?_
  refine lv_iload_n hx hb dX1_begin_61 rfl (lv_at hl 0 rfl) ?_
  refine lv_icmp_ne (tgt := 69) hx hb dX1_begin_62 (by decide) (fun _ => ?_) (fun c9 => False.elim (by revert c9; decide +kernel))
  refine lv_iconst (v := nI 0) hx hb dX1_begin_69 (by decide) ?_
  refine xa_iastS hx hb hK hP hD hS 16 0 rfl rfl (by omega) (by decide) (by decide +kernel) dX1_begin_70 (fun H locs hP hD hS => ?_)
  refine lv_iinc (v := nI 4) (lv' := [(2, .int (nI 4)), (1, .int (nI 0)), (0, .ref (h 108))]) hx hb dX1_begin_71 hl (k := 0) rfl (by decide +kernel) (by decide) rfl (fun ls hl => ?_)
  refine lv_goto (tgt := 48) hx hb dX1_begin_74 (by decide) ?_
  refine lv_iload_n hx hb dX1_begin_48 rfl (lv_at hl 0 rfl) ?_
  refine lv_iconst (v := nI 4) hx hb dX1_begin_49 (by decide) ?_
  refine lv_icmp_ge (tgt := 77) hx hb dX1_begin_50 (by decide) (fun _ => ?_) (fun c9 => False.elim (by revert c9; decide +kernel))
  refine lv_iinc (v := nI 1) (lv' := [(1, .int (nI 1)), (2, .int (nI 4)), (0, .ref (h 108))]) hx hb dX1_begin_77 hl (k := 1) rfl (by decide +kernel) (by decide) rfl (fun ls hl => ?_)
  refine lv_goto (tgt := 41) hx hb dX1_begin_80 (by decide) ?_
  refine lv_iload_n hx hb dX1_begin_41 rfl (lv_at hl 0 rfl) ?_
  refine lv_iconst (v := nI 4) hx hb dX1_begin_42 (by decide) ?_
  refine lv_icmp_ge (tgt := 83) hx hb dX1_begin_43 (by decide) (fun c9 => False.elim (by revert c9; decide +kernel)) (fun _ => ?_)
  refine lv_iconst (v := nI 0) hx hb dX1_begin_46 (by decide) ?_
  refine lv_istore_n (lv' := [(2, .int (nI 0)), (1, .int (nI 1)), (0, .ref (h 108))]) hx hb dX1_begin_47 rfl hl (by decide) rfl (fun ls hl => ?_)
  refine lv_iload_n hx hb dX1_begin_48 rfl (lv_at hl 0 rfl) ?_
  refine lv_iconst (v := nI 4) hx hb dX1_begin_49 (by decide) ?_
  refine lv_icmp_ge (tgt := 77) hx hb dX1_begin_50 (by decide) (fun c9 => False.elim (by revert c9; decide +kernel)) (fun _ => ?_)
  refine lv_aload_n hx hb dX1_begin_53 rfl (lv_at hl 2 rfl) ?_
  refine va_get (D := (dC, dI)) (ci := 1) (v := .ref (h 206)) (C := RX1) (T := TX1) (N := 6) hx hb hts hinX1 hown hK hP 0 rfl rfl 2 (by decide) (hts (.fieldLink RX1 16 "MixedWords$Leader" "steps" "[[I") (by decide +kernel)) (fun _ h9 => h9) rfl dX1_begin_54 ?_
  refine lv_iload_n hx hb dX1_begin_57 rfl (lv_at hl 1 rfl) ?_
  refine xa_aald (b := h 208) hx hb hK hP 15 3 rfl rfl rfl (by omega) (by decide) (if_pos (by omega)) dX1_begin_58 ?_
  refine lv_iload_n hx hb dX1_begin_59 rfl (lv_at hl 0 rfl) ?_
  refine lv_iload_n hx hb dX1_begin_60 rfl (lv_at hl 1 rfl) ?_
  refine lv_iload_n hx hb dX1_begin_61 rfl (lv_at hl 0 rfl) ?_
  refine lv_icmp_ne (tgt := 69) hx hb dX1_begin_62 (by decide) (fun _ => ?_) (fun c9 => False.elim (by revert c9; decide +kernel))
  refine lv_iconst (v := nI 0) hx hb dX1_begin_69 (by decide) ?_
  refine xa_iastS hx hb hK hP hD hS 17 0 rfl rfl (by omega) (by decide) (by decide +kernel) dX1_begin_70 (fun H locs hP hD hS => ?_)
  refine lv_iinc (v := nI 1) (lv' := [(2, .int (nI 1)), (1, .int (nI 1)), (0, .ref (h 108))]) hx hb dX1_begin_71 hl (k := 0) rfl (by decide +kernel) (by decide) rfl (fun ls hl => ?_)
  refine lv_goto (tgt := 48) hx hb dX1_begin_74 (by decide) ?_
  refine lv_iload_n hx hb dX1_begin_48 rfl (lv_at hl 0 rfl) ?_
  refine lv_iconst (v := nI 4) hx hb dX1_begin_49 (by decide) ?_
  refine lv_icmp_ge (tgt := 77) hx hb dX1_begin_50 (by decide) (fun c9 => False.elim (by revert c9; decide +kernel)) (fun _ => ?_)
  refine lv_aload_n hx hb dX1_begin_53 rfl (lv_at hl 2 rfl) ?_
  refine va_get (D := (dC, dI)) (ci := 1) (v := .ref (h 206)) (C := RX1) (T := TX1) (N := 6) hx hb hts hinX1 hown hK hP 0 rfl rfl 2 (by decide) (hts (.fieldLink RX1 16 "MixedWords$Leader" "steps" "[[I") (by decide +kernel)) (fun _ h9 => h9) rfl dX1_begin_54 ?_
  refine lv_iload_n hx hb dX1_begin_57 rfl (lv_at hl 1 rfl) ?_
  refine xa_aald (b := h 208) hx hb hK hP 15 3 rfl rfl rfl (by omega) (by decide) (if_pos (by omega)) dX1_begin_58 ?_
  refine lv_iload_n hx hb dX1_begin_59 rfl (lv_at hl 0 rfl) ?_
  refine lv_iload_n hx hb dX1_begin_60 rfl (lv_at hl 1 rfl) ?_
  refine lv_iload_n hx hb dX1_begin_61 rfl (lv_at hl 0 rfl) ?_
  refine lv_icmp_ne (tgt := 69) hx hb dX1_begin_62 (by decide) (fun c9 => False.elim (by revert c9; decide +kernel)) (fun _ => ?_)
  refine lv_iconst (v := nI 1) hx hb dX1_begin_65 (by decide) ?_
  refine lv_goto (tgt := 70) hx hb dX1_begin_66 (by decide) ?_
  refine xa_iast hx hb hK hP hD hS 17 0 rfl rfl (by omega) (by decide) dX1_begin_70 (fun H locs hP hD hS => ?_)
  have hP : va_P (dC, dI) vwCl (wD_34 h cs fI fL fA fQ (va_up qG_37 3 (va_up (qG_37 3) 1 (upd ((qG_37 3) 1) 1 (nI 1)))) fJ) H := hP
  have hD : va_D A0 (wD_34 h cs fI fL fA fQ (va_up qG_37 3 (va_up (qG_37 3) 1 (upd ((qG_37 3) 1) 1 (nI 1)))) fJ) := hD
  have hP : va_P (dC, dI) vwCl (wD_34 h cs fI fL fA fQ qG_38 fJ) H := hP
  have hD : va_D A0 (wD_34 h cs fI fL fA fQ qG_38 fJ) := hD
  refine lv_iinc (v := nI 2) (lv' := [(2, .int (nI 2)), (1, .int (nI 1)), (0, .ref (h 108))]) hx hb dX1_begin_71 hl (k := 0) rfl (by decide +kernel) (by decide) rfl (fun ls hl => ?_)
  refine lv_goto (tgt := 48) hx hb dX1_begin_74 (by decide) ?_
  refine lv_iload_n hx hb dX1_begin_48 rfl (lv_at hl 0 rfl) ?_
  refine lv_iconst (v := nI 4) hx hb dX1_begin_49 (by decide) ?_
  refine lv_icmp_ge (tgt := 77) hx hb dX1_begin_50 (by decide) (fun c9 => False.elim (by revert c9; decide +kernel)) (fun _ => ?_)
  refine lv_aload_n hx hb dX1_begin_53 rfl (lv_at hl 2 rfl) ?_
  refine va_get (D := (dC, dI)) (ci := 1) (v := .ref (h 206)) (C := RX1) (T := TX1) (N := 6) hx hb hts hinX1 hown hK hP 0 rfl rfl 2 (by decide) (hts (.fieldLink RX1 16 "MixedWords$Leader" "steps" "[[I") (by decide +kernel)) (fun _ h9 => h9) rfl dX1_begin_54 ?_
  refine lv_iload_n hx hb dX1_begin_57 rfl (lv_at hl 1 rfl) ?_
  refine xa_aald (b := h 208) hx hb hK hP 15 3 rfl rfl rfl (by omega) (by decide) (if_pos (by omega)) dX1_begin_58 ?_
  refine lv_iload_n hx hb dX1_begin_59 rfl (lv_at hl 0 rfl) ?_
  refine lv_iload_n hx hb dX1_begin_60 rfl (lv_at hl 1 rfl) ?_
  refine lv_iload_n hx hb dX1_begin_61 rfl (lv_at hl 0 rfl) ?_
  refine lv_icmp_ne (tgt := 69) hx hb dX1_begin_62 (by decide) (fun _ => ?_) (fun c9 => False.elim (by revert c9; decide +kernel))
  refine lv_iconst (v := nI 0) hx hb dX1_begin_69 (by decide) ?_
  refine xa_iastS hx hb hK hP hD hS 17 0 rfl rfl (by omega) (by decide) (by decide +kernel) dX1_begin_70 (fun H locs hP hD hS => ?_)
  refine lv_iinc (v := nI 3) (lv' := [(2, .int (nI 3)), (1, .int (nI 1)), (0, .ref (h 108))]) hx hb dX1_begin_71 hl (k := 0) rfl (by decide +kernel) (by decide) rfl (fun ls hl => ?_)
  refine lv_goto (tgt := 48) hx hb dX1_begin_74 (by decide) ?_
  refine lv_iload_n hx hb dX1_begin_48 rfl (lv_at hl 0 rfl) ?_
  refine lv_iconst (v := nI 4) hx hb dX1_begin_49 (by decide) ?_
  refine lv_icmp_ge (tgt := 77) hx hb dX1_begin_50 (by decide) (fun c9 => False.elim (by revert c9; decide +kernel)) (fun _ => ?_)
  refine lv_aload_n hx hb dX1_begin_53 rfl (lv_at hl 2 rfl) ?_
  refine va_get (D := (dC, dI)) (ci := 1) (v := .ref (h 206)) (C := RX1) (T := TX1) (N := 6) hx hb hts hinX1 hown hK hP 0 rfl rfl 2 (by decide) (hts (.fieldLink RX1 16 "MixedWords$Leader" "steps" "[[I") (by decide +kernel)) (fun _ h9 => h9) rfl dX1_begin_54 ?_
  refine lv_iload_n hx hb dX1_begin_57 rfl (lv_at hl 1 rfl) ?_
  refine xa_aald (b := h 208) hx hb hK hP 15 3 rfl rfl rfl (by omega) (by decide) (if_pos (by omega)) dX1_begin_58 ?_
  refine lv_iload_n hx hb dX1_begin_59 rfl (lv_at hl 0 rfl) ?_
  refine lv_iload_n hx hb dX1_begin_60 rfl (lv_at hl 1 rfl) ?_
  refine lv_iload_n hx hb dX1_begin_61 rfl (lv_at hl 0 rfl) ?_
  refine lv_icmp_ne (tgt := 69) hx hb dX1_begin_62 (by decide) (fun _ => ?_) (fun c9 => False.elim (by revert c9; decide +kernel))
  refine lv_iconst (v := nI 0) hx hb dX1_begin_69 (by decide) ?_
  refine xa_iastS hx hb hK hP hD hS 17 0 rfl rfl (by omega) (by decide) (by decide +kernel) dX1_begin_70 (fun H locs hP hD hS => ?_)
  refine lv_iinc (v := nI 4) (lv' := [(2, .int (nI 4)), (1, .int (nI 1)), (0, .ref (h 108))]) hx hb dX1_begin_71 hl (k := 0) rfl (by decide +kernel) (by decide) rfl (fun ls hl => ?_)
  refine lv_goto (tgt := 48) hx hb dX1_begin_74 (by decide) ?_
  refine lv_iload_n hx hb dX1_begin_48 rfl (lv_at hl 0 rfl) ?_
  refine lv_iconst (v := nI 4) hx hb dX1_begin_49 (by decide) ?_
  refine lv_icmp_ge (tgt := 77) hx hb dX1_begin_50 (by decide) (fun _ => ?_) (fun c9 => False.elim (by revert c9; decide +kernel))
  refine lv_iinc (v := nI 2) (lv' := [(1, .int (nI 2)), (2, .int (nI 4)), (0, .ref (h 108))]) hx hb dX1_begin_77 hl (k := 1) rfl (by decide +kernel) (by decide) rfl (fun ls hl => ?_)
  refine lv_goto (tgt := 41) hx hb dX1_begin_80 (by decide) ?_
  refine lv_iload_n hx hb dX1_begin_41 rfl (lv_at hl 0 rfl) ?_
  refine lv_iconst (v := nI 4) hx hb dX1_begin_42 (by decide) ?_
  refine lv_icmp_ge (tgt := 83) hx hb dX1_begin_43 (by decide) (fun c9 => False.elim (by revert c9; decide +kernel)) (fun _ => ?_)
  refine lv_iconst (v := nI 0) hx hb dX1_begin_46 (by decide) ?_
  refine lv_istore_n (lv' := [(2, .int (nI 0)), (1, .int (nI 2)), (0, .ref (h 108))]) hx hb dX1_begin_47 rfl hl (by decide) rfl (fun ls hl => ?_)
  refine lv_iload_n hx hb dX1_begin_48 rfl (lv_at hl 0 rfl) ?_
  refine lv_iconst (v := nI 4) hx hb dX1_begin_49 (by decide) ?_
  refine lv_icmp_ge (tgt := 77) hx hb dX1_begin_50 (by decide) (fun c9 => False.elim (by revert c9; decide +kernel)) (fun _ => ?_)
  refine lv_aload_n hx hb dX1_begin_53 rfl (lv_at hl 2 rfl) ?_
  refine va_get (D := (dC, dI)) (ci := 1) (v := .ref (h 206)) (C := RX1) (T := TX1) (N := 6) hx hb hts hinX1 hown hK hP 0 rfl rfl 2 (by decide) (hts (.fieldLink RX1 16 "MixedWords$Leader" "steps" "[[I") (by decide +kernel)) (fun _ h9 => h9) rfl dX1_begin_54 ?_
  refine lv_iload_n hx hb dX1_begin_57 rfl (lv_at hl 1 rfl) ?_
  refine xa_aald (b := h 209) hx hb hK hP 15 3 rfl rfl rfl (by omega) (by decide) (if_pos (by omega)) dX1_begin_58 ?_
  refine lv_iload_n hx hb dX1_begin_59 rfl (lv_at hl 0 rfl) ?_
  refine lv_iload_n hx hb dX1_begin_60 rfl (lv_at hl 1 rfl) ?_
  refine lv_iload_n hx hb dX1_begin_61 rfl (lv_at hl 0 rfl) ?_
  refine lv_icmp_ne (tgt := 69) hx hb dX1_begin_62 (by decide) (fun _ => ?_) (fun c9 => False.elim (by revert c9; decide +kernel))
  refine lv_iconst (v := nI 0) hx hb dX1_begin_69 (by decide) ?_
  refine xa_iastS hx hb hK hP hD hS 18 0 rfl rfl (by omega) (by decide) (by decide +kernel) dX1_begin_70 (fun H locs hP hD hS => ?_)
  refine lv_iinc (v := nI 1) (lv' := [(2, .int (nI 1)), (1, .int (nI 2)), (0, .ref (h 108))]) hx hb dX1_begin_71 hl (k := 0) rfl (by decide +kernel) (by decide) rfl (fun ls hl => ?_)
  refine lv_goto (tgt := 48) hx hb dX1_begin_74 (by decide) ?_
  refine lv_iload_n hx hb dX1_begin_48 rfl (lv_at hl 0 rfl) ?_
  refine lv_iconst (v := nI 4) hx hb dX1_begin_49 (by decide) ?_
  refine lv_icmp_ge (tgt := 77) hx hb dX1_begin_50 (by decide) (fun c9 => False.elim (by revert c9; decide +kernel)) (fun _ => ?_)
  refine lv_aload_n hx hb dX1_begin_53 rfl (lv_at hl 2 rfl) ?_
  refine va_get (D := (dC, dI)) (ci := 1) (v := .ref (h 206)) (C := RX1) (T := TX1) (N := 6) hx hb hts hinX1 hown hK hP 0 rfl rfl 2 (by decide) (hts (.fieldLink RX1 16 "MixedWords$Leader" "steps" "[[I") (by decide +kernel)) (fun _ h9 => h9) rfl dX1_begin_54 ?_
  refine lv_iload_n hx hb dX1_begin_57 rfl (lv_at hl 1 rfl) ?_
  refine xa_aald (b := h 209) hx hb hK hP 15 3 rfl rfl rfl (by omega) (by decide) (if_pos (by omega)) dX1_begin_58 ?_
  refine lv_iload_n hx hb dX1_begin_59 rfl (lv_at hl 0 rfl) ?_
  refine lv_iload_n hx hb dX1_begin_60 rfl (lv_at hl 1 rfl) ?_
  refine lv_iload_n hx hb dX1_begin_61 rfl (lv_at hl 0 rfl) ?_
  refine lv_icmp_ne (tgt := 69) hx hb dX1_begin_62 (by decide) (fun _ => ?_) (fun c9 => False.elim (by revert c9; decide +kernel))
  refine lv_iconst (v := nI 0) hx hb dX1_begin_69 (by decide) ?_
  refine xa_iastS hx hb hK hP hD hS 18 0 rfl rfl (by omega) (by decide) (by decide +kernel) dX1_begin_70 (fun H locs hP hD hS => ?_)
  refine lv_iinc (v := nI 2) (lv' := [(2, .int (nI 2)), (1, .int (nI 2)), (0, .ref (h 108))]) hx hb dX1_begin_71 hl (k := 0) rfl (by decide +kernel) (by decide) rfl (fun ls hl => ?_)
  refine lv_goto (tgt := 48) hx hb dX1_begin_74 (by decide) ?_
  refine lv_iload_n hx hb dX1_begin_48 rfl (lv_at hl 0 rfl) ?_
  refine lv_iconst (v := nI 4) hx hb dX1_begin_49 (by decide) ?_
  refine lv_icmp_ge (tgt := 77) hx hb dX1_begin_50 (by decide) (fun c9 => False.elim (by revert c9; decide +kernel)) (fun _ => ?_)
  refine lv_aload_n hx hb dX1_begin_53 rfl (lv_at hl 2 rfl) ?_
  refine va_get (D := (dC, dI)) (ci := 1) (v := .ref (h 206)) (C := RX1) (T := TX1) (N := 6) hx hb hts hinX1 hown hK hP 0 rfl rfl 2 (by decide) (hts (.fieldLink RX1 16 "MixedWords$Leader" "steps" "[[I") (by decide +kernel)) (fun _ h9 => h9) rfl dX1_begin_54 ?_
  refine lv_iload_n hx hb dX1_begin_57 rfl (lv_at hl 1 rfl) ?_
  refine xa_aald (b := h 209) hx hb hK hP 15 3 rfl rfl rfl (by omega) (by decide) (if_pos (by omega)) dX1_begin_58 ?_
  refine lv_iload_n hx hb dX1_begin_59 rfl (lv_at hl 0 rfl) ?_
  refine lv_iload_n hx hb dX1_begin_60 rfl (lv_at hl 1 rfl) ?_
  refine lv_iload_n hx hb dX1_begin_61 rfl (lv_at hl 0 rfl) ?_
  refine lv_icmp_ne (tgt := 69) hx hb dX1_begin_62 (by decide) (fun c9 => False.elim (by revert c9; decide +kernel)) (fun _ => ?_)
  refine lv_iconst (v := nI 1) hx hb dX1_begin_65 (by decide) ?_
  refine lv_goto (tgt := 70) hx hb dX1_begin_66 (by decide) ?_
  refine xa_iast hx hb hK hP hD hS 18 0 rfl rfl (by omega) (by decide) dX1_begin_70 (fun H locs hP hD hS => ?_)
  have hP : va_P (dC, dI) vwCl (wD_34 h cs fI fL fA fQ (va_up qG_38 3 (va_up (qG_38 3) 2 (upd ((qG_38 3) 2) 2 (nI 1)))) fJ) H := hP
  have hD : va_D A0 (wD_34 h cs fI fL fA fQ (va_up qG_38 3 (va_up (qG_38 3) 2 (upd ((qG_38 3) 2) 2 (nI 1)))) fJ) := hD
  have hP : va_P (dC, dI) vwCl (wD_34 h cs fI fL fA fQ qG_39 fJ) H := hP
  have hD : va_D A0 (wD_34 h cs fI fL fA fQ qG_39 fJ) := hD
  refine lv_iinc (v := nI 3) (lv' := [(2, .int (nI 3)), (1, .int (nI 2)), (0, .ref (h 108))]) hx hb dX1_begin_71 hl (k := 0) rfl (by decide +kernel) (by decide) rfl (fun ls hl => ?_)
  refine lv_goto (tgt := 48) hx hb dX1_begin_74 (by decide) ?_
  refine lv_iload_n hx hb dX1_begin_48 rfl (lv_at hl 0 rfl) ?_
  refine lv_iconst (v := nI 4) hx hb dX1_begin_49 (by decide) ?_
  refine lv_icmp_ge (tgt := 77) hx hb dX1_begin_50 (by decide) (fun c9 => False.elim (by revert c9; decide +kernel)) (fun _ => ?_)
  refine lv_aload_n hx hb dX1_begin_53 rfl (lv_at hl 2 rfl) ?_
  refine va_get (D := (dC, dI)) (ci := 1) (v := .ref (h 206)) (C := RX1) (T := TX1) (N := 6) hx hb hts hinX1 hown hK hP 0 rfl rfl 2 (by decide) (hts (.fieldLink RX1 16 "MixedWords$Leader" "steps" "[[I") (by decide +kernel)) (fun _ h9 => h9) rfl dX1_begin_54 ?_
  refine lv_iload_n hx hb dX1_begin_57 rfl (lv_at hl 1 rfl) ?_
  refine xa_aald (b := h 209) hx hb hK hP 15 3 rfl rfl rfl (by omega) (by decide) (if_pos (by omega)) dX1_begin_58 ?_
  refine lv_iload_n hx hb dX1_begin_59 rfl (lv_at hl 0 rfl) ?_
  refine lv_iload_n hx hb dX1_begin_60 rfl (lv_at hl 1 rfl) ?_
  refine lv_iload_n hx hb dX1_begin_61 rfl (lv_at hl 0 rfl) ?_
  refine lv_icmp_ne (tgt := 69) hx hb dX1_begin_62 (by decide) (fun _ => ?_) (fun c9 => False.elim (by revert c9; decide +kernel))
  refine lv_iconst (v := nI 0) hx hb dX1_begin_69 (by decide) ?_
  refine xa_iastS hx hb hK hP hD hS 18 0 rfl rfl (by omega) (by decide) (by decide +kernel) dX1_begin_70 (fun H locs hP hD hS => ?_)
  refine lv_iinc (v := nI 4) (lv' := [(2, .int (nI 4)), (1, .int (nI 2)), (0, .ref (h 108))]) hx hb dX1_begin_71 hl (k := 0) rfl (by decide +kernel) (by decide) rfl (fun ls hl => ?_)
  refine lv_goto (tgt := 48) hx hb dX1_begin_74 (by decide) ?_
  refine lv_iload_n hx hb dX1_begin_48 rfl (lv_at hl 0 rfl) ?_
  refine lv_iconst (v := nI 4) hx hb dX1_begin_49 (by decide) ?_
  refine lv_icmp_ge (tgt := 77) hx hb dX1_begin_50 (by decide) (fun _ => ?_) (fun c9 => False.elim (by revert c9; decide +kernel))
  refine lv_iinc (v := nI 3) (lv' := [(1, .int (nI 3)), (2, .int (nI 4)), (0, .ref (h 108))]) hx hb dX1_begin_77 hl (k := 1) rfl (by decide +kernel) (by decide) rfl (fun ls hl => ?_)
  refine lv_goto (tgt := 41) hx hb dX1_begin_80 (by decide) ?_
  refine lv_iload_n hx hb dX1_begin_41 rfl (lv_at hl 0 rfl) ?_
  refine lv_iconst (v := nI 4) hx hb dX1_begin_42 (by decide) ?_
  refine lv_icmp_ge (tgt := 83) hx hb dX1_begin_43 (by decide) (fun c9 => False.elim (by revert c9; decide +kernel)) (fun _ => ?_)
  refine lv_iconst (v := nI 0) hx hb dX1_begin_46 (by decide) ?_
  refine lv_istore_n (lv' := [(2, .int (nI 0)), (1, .int (nI 3)), (0, .ref (h 108))]) hx hb dX1_begin_47 rfl hl (by decide) rfl (fun ls hl => ?_)
  refine lv_iload_n hx hb dX1_begin_48 rfl (lv_at hl 0 rfl) ?_
  refine lv_iconst (v := nI 4) hx hb dX1_begin_49 (by decide) ?_
  refine lv_icmp_ge (tgt := 77) hx hb dX1_begin_50 (by decide) (fun c9 => False.elim (by revert c9; decide +kernel)) (fun _ => ?_)
  refine lv_aload_n hx hb dX1_begin_53 rfl (lv_at hl 2 rfl) ?_
  refine va_get (D := (dC, dI)) (ci := 1) (v := .ref (h 206)) (C := RX1) (T := TX1) (N := 6) hx hb hts hinX1 hown hK hP 0 rfl rfl 2 (by decide) (hts (.fieldLink RX1 16 "MixedWords$Leader" "steps" "[[I") (by decide +kernel)) (fun _ h9 => h9) rfl dX1_begin_54 ?_
  refine lv_iload_n hx hb dX1_begin_57 rfl (lv_at hl 1 rfl) ?_
  refine xa_aald (b := h 210) hx hb hK hP 15 3 rfl rfl rfl (by omega) (by decide) (if_pos (by omega)) dX1_begin_58 ?_
  refine lv_iload_n hx hb dX1_begin_59 rfl (lv_at hl 0 rfl) ?_
  refine lv_iload_n hx hb dX1_begin_60 rfl (lv_at hl 1 rfl) ?_
  refine lv_iload_n hx hb dX1_begin_61 rfl (lv_at hl 0 rfl) ?_
  refine lv_icmp_ne (tgt := 69) hx hb dX1_begin_62 (by decide) (fun _ => ?_) (fun c9 => False.elim (by revert c9; decide +kernel))
  refine lv_iconst (v := nI 0) hx hb dX1_begin_69 (by decide) ?_
  refine xa_iastS hx hb hK hP hD hS 19 0 rfl rfl (by omega) (by decide) (by decide +kernel) dX1_begin_70 (fun H locs hP hD hS => ?_)
  refine lv_iinc (v := nI 1) (lv' := [(2, .int (nI 1)), (1, .int (nI 3)), (0, .ref (h 108))]) hx hb dX1_begin_71 hl (k := 0) rfl (by decide +kernel) (by decide) rfl (fun ls hl => ?_)
  refine lv_goto (tgt := 48) hx hb dX1_begin_74 (by decide) ?_
  refine lv_iload_n hx hb dX1_begin_48 rfl (lv_at hl 0 rfl) ?_
  refine lv_iconst (v := nI 4) hx hb dX1_begin_49 (by decide) ?_
  refine lv_icmp_ge (tgt := 77) hx hb dX1_begin_50 (by decide) (fun c9 => False.elim (by revert c9; decide +kernel)) (fun _ => ?_)
  refine lv_aload_n hx hb dX1_begin_53 rfl (lv_at hl 2 rfl) ?_
  refine va_get (D := (dC, dI)) (ci := 1) (v := .ref (h 206)) (C := RX1) (T := TX1) (N := 6) hx hb hts hinX1 hown hK hP 0 rfl rfl 2 (by decide) (hts (.fieldLink RX1 16 "MixedWords$Leader" "steps" "[[I") (by decide +kernel)) (fun _ h9 => h9) rfl dX1_begin_54 ?_
  refine lv_iload_n hx hb dX1_begin_57 rfl (lv_at hl 1 rfl) ?_
  refine xa_aald (b := h 210) hx hb hK hP 15 3 rfl rfl rfl (by omega) (by decide) (if_pos (by omega)) dX1_begin_58 ?_
  refine lv_iload_n hx hb dX1_begin_59 rfl (lv_at hl 0 rfl) ?_
  refine lv_iload_n hx hb dX1_begin_60 rfl (lv_at hl 1 rfl) ?_
  refine lv_iload_n hx hb dX1_begin_61 rfl (lv_at hl 0 rfl) ?_
  refine lv_icmp_ne (tgt := 69) hx hb dX1_begin_62 (by decide) (fun _ => ?_) (fun c9 => False.elim (by revert c9; decide +kernel))
  refine lv_iconst (v := nI 0) hx hb dX1_begin_69 (by decide) ?_
  refine xa_iastS hx hb hK hP hD hS 19 0 rfl rfl (by omega) (by decide) (by decide +kernel) dX1_begin_70 (fun H locs hP hD hS => ?_)
  refine lv_iinc (v := nI 2) (lv' := [(2, .int (nI 2)), (1, .int (nI 3)), (0, .ref (h 108))]) hx hb dX1_begin_71 hl (k := 0) rfl (by decide +kernel) (by decide) rfl (fun ls hl => ?_)
  refine lv_goto (tgt := 48) hx hb dX1_begin_74 (by decide) ?_
  refine lv_iload_n hx hb dX1_begin_48 rfl (lv_at hl 0 rfl) ?_
  refine lv_iconst (v := nI 4) hx hb dX1_begin_49 (by decide) ?_
  refine lv_icmp_ge (tgt := 77) hx hb dX1_begin_50 (by decide) (fun c9 => False.elim (by revert c9; decide +kernel)) (fun _ => ?_)
  refine lv_aload_n hx hb dX1_begin_53 rfl (lv_at hl 2 rfl) ?_
  refine va_get (D := (dC, dI)) (ci := 1) (v := .ref (h 206)) (C := RX1) (T := TX1) (N := 6) hx hb hts hinX1 hown hK hP 0 rfl rfl 2 (by decide) (hts (.fieldLink RX1 16 "MixedWords$Leader" "steps" "[[I") (by decide +kernel)) (fun _ h9 => h9) rfl dX1_begin_54 ?_
  refine lv_iload_n hx hb dX1_begin_57 rfl (lv_at hl 1 rfl) ?_
  refine xa_aald (b := h 210) hx hb hK hP 15 3 rfl rfl rfl (by omega) (by decide) (if_pos (by omega)) dX1_begin_58 ?_
  refine lv_iload_n hx hb dX1_begin_59 rfl (lv_at hl 0 rfl) ?_
  refine lv_iload_n hx hb dX1_begin_60 rfl (lv_at hl 1 rfl) ?_
  refine lv_iload_n hx hb dX1_begin_61 rfl (lv_at hl 0 rfl) ?_
  refine lv_icmp_ne (tgt := 69) hx hb dX1_begin_62 (by decide) (fun _ => ?_) (fun c9 => False.elim (by revert c9; decide +kernel))
  refine lv_iconst (v := nI 0) hx hb dX1_begin_69 (by decide) ?_
  refine xa_iastS hx hb hK hP hD hS 19 0 rfl rfl (by omega) (by decide) (by decide +kernel) dX1_begin_70 (fun H locs hP hD hS => ?_)
  refine lv_iinc (v := nI 3) (lv' := [(2, .int (nI 3)), (1, .int (nI 3)), (0, .ref (h 108))]) hx hb dX1_begin_71 hl (k := 0) rfl (by decide +kernel) (by decide) rfl (fun ls hl => ?_)
  refine lv_goto (tgt := 48) hx hb dX1_begin_74 (by decide) ?_
  refine lv_iload_n hx hb dX1_begin_48 rfl (lv_at hl 0 rfl) ?_
  refine lv_iconst (v := nI 4) hx hb dX1_begin_49 (by decide) ?_
  refine lv_icmp_ge (tgt := 77) hx hb dX1_begin_50 (by decide) (fun c9 => False.elim (by revert c9; decide +kernel)) (fun _ => ?_)
  refine lv_aload_n hx hb dX1_begin_53 rfl (lv_at hl 2 rfl) ?_
  refine va_get (D := (dC, dI)) (ci := 1) (v := .ref (h 206)) (C := RX1) (T := TX1) (N := 6) hx hb hts hinX1 hown hK hP 0 rfl rfl 2 (by decide) (hts (.fieldLink RX1 16 "MixedWords$Leader" "steps" "[[I") (by decide +kernel)) (fun _ h9 => h9) rfl dX1_begin_54 ?_
  refine lv_iload_n hx hb dX1_begin_57 rfl (lv_at hl 1 rfl) ?_
  refine xa_aald (b := h 210) hx hb hK hP 15 3 rfl rfl rfl (by omega) (by decide) (if_pos (by omega)) dX1_begin_58 ?_
  refine lv_iload_n hx hb dX1_begin_59 rfl (lv_at hl 0 rfl) ?_
  refine lv_iload_n hx hb dX1_begin_60 rfl (lv_at hl 1 rfl) ?_
  refine lv_iload_n hx hb dX1_begin_61 rfl (lv_at hl 0 rfl) ?_
  refine lv_icmp_ne (tgt := 69) hx hb dX1_begin_62 (by decide) (fun c9 => False.elim (by revert c9; decide +kernel)) (fun _ => ?_)
  refine lv_iconst (v := nI 1) hx hb dX1_begin_65 (by decide) ?_
  refine lv_goto (tgt := 70) hx hb dX1_begin_66 (by decide) ?_
  refine xa_iast hx hb hK hP hD hS 19 0 rfl rfl (by omega) (by decide) dX1_begin_70 (fun H locs hP hD hS => ?_)
  have hP : va_P (dC, dI) vwCl (wD_34 h cs fI fL fA fQ (va_up qG_39 3 (va_up (qG_39 3) 3 (upd ((qG_39 3) 3) 3 (nI 1)))) fJ) H := hP
  have hD : va_D A0 (wD_34 h cs fI fL fA fQ (va_up qG_39 3 (va_up (qG_39 3) 3 (upd ((qG_39 3) 3) 3 (nI 1)))) fJ) := hD
  have hP : va_P (dC, dI) vwCl (wD_34 h cs fI fL fA fQ qG_40 fJ) H := hP
  have hD : va_D A0 (wD_34 h cs fI fL fA fQ qG_40 fJ) := hD
  refine lv_iinc (v := nI 4) (lv' := [(2, .int (nI 4)), (1, .int (nI 3)), (0, .ref (h 108))]) hx hb dX1_begin_71 hl (k := 0) rfl (by decide +kernel) (by decide) rfl (fun ls hl => ?_)
  refine lv_goto (tgt := 48) hx hb dX1_begin_74 (by decide) ?_
  refine lv_iload_n hx hb dX1_begin_48 rfl (lv_at hl 0 rfl) ?_
  refine lv_iconst (v := nI 4) hx hb dX1_begin_49 (by decide) ?_
  refine lv_icmp_ge (tgt := 77) hx hb dX1_begin_50 (by decide) (fun _ => ?_) (fun c9 => False.elim (by revert c9; decide +kernel))
  refine lv_iinc (v := nI 4) (lv' := [(1, .int (nI 4)), (2, .int (nI 4)), (0, .ref (h 108))]) hx hb dX1_begin_77 hl (k := 1) rfl (by decide +kernel) (by decide) rfl (fun ls hl => ?_)
  refine lv_goto (tgt := 41) hx hb dX1_begin_80 (by decide) ?_
  refine lv_iload_n hx hb dX1_begin_41 rfl (lv_at hl 0 rfl) ?_
  refine lv_iconst (v := nI 4) hx hb dX1_begin_42 (by decide) ?_
  refine lv_icmp_ge (tgt := 83) hx hb dX1_begin_43 (by decide) (fun _ => ?_) (fun c9 => False.elim (by revert c9; decide +kernel))
  exact xr_v hx hb hr hlocks hK hS dX1_begin_83 (fI, fL, fA, fQ, qG_40, fJ) ⟨trivial, rfl⟩ hP hD
def wD_43 (h : Nat → Nat) (cs : Nat → ClassId) (I : Nat → Int32) (L : Nat → Int64) (A : Nat → Nat → Int32) (Q : Nat → Nat → Int64) (G : Nat → Nat → Nat → Int32) (J : Nat → Nat → Nat → Int64) : va_W := [(h 200, .inl (cs 3, 5, .inr (.inr (.inr (.inr (fun i => if i < 5 then some (h (i + 201)) else none)))))), (h 201, .inl (cs 0, 4, .inl ((G 2) 0))), (h 202, .inl (cs 0, 4, .inl ((G 2) 1))), (h 203, .inl (cs 0, 4, .inl ((G 2) 2))), (h 204, .inl (cs 0, 4, .inl ((G 2) 3))), (h 205, .inl (cs 0, 4, .inl ((G 2) 4)))]
set_option maxHeartbeats 4000000 in
set_option maxRecDepth 100000 in
theorem a_X9_product_44 (l : Launch) (dC : Nat → ClassId) (dI : Nat → Nat → Nat) (h : Nat → Nat) (cs : Nat → ClassId) (sz : Nat) (I : Nat → Int32) (L : Nat → Int64) (A : Nat → Nat → Int32) (Q : Nat → Nat → Int64) (G : Nat → Nat → Nat → Int32) (J : Nat → Nat → Nat → Int64) : Met l yX9_product wsX9_product ({ frames := 0, cells := 0, slots := 0, locals := 0 }) (va_Pc [.ref (h 200), .int (nI 2), .int (nI 1), .int (nI 1)] (xPre (dC, dI) (wD_43 h cs fI fL fA fQ qG_40 fJ) (tysA cs) sz)) (va_Qi (fun (r : Int32) (u : CS) => (r = nI 0) ∧ u = (fI, fL, fA, fQ, qG_40, fJ)) (xB (dC, dI) (tysA cs) (va_A (wD_43 h cs fI fL fA fQ qG_40 fJ) sz) (fun u : CS => wD_43 h cs u.1 u.2.1 u.2.2.1 u.2.2.2.1 u.2.2.2.2.1 u.2.2.2.2.2)) (va_A (wD_43 h cs fI fL fA fQ qG_40 fJ) sz)) 0 0 (va_A (wD_43 h cs fI fL fA fQ qG_40 fJ) sz) := by
  refine Met.ofW (cc := cX9_product) (maxL := 6) (ret := (some .int)) (by decide) rfl ?_
  intro p e s m args below meth c s₁ B hml hv
  obtain ⟨rfl, hsz, hP, hK, hD0, hN⟩ := hv
  have hx := B.exec
  have hb := B.bytes
  have hr := B.returns
  have hts := atoms_spec (ws := wsX9_product) B.pre
  have hown : s.vm.findClass RX9 = some m.cls := findClass_of_methodNamed B.named
  have hlocks := B.notSynchronized
  subst hsz
  have hD := hD0.self (sz := s.heap.size)
  generalize hAe : va_A (wD_43 h cs fI fL fA fQ qG_40 fJ) s.heap.size = A0 at hD ⊢
  have hA : ∀ q : Nat, s.heap.size ≤ q → A0 q := fun q h => by rw [← hAe]; exact Or.inr h
  have hl := lv_entry ([.ref (h 200), .int (nI 2), .int (nI 1), .int (nI 1)]) (n := 6) (Nat.le_of_ble_eq_true rfl)
  rw [lg_entry_eq]
  generalize (lg_sl ([.ref (h 200), .int (nI 2), .int (nI 1), .int (nI 1)]) ++ List.replicate (6 - (lg_sl ([.ref (h 200), .int (nI 2), .int (nI 1), .int (nI 1)])).length) Slot.unset).toArray = ls at hl ⊢
  have hl : lv_has ls 6 [(0, .ref (h 200)), (1, .int (nI 2)), (2, .int (nI 1)), (3, .int (nI 1))] := hl
  generalize hH : s.heap = H at hP ⊢
  have hS : va_S A0 s.heap H [] := by rw [← hH]; exact va_S.rf
  refine lv_iconst (v := nI 0) hx hb dX9_product_0 (by decide) ?_
  refine lv_istore (lv' := [(4, .int (nI 0)), (0, .ref (h 200)), (1, .int (nI 2)), (2, .int (nI 1)), (3, .int (nI 1))]) hx hb dX9_product_1 hl (by decide) rfl (fun ls hl => ?_)
  refine lv_iconst (v := nI 0) hx hb dX9_product_3 (by decide) ?_
  refine lv_istore (lv' := [(5, .int (nI 0)), (4, .int (nI 0)), (0, .ref (h 200)), (1, .int (nI 2)), (2, .int (nI 1)), (3, .int (nI 1))]) hx hb dX9_product_4 hl (by decide) rfl (fun ls hl => ?_)
  refine lv_iload hx hb dX9_product_6 (lv_at hl 0 rfl) ?_
  refine lv_iload_n hx hb dX9_product_8 rfl (lv_at hl 3 rfl) ?_
  refine lv_icmp_ge (tgt := 36) hx hb dX9_product_9 (by decide) (fun c9 => False.elim (by revert c9; decide +kernel)) (fun _ => ?_)
  refine lv_iload hx hb dX9_product_12 (lv_at hl 1 rfl) ?_
  refine lv_aload_n hx hb dX9_product_14 rfl (lv_at hl 2 rfl) ?_
  refine lv_iload hx hb dX9_product_15 (lv_at hl 0 rfl) ?_
  refine xa_aald (b := h 201) hx hb hK hP 0 3 rfl rfl rfl (by omega) (by decide) (if_pos (by omega)) dX9_product_17 ?_
  refine lv_iload_n hx hb dX9_product_18 rfl (lv_at hl 4 rfl) ?_
  refine xa_iald hx hb hK hP 1 0 rfl rfl (by omega) (by decide) dX9_product_19 ?_
  refine xt_i (y := nI 0) (by decide +kernel) ?_
  refine lv_aload_n hx hb dX9_product_20 rfl (lv_at hl 2 rfl) ?_
  refine lv_iload hx hb dX9_product_21 (lv_at hl 0 rfl) ?_
  refine xa_aald (b := h 201) hx hb hK hP 0 3 rfl rfl rfl (by omega) (by decide) (if_pos (by omega)) dX9_product_23 ?_
  refine lv_iload_n hx hb dX9_product_24 rfl (lv_at hl 5 rfl) ?_
  refine xa_iald hx hb hK hP 1 0 rfl rfl (by omega) (by decide) dX9_product_25 ?_
  refine xt_i (y := nI 0) (by decide +kernel) ?_
  refine lv_imul hx hb dX9_product_26 ?_
  refine xt_i (y := nI 0) (by decide +kernel) ?_
  refine lv_iadd hx hb dX9_product_27 ?_
  refine xt_i (y := nI 0) (by decide +kernel) ?_
  refine lv_istore (lv' := [(4, .int (nI 0)), (5, .int (nI 0)), (0, .ref (h 200)), (1, .int (nI 2)), (2, .int (nI 1)), (3, .int (nI 1))]) hx hb dX9_product_28 hl (by decide) rfl (fun ls hl => ?_)
  refine lv_iinc (v := nI 1) (lv' := [(5, .int (nI 1)), (4, .int (nI 0)), (0, .ref (h 200)), (1, .int (nI 2)), (2, .int (nI 1)), (3, .int (nI 1))]) hx hb dX9_product_30 hl (k := 1) rfl (by decide +kernel) (by decide) rfl (fun ls hl => ?_)
  refine lv_goto (tgt := 6) hx hb dX9_product_33 (by decide) ?_
  refine lv_iload hx hb dX9_product_6 (lv_at hl 0 rfl) ?_
  refine lv_iload_n hx hb dX9_product_8 rfl (lv_at hl 3 rfl) ?_
  refine lv_icmp_ge (tgt := 36) hx hb dX9_product_9 (by decide) (fun c9 => False.elim (by revert c9; decide +kernel)) (fun _ => ?_)
  refine lv_iload hx hb dX9_product_12 (lv_at hl 1 rfl) ?_
  refine lv_aload_n hx hb dX9_product_14 rfl (lv_at hl 2 rfl) ?_
  refine lv_iload hx hb dX9_product_15 (lv_at hl 0 rfl) ?_
  refine xa_aald (b := h 202) hx hb hK hP 0 3 rfl rfl rfl (by omega) (by decide) (if_pos (by omega)) dX9_product_17 ?_
  refine lv_iload_n hx hb dX9_product_18 rfl (lv_at hl 4 rfl) ?_
  refine xa_iald hx hb hK hP 2 0 rfl rfl (by omega) (by decide) dX9_product_19 ?_
  refine xt_i (y := nI 0) (by decide +kernel) ?_
  refine lv_aload_n hx hb dX9_product_20 rfl (lv_at hl 2 rfl) ?_
  refine lv_iload hx hb dX9_product_21 (lv_at hl 0 rfl) ?_
  refine xa_aald (b := h 202) hx hb hK hP 0 3 rfl rfl rfl (by omega) (by decide) (if_pos (by omega)) dX9_product_23 ?_
  refine lv_iload_n hx hb dX9_product_24 rfl (lv_at hl 5 rfl) ?_
  refine xa_iald hx hb hK hP 2 0 rfl rfl (by omega) (by decide) dX9_product_25 ?_
  refine xt_i (y := nI 0) (by decide +kernel) ?_
  refine lv_imul hx hb dX9_product_26 ?_
  refine xt_i (y := nI 0) (by decide +kernel) ?_
  refine lv_iadd hx hb dX9_product_27 ?_
  refine xt_i (y := nI 0) (by decide +kernel) ?_
  refine lv_istore (lv' := [(4, .int (nI 0)), (5, .int (nI 1)), (0, .ref (h 200)), (1, .int (nI 2)), (2, .int (nI 1)), (3, .int (nI 1))]) hx hb dX9_product_28 hl (by decide) rfl (fun ls hl => ?_)
  refine lv_iinc (v := nI 2) (lv' := [(5, .int (nI 2)), (4, .int (nI 0)), (0, .ref (h 200)), (1, .int (nI 2)), (2, .int (nI 1)), (3, .int (nI 1))]) hx hb dX9_product_30 hl (k := 1) rfl (by decide +kernel) (by decide) rfl (fun ls hl => ?_)
  refine lv_goto (tgt := 6) hx hb dX9_product_33 (by decide) ?_
  refine lv_iload hx hb dX9_product_6 (lv_at hl 0 rfl) ?_
  refine lv_iload_n hx hb dX9_product_8 rfl (lv_at hl 3 rfl) ?_
  refine lv_icmp_ge (tgt := 36) hx hb dX9_product_9 (by decide) (fun _ => ?_) (fun c9 => False.elim (by revert c9; decide +kernel))
  refine lv_iload hx hb dX9_product_36 (lv_at hl 1 rfl) ?_
  exact xr_i (v := (nI 0)) hx hb hr hlocks hK hS dX9_product_38 (fI, fL, fA, fQ, qG_40, fJ) ⟨rfl, rfl⟩ hP hD
set_option maxRecDepth 20000 in
theorem ggX1_quotient_X9_product : GoodIn wsX1_quotient wsX9_product := goodIn_r _ [10] (by decide +kernel) (by decide +kernel)
set_option maxRecDepth 20000 in
theorem gX1_quotient_X9_product_n67 : GoodIn wsX1_quotient (wsX9_product) := ggX1_quotient_X9_product
theorem dX1_quotient_0 : decode cX1_quotient 0 = .ok (.aload_n 0, 1) := by decide +kernel
theorem dX1_quotient_1 : decode cX1_quotient 1 = .ok (.getfield 11, 3) := by decide +kernel
theorem dX1_quotient_4 : decode cX1_quotient 4 = .ok (.aload_n 0, 1) := by decide +kernel
theorem dX1_quotient_5 : decode cX1_quotient 5 = .ok (.getfield 27, 3) := by decide +kernel
theorem dX1_quotient_8 : decode cX1_quotient 8 = .ok (.getfield 64, 3) := by decide +kernel
theorem dX1_quotient_11 : decode cX1_quotient 11 = .ok (.iload_n 2, 1) := by decide +kernel
theorem dX1_quotient_12 : decode cX1_quotient 12 = .ok (.iload_n 2, 1) := by decide +kernel
theorem dX1_quotient_13 : decode cX1_quotient 13 = .ok (.invokestatic 67, 3) := by decide +kernel
theorem dX1_quotient_16 : decode cX1_quotient 16 = .ok (.istore_n 3, 1) := by decide +kernel
theorem dX1_quotient_17 : decode cX1_quotient 17 = .ok (.iload_n 3, 1) := by decide +kernel
theorem dX1_quotient_18 : decode cX1_quotient 18 = .ok (.ifCond .gt 5, 3) := by decide +kernel
theorem dX1_quotient_21 : decode cX1_quotient 21 = .ok (.iconst 0, 1) := by decide +kernel
theorem dX1_quotient_22 : decode cX1_quotient 22 = .ok (.ireturn, 1) := by decide +kernel
theorem dX1_quotient_23 : decode cX1_quotient 23 = .ok (.aload_n 0, 1) := by decide +kernel
theorem dX1_quotient_24 : decode cX1_quotient 24 = .ok (.getfield 11, 3) := by decide +kernel
theorem dX1_quotient_27 : decode cX1_quotient 27 = .ok (.aload_n 0, 1) := by decide +kernel
theorem dX1_quotient_28 : decode cX1_quotient 28 = .ok (.getfield 27, 3) := by decide +kernel
theorem dX1_quotient_31 : decode cX1_quotient 31 = .ok (.getfield 64, 3) := by decide +kernel
theorem dX1_quotient_34 : decode cX1_quotient 34 = .ok (.iload_n 1, 1) := by decide +kernel
theorem dX1_quotient_35 : decode cX1_quotient 35 = .ok (.iload_n 2, 1) := by decide +kernel
theorem dX1_quotient_36 : decode cX1_quotient 36 = .ok (.invokestatic 67, 3) := by decide +kernel
theorem dX1_quotient_39 : decode cX1_quotient 39 = .ok (.istore 4, 2) := by decide +kernel
theorem dX1_quotient_41 : decode cX1_quotient 41 = .ok (.iconst 2, 1) := by decide +kernel
theorem dX1_quotient_42 : decode cX1_quotient 42 = .ok (.iload 4, 2) := by decide +kernel
theorem dX1_quotient_44 : decode cX1_quotient 44 = .ok (.invokestatic 71, 3) := by decide +kernel
theorem dX1_quotient_47 : decode cX1_quotient 47 = .ok (.imul, 1) := by decide +kernel
theorem dX1_quotient_48 : decode cX1_quotient 48 = .ok (.iload_n 3, 1) := by decide +kernel
theorem dX1_quotient_49 : decode cX1_quotient 49 = .ok (.iadd, 1) := by decide +kernel
theorem dX1_quotient_50 : decode cX1_quotient 50 = .ok (.iconst 1, 1) := by decide +kernel
theorem dX1_quotient_51 : decode cX1_quotient 51 = .ok (.isub, 1) := by decide +kernel
theorem dX1_quotient_52 : decode cX1_quotient 52 = .ok (.iconst 2, 1) := by decide +kernel
theorem dX1_quotient_53 : decode cX1_quotient 53 = .ok (.iload_n 3, 1) := by decide +kernel
theorem dX1_quotient_54 : decode cX1_quotient 54 = .ok (.imul, 1) := by decide +kernel
theorem dX1_quotient_55 : decode cX1_quotient 55 = .ok (.idiv, 1) := by decide +kernel
theorem dX1_quotient_56 : decode cX1_quotient 56 = .ok (.istore 5, 2) := by decide +kernel
theorem dX1_quotient_58 : decode cX1_quotient 58 = .ok (.iload 4, 2) := by decide +kernel
theorem dX1_quotient_60 : decode cX1_quotient 60 = .ok (.ifCond .ge 9, 3) := by decide +kernel
theorem dX1_quotient_63 : decode cX1_quotient 63 = .ok (.iload 5, 2) := by decide +kernel
theorem dX1_quotient_65 : decode cX1_quotient 65 = .ok (.ineg, 1) := by decide +kernel
theorem dX1_quotient_66 : decode cX1_quotient 66 = .ok (.goto 5, 3) := by decide +kernel
theorem dX1_quotient_69 : decode cX1_quotient 69 = .ok (.iload 5, 2) := by decide +kernel
theorem dX1_quotient_71 : decode cX1_quotient 71 = .ok (.ireturn, 1) := by decide +kernel
set_option maxHeartbeats 4000000 in
set_option maxRecDepth 100000 in
theorem a_X1_quotient_42 (l : Launch) (dC : Nat → ClassId) (dI : Nat → Nat → Nat) (h : Nat → Nat) (cs : Nat → ClassId) (sz : Nat) (I : Nat → Int32) (L : Nat → Int64) (A : Nat → Nat → Int32) (Q : Nat → Nat → Int64) (G : Nat → Nat → Nat → Int32) (J : Nat → Nat → Nat → Int64) : Met l yX1_quotient wsX1_quotient ({ frames := 1, cells := 0, slots := 0, locals := 60 }) (va_Pc [.ref (h 108), .int (nI 0), .int (nI 1)] (xPre (dC, dI) (wD_34 h cs fI fL fA fQ qG_40 fJ) (tysA cs) sz)) (va_Qi (fun (r : Int32) (u : CS) => (r = nI 0) ∧ u = (fI, fL, fA, fQ, qG_40, fJ)) (xB (dC, dI) (tysA cs) (va_A (wD_34 h cs fI fL fA fQ qG_40 fJ) sz) (fun u : CS => wD_34 h cs u.1 u.2.1 u.2.2.1 u.2.2.2.1 u.2.2.2.2.1 u.2.2.2.2.2)) (va_A (wD_34 h cs fI fL fA fQ qG_40 fJ) sz)) 0 0 (va_A (wD_34 h cs fI fL fA fQ qG_40 fJ) sz) := by
  refine Met.ofW (cc := cX1_quotient) (maxL := 6) (ret := (some .int)) (by decide) rfl ?_
  intro p e s m args below meth c s₁ B hml hv
  obtain ⟨rfl, hsz, hP, hK, hD0, hN⟩ := hv
  have hx := B.exec
  have hb := B.bytes
  have hr := B.returns
  have hts := atoms_spec (ws := wsX1_quotient) B.pre
  have hown : s.vm.findClass RX1 = some m.cls := findClass_of_methodNamed B.named
  have hlocks := B.notSynchronized
  subst hsz
  have hD := hD0.self (sz := s.heap.size)
  generalize hAe : va_A (wD_34 h cs fI fL fA fQ qG_40 fJ) s.heap.size = A0 at hD ⊢
  have hA : ∀ q : Nat, s.heap.size ≤ q → A0 q := fun q h => by rw [← hAe]; exact Or.inr h
  have hl := lv_entry ([.ref (h 108), .int (nI 0), .int (nI 1)]) (n := 6) (Nat.le_of_ble_eq_true rfl)
  rw [lg_entry_eq]
  generalize (lg_sl ([.ref (h 108), .int (nI 0), .int (nI 1)]) ++ List.replicate (6 - (lg_sl ([.ref (h 108), .int (nI 0), .int (nI 1)])).length) Slot.unset).toArray = ls at hl ⊢
  have hl : lv_has ls 6 [(0, .ref (h 108)), (1, .int (nI 0)), (2, .int (nI 1))] := hl
  generalize hH : s.heap = H at hP ⊢
  have hS : va_S A0 s.heap H [] := by rw [← hH]; exact va_S.rf
  have hinX1 : ∀ w ∈ wsX10, w ∈ wsX1_quotient := by decide +kernel
  have hinX3 : ∀ w ∈ wsX30, w ∈ wsX1_quotient := by decide +kernel
  refine lv_aload_n hx hb dX1_quotient_0 rfl (lv_at hl 0 rfl) ?_
  refine va_get (D := (dC, dI)) (ci := 1) (v := .ref (h 200)) (C := RX1) (T := TX1) (N := 6) hx hb hts hinX1 hown hK hP 0 rfl rfl 1 (by decide) (hts (.fieldLink RX1 11 "MixedWords$Leader" "columns" "[[I") (by decide +kernel)) (fun _ h9 => h9) rfl dX1_quotient_1 ?_
  refine lv_aload_n hx hb dX1_quotient_4 rfl (lv_at hl 0 rfl) ?_
  refine va_get (D := (dC, dI)) (ci := 1) (v := .ref (h 101)) (C := RX1) (T := TX1) (N := 6) hx hb hts hinX1 hown hK hP 0 rfl rfl 0 (by decide) (hts (.fieldLink RX1 27 "MixedWords$Leader" "mix" "LMixedWords$Mix;") (by decide +kernel)) (fun _ h9 => h9) rfl dX1_quotient_5 ?_
  refine va_get (D := (dC, dI)) (ci := 3) (v := .int (fI 120)) (C := RX3) (T := TX3) (N := 6) hx hb hts hinX3 hown hK hP 1 rfl rfl 0 (by decide) (hts (.fieldLink RX1 64 "MixedWords$Mix" "height" "I") (by decide +kernel)) (fun _ h9 => h9) rfl dX1_quotient_8 ?_
  refine xt_i (y := nI 2) (by decide +kernel) ?_
  refine lv_iload_n hx hb dX1_quotient_11 rfl (lv_at hl 2 rfl) ?_
  refine lv_iload_n hx hb dX1_quotient_12 rfl (lv_at hl 2 rfl) ?_
  refine xj_i (wc := (wD_43 h cs fI fL fA fQ qG_40 fJ)) (wr := [(h 108, .inr (1, [.ref (h 101), .ref (h 200), .ref (h 206), .ref (h 211), .int (fI 212), .int (fI 213)])), (h 101, .inr (3, [.int (fI 120), .int (fI 121), .int (fI 122), .int (fI 123), .ref (h 130), .ref (h 136)])), (h 130, .inl (cs 3, 5, .inr (.inr (.inr (.inr (fun i => if i < 5 then some (h (i + 131)) else none)))))), (h 131, .inl (cs 0, 4, .inl ((qG_40 0) 0))), (h 132, .inl (cs 0, 4, .inl ((qG_40 0) 1))), (h 133, .inl (cs 0, 4, .inl ((qG_40 0) 2))), (h 134, .inl (cs 0, 4, .inl ((qG_40 0) 3))), (h 135, .inl (cs 0, 4, .inl ((qG_40 0) 4))), (h 136, .inl (cs 0, 5, .inl (fA 136))), (h 206, .inl (cs 3, 4, .inr (.inr (.inr (.inr (fun i => if i < 4 then some (h (i + 207)) else none)))))), (h 207, .inl (cs 0, 4, .inl ((qG_40 3) 0))), (h 208, .inl (cs 0, 4, .inl ((qG_40 3) 1))), (h 209, .inl (cs 0, 4, .inl ((qG_40 3) 2))), (h 210, .inl (cs 0, 4, .inl ((qG_40 3) 3))), (h 211, .inl (cs 0, 5, .inl (fA 211)))]) hP hD hS hA [9, 10, 11, 12, 13, 14] [0, 1, 2, 3, 4, 5, 6, 7, 8, 15, 16, 17, 18, 19, 20] rfl rfl (by decide) (by decide) (va_runSN (As := [.ref (h 200), .int (nI 2), .int (nI 1), .int (nI 1)]) (rest := []) ⟨hx, hb, hml, hown, hts⟩ (a_X9_product_44 l dC dI h cs H.size fI fL fA fQ qG_40 fJ ) ⟨va_cnB (host := "MixedWords") 4 hts gX1_quotient_X9_product_n67 rfl rfl rfl hN.2.2.2.2.1 (hts (.initialized RX9) (by decide +kernel)) (by decide +kernel) ⟨Nat.le_of_ble_eq_true rfl, Nat.le_of_ble_eq_true rfl⟩, hts (.static yX9_product) (by decide +kernel), trivial⟩ (xpS (wc := (wD_43 h cs fI fL fA fQ qG_40 fJ)) hP hD hK hN [9, 10, 11, 12, 13, 14] rfl (by decide) _) rfl rfl hl.1 rfl (lv_room (Nat.le_of_ble_eq_true rfl)) dX1_quotient_13 ⟨Nat.zero_le _, Nat.zero_le _⟩) (fun r_2 u_1 H locs hw hP hD hS => ?_)
  obtain ⟨hf_3, rfl⟩ := hw
  have hP : va_P (dC, dI) vwCl (wD_34 h cs fI fL fA fQ qG_40 fJ) H := xP_sub hP [0, 1, 2, 3, 4, 5, 6, 7, 8, 15, 16, 17, 18, 19, 20, 9, 10, 11, 12, 13, 14] rfl
  have hD : va_D A0 (wD_34 h cs fI fL fA fQ qG_40 fJ) := hD.sub [0, 1, 2, 3, 4, 5, 6, 7, 8, 15, 16, 17, 18, 19, 20, 9, 10, 11, 12, 13, 14] (by decide) rfl
  obtain rfl := hf_3
  refine lv_istore_n (lv' := [(3, .int (nI 0)), (0, .ref (h 108)), (1, .int (nI 0)), (2, .int (nI 1))]) hx hb dX1_quotient_16 rfl hl (by decide) rfl (fun ls hl => ?_)
  refine lv_iload_n hx hb dX1_quotient_17 rfl (lv_at hl 0 rfl) ?_
  refine lv_if_gt (tgt := 23) hx hb dX1_quotient_18 (by decide) (fun c9 => False.elim (by revert c9; decide +kernel)) (fun _ => ?_)
  refine lv_iconst (v := nI 0) hx hb dX1_quotient_21 (by decide) ?_
  exact xr_i (v := (nI 0)) hx hb hr hlocks hK hS dX1_quotient_22 (fI, fL, fA, fQ, qG_40, fJ) ⟨rfl, rfl⟩ hP hD
set_option maxHeartbeats 4000000 in
set_option maxRecDepth 100000 in
theorem a_X9_product_46 (l : Launch) (dC : Nat → ClassId) (dI : Nat → Nat → Nat) (h : Nat → Nat) (cs : Nat → ClassId) (sz : Nat) (I : Nat → Int32) (L : Nat → Int64) (A : Nat → Nat → Int32) (Q : Nat → Nat → Int64) (G : Nat → Nat → Nat → Int32) (J : Nat → Nat → Nat → Int64) : Met l yX9_product wsX9_product ({ frames := 0, cells := 0, slots := 0, locals := 0 }) (va_Pc [.ref (h 200), .int (nI 2), .int (nI 0), .int (nI 0)] (xPre (dC, dI) (wD_43 h cs fI fL fA fQ qG_40 fJ) (tysA cs) sz)) (va_Qi (fun (r : Int32) (u : CS) => (r = nI 0) ∧ u = (fI, fL, fA, fQ, qG_40, fJ)) (xB (dC, dI) (tysA cs) (va_A (wD_43 h cs fI fL fA fQ qG_40 fJ) sz) (fun u : CS => wD_43 h cs u.1 u.2.1 u.2.2.1 u.2.2.2.1 u.2.2.2.2.1 u.2.2.2.2.2)) (va_A (wD_43 h cs fI fL fA fQ qG_40 fJ) sz)) 0 0 (va_A (wD_43 h cs fI fL fA fQ qG_40 fJ) sz) := by
  refine Met.ofW (cc := cX9_product) (maxL := 6) (ret := (some .int)) (by decide) rfl ?_
  intro p e s m args below meth c s₁ B hml hv
  obtain ⟨rfl, hsz, hP, hK, hD0, hN⟩ := hv
  have hx := B.exec
  have hb := B.bytes
  have hr := B.returns
  have hts := atoms_spec (ws := wsX9_product) B.pre
  have hown : s.vm.findClass RX9 = some m.cls := findClass_of_methodNamed B.named
  have hlocks := B.notSynchronized
  subst hsz
  have hD := hD0.self (sz := s.heap.size)
  generalize hAe : va_A (wD_43 h cs fI fL fA fQ qG_40 fJ) s.heap.size = A0 at hD ⊢
  have hA : ∀ q : Nat, s.heap.size ≤ q → A0 q := fun q h => by rw [← hAe]; exact Or.inr h
  have hl := lv_entry ([.ref (h 200), .int (nI 2), .int (nI 0), .int (nI 0)]) (n := 6) (Nat.le_of_ble_eq_true rfl)
  rw [lg_entry_eq]
  generalize (lg_sl ([.ref (h 200), .int (nI 2), .int (nI 0), .int (nI 0)]) ++ List.replicate (6 - (lg_sl ([.ref (h 200), .int (nI 2), .int (nI 0), .int (nI 0)])).length) Slot.unset).toArray = ls at hl ⊢
  have hl : lv_has ls 6 [(0, .ref (h 200)), (1, .int (nI 2)), (2, .int (nI 0)), (3, .int (nI 0))] := hl
  generalize hH : s.heap = H at hP ⊢
  have hS : va_S A0 s.heap H [] := by rw [← hH]; exact va_S.rf
  refine lv_iconst (v := nI 0) hx hb dX9_product_0 (by decide) ?_
  refine lv_istore (lv' := [(4, .int (nI 0)), (0, .ref (h 200)), (1, .int (nI 2)), (2, .int (nI 0)), (3, .int (nI 0))]) hx hb dX9_product_1 hl (by decide) rfl (fun ls hl => ?_)
  refine lv_iconst (v := nI 0) hx hb dX9_product_3 (by decide) ?_
  refine lv_istore (lv' := [(5, .int (nI 0)), (4, .int (nI 0)), (0, .ref (h 200)), (1, .int (nI 2)), (2, .int (nI 0)), (3, .int (nI 0))]) hx hb dX9_product_4 hl (by decide) rfl (fun ls hl => ?_)
  refine lv_iload hx hb dX9_product_6 (lv_at hl 0 rfl) ?_
  refine lv_iload_n hx hb dX9_product_8 rfl (lv_at hl 3 rfl) ?_
  refine lv_icmp_ge (tgt := 36) hx hb dX9_product_9 (by decide) (fun c9 => False.elim (by revert c9; decide +kernel)) (fun _ => ?_)
  refine lv_iload hx hb dX9_product_12 (lv_at hl 1 rfl) ?_
  refine lv_aload_n hx hb dX9_product_14 rfl (lv_at hl 2 rfl) ?_
  refine lv_iload hx hb dX9_product_15 (lv_at hl 0 rfl) ?_
  refine xa_aald (b := h 201) hx hb hK hP 0 3 rfl rfl rfl (by omega) (by decide) (if_pos (by omega)) dX9_product_17 ?_
  refine lv_iload_n hx hb dX9_product_18 rfl (lv_at hl 4 rfl) ?_
  refine xa_iald hx hb hK hP 1 0 rfl rfl (by omega) (by decide) dX9_product_19 ?_
  refine xt_i (y := nI 0) (by decide +kernel) ?_
  refine lv_aload_n hx hb dX9_product_20 rfl (lv_at hl 2 rfl) ?_
  refine lv_iload hx hb dX9_product_21 (lv_at hl 0 rfl) ?_
  refine xa_aald (b := h 201) hx hb hK hP 0 3 rfl rfl rfl (by omega) (by decide) (if_pos (by omega)) dX9_product_23 ?_
  refine lv_iload_n hx hb dX9_product_24 rfl (lv_at hl 5 rfl) ?_
  refine xa_iald hx hb hK hP 1 0 rfl rfl (by omega) (by decide) dX9_product_25 ?_
  refine xt_i (y := nI 0) (by decide +kernel) ?_
  refine lv_imul hx hb dX9_product_26 ?_
  refine xt_i (y := nI 0) (by decide +kernel) ?_
  refine lv_iadd hx hb dX9_product_27 ?_
  refine xt_i (y := nI 0) (by decide +kernel) ?_
  refine lv_istore (lv' := [(4, .int (nI 0)), (5, .int (nI 0)), (0, .ref (h 200)), (1, .int (nI 2)), (2, .int (nI 0)), (3, .int (nI 0))]) hx hb dX9_product_28 hl (by decide) rfl (fun ls hl => ?_)
  refine lv_iinc (v := nI 1) (lv' := [(5, .int (nI 1)), (4, .int (nI 0)), (0, .ref (h 200)), (1, .int (nI 2)), (2, .int (nI 0)), (3, .int (nI 0))]) hx hb dX9_product_30 hl (k := 1) rfl (by decide +kernel) (by decide) rfl (fun ls hl => ?_)
  refine lv_goto (tgt := 6) hx hb dX9_product_33 (by decide) ?_
  refine lv_iload hx hb dX9_product_6 (lv_at hl 0 rfl) ?_
  refine lv_iload_n hx hb dX9_product_8 rfl (lv_at hl 3 rfl) ?_
  refine lv_icmp_ge (tgt := 36) hx hb dX9_product_9 (by decide) (fun c9 => False.elim (by revert c9; decide +kernel)) (fun _ => ?_)
  refine lv_iload hx hb dX9_product_12 (lv_at hl 1 rfl) ?_
  refine lv_aload_n hx hb dX9_product_14 rfl (lv_at hl 2 rfl) ?_
  refine lv_iload hx hb dX9_product_15 (lv_at hl 0 rfl) ?_
  refine xa_aald (b := h 202) hx hb hK hP 0 3 rfl rfl rfl (by omega) (by decide) (if_pos (by omega)) dX9_product_17 ?_
  refine lv_iload_n hx hb dX9_product_18 rfl (lv_at hl 4 rfl) ?_
  refine xa_iald hx hb hK hP 2 0 rfl rfl (by omega) (by decide) dX9_product_19 ?_
  refine xt_i (y := nI 0) (by decide +kernel) ?_
  refine lv_aload_n hx hb dX9_product_20 rfl (lv_at hl 2 rfl) ?_
  refine lv_iload hx hb dX9_product_21 (lv_at hl 0 rfl) ?_
  refine xa_aald (b := h 202) hx hb hK hP 0 3 rfl rfl rfl (by omega) (by decide) (if_pos (by omega)) dX9_product_23 ?_
  refine lv_iload_n hx hb dX9_product_24 rfl (lv_at hl 5 rfl) ?_
  refine xa_iald hx hb hK hP 2 0 rfl rfl (by omega) (by decide) dX9_product_25 ?_
  refine xt_i (y := nI 0) (by decide +kernel) ?_
  refine lv_imul hx hb dX9_product_26 ?_
  refine xt_i (y := nI 0) (by decide +kernel) ?_
  refine lv_iadd hx hb dX9_product_27 ?_
  refine xt_i (y := nI 0) (by decide +kernel) ?_
  refine lv_istore (lv' := [(4, .int (nI 0)), (5, .int (nI 1)), (0, .ref (h 200)), (1, .int (nI 2)), (2, .int (nI 0)), (3, .int (nI 0))]) hx hb dX9_product_28 hl (by decide) rfl (fun ls hl => ?_)
  refine lv_iinc (v := nI 2) (lv' := [(5, .int (nI 2)), (4, .int (nI 0)), (0, .ref (h 200)), (1, .int (nI 2)), (2, .int (nI 0)), (3, .int (nI 0))]) hx hb dX9_product_30 hl (k := 1) rfl (by decide +kernel) (by decide) rfl (fun ls hl => ?_)
  refine lv_goto (tgt := 6) hx hb dX9_product_33 (by decide) ?_
  refine lv_iload hx hb dX9_product_6 (lv_at hl 0 rfl) ?_
  refine lv_iload_n hx hb dX9_product_8 rfl (lv_at hl 3 rfl) ?_
  refine lv_icmp_ge (tgt := 36) hx hb dX9_product_9 (by decide) (fun _ => ?_) (fun c9 => False.elim (by revert c9; decide +kernel))
  refine lv_iload hx hb dX9_product_36 (lv_at hl 1 rfl) ?_
  exact xr_i (v := (nI 0)) hx hb hr hlocks hK hS dX9_product_38 (fI, fL, fA, fQ, qG_40, fJ) ⟨rfl, rfl⟩ hP hD
set_option maxHeartbeats 4000000 in
set_option maxRecDepth 100000 in
theorem a_X1_quotient_45 (l : Launch) (dC : Nat → ClassId) (dI : Nat → Nat → Nat) (h : Nat → Nat) (cs : Nat → ClassId) (sz : Nat) (I : Nat → Int32) (L : Nat → Int64) (A : Nat → Nat → Int32) (Q : Nat → Nat → Int64) (G : Nat → Nat → Nat → Int32) (J : Nat → Nat → Nat → Int64) : Met l yX1_quotient wsX1_quotient ({ frames := 1, cells := 0, slots := 0, locals := 60 }) (va_Pc [.ref (h 108), .int (nI 1), .int (nI 0)] (xPre (dC, dI) (wD_34 h cs fI fL fA fQ qG_40 fJ) (tysA cs) sz)) (va_Qi (fun (r : Int32) (u : CS) => (r = nI 0) ∧ u = (fI, fL, fA, fQ, qG_40, fJ)) (xB (dC, dI) (tysA cs) (va_A (wD_34 h cs fI fL fA fQ qG_40 fJ) sz) (fun u : CS => wD_34 h cs u.1 u.2.1 u.2.2.1 u.2.2.2.1 u.2.2.2.2.1 u.2.2.2.2.2)) (va_A (wD_34 h cs fI fL fA fQ qG_40 fJ) sz)) 0 0 (va_A (wD_34 h cs fI fL fA fQ qG_40 fJ) sz) := by
  refine Met.ofW (cc := cX1_quotient) (maxL := 6) (ret := (some .int)) (by decide) rfl ?_
  intro p e s m args below meth c s₁ B hml hv
  obtain ⟨rfl, hsz, hP, hK, hD0, hN⟩ := hv
  have hx := B.exec
  have hb := B.bytes
  have hr := B.returns
  have hts := atoms_spec (ws := wsX1_quotient) B.pre
  have hown : s.vm.findClass RX1 = some m.cls := findClass_of_methodNamed B.named
  have hlocks := B.notSynchronized
  subst hsz
  have hD := hD0.self (sz := s.heap.size)
  generalize hAe : va_A (wD_34 h cs fI fL fA fQ qG_40 fJ) s.heap.size = A0 at hD ⊢
  have hA : ∀ q : Nat, s.heap.size ≤ q → A0 q := fun q h => by rw [← hAe]; exact Or.inr h
  have hl := lv_entry ([.ref (h 108), .int (nI 1), .int (nI 0)]) (n := 6) (Nat.le_of_ble_eq_true rfl)
  rw [lg_entry_eq]
  generalize (lg_sl ([.ref (h 108), .int (nI 1), .int (nI 0)]) ++ List.replicate (6 - (lg_sl ([.ref (h 108), .int (nI 1), .int (nI 0)])).length) Slot.unset).toArray = ls at hl ⊢
  have hl : lv_has ls 6 [(0, .ref (h 108)), (1, .int (nI 1)), (2, .int (nI 0))] := hl
  generalize hH : s.heap = H at hP ⊢
  have hS : va_S A0 s.heap H [] := by rw [← hH]; exact va_S.rf
  have hinX1 : ∀ w ∈ wsX10, w ∈ wsX1_quotient := by decide +kernel
  have hinX3 : ∀ w ∈ wsX30, w ∈ wsX1_quotient := by decide +kernel
  refine lv_aload_n hx hb dX1_quotient_0 rfl (lv_at hl 0 rfl) ?_
  refine va_get (D := (dC, dI)) (ci := 1) (v := .ref (h 200)) (C := RX1) (T := TX1) (N := 6) hx hb hts hinX1 hown hK hP 0 rfl rfl 1 (by decide) (hts (.fieldLink RX1 11 "MixedWords$Leader" "columns" "[[I") (by decide +kernel)) (fun _ h9 => h9) rfl dX1_quotient_1 ?_
  refine lv_aload_n hx hb dX1_quotient_4 rfl (lv_at hl 0 rfl) ?_
  refine va_get (D := (dC, dI)) (ci := 1) (v := .ref (h 101)) (C := RX1) (T := TX1) (N := 6) hx hb hts hinX1 hown hK hP 0 rfl rfl 0 (by decide) (hts (.fieldLink RX1 27 "MixedWords$Leader" "mix" "LMixedWords$Mix;") (by decide +kernel)) (fun _ h9 => h9) rfl dX1_quotient_5 ?_
  refine va_get (D := (dC, dI)) (ci := 3) (v := .int (fI 120)) (C := RX3) (T := TX3) (N := 6) hx hb hts hinX3 hown hK hP 1 rfl rfl 0 (by decide) (hts (.fieldLink RX1 64 "MixedWords$Mix" "height" "I") (by decide +kernel)) (fun _ h9 => h9) rfl dX1_quotient_8 ?_
  refine xt_i (y := nI 2) (by decide +kernel) ?_
  refine lv_iload_n hx hb dX1_quotient_11 rfl (lv_at hl 2 rfl) ?_
  refine lv_iload_n hx hb dX1_quotient_12 rfl (lv_at hl 2 rfl) ?_
  refine xj_i (wc := (wD_43 h cs fI fL fA fQ qG_40 fJ)) (wr := [(h 108, .inr (1, [.ref (h 101), .ref (h 200), .ref (h 206), .ref (h 211), .int (fI 212), .int (fI 213)])), (h 101, .inr (3, [.int (fI 120), .int (fI 121), .int (fI 122), .int (fI 123), .ref (h 130), .ref (h 136)])), (h 130, .inl (cs 3, 5, .inr (.inr (.inr (.inr (fun i => if i < 5 then some (h (i + 131)) else none)))))), (h 131, .inl (cs 0, 4, .inl ((qG_40 0) 0))), (h 132, .inl (cs 0, 4, .inl ((qG_40 0) 1))), (h 133, .inl (cs 0, 4, .inl ((qG_40 0) 2))), (h 134, .inl (cs 0, 4, .inl ((qG_40 0) 3))), (h 135, .inl (cs 0, 4, .inl ((qG_40 0) 4))), (h 136, .inl (cs 0, 5, .inl (fA 136))), (h 206, .inl (cs 3, 4, .inr (.inr (.inr (.inr (fun i => if i < 4 then some (h (i + 207)) else none)))))), (h 207, .inl (cs 0, 4, .inl ((qG_40 3) 0))), (h 208, .inl (cs 0, 4, .inl ((qG_40 3) 1))), (h 209, .inl (cs 0, 4, .inl ((qG_40 3) 2))), (h 210, .inl (cs 0, 4, .inl ((qG_40 3) 3))), (h 211, .inl (cs 0, 5, .inl (fA 211)))]) hP hD hS hA [9, 10, 11, 12, 13, 14] [0, 1, 2, 3, 4, 5, 6, 7, 8, 15, 16, 17, 18, 19, 20] rfl rfl (by decide) (by decide) (va_runSN (As := [.ref (h 200), .int (nI 2), .int (nI 0), .int (nI 0)]) (rest := []) ⟨hx, hb, hml, hown, hts⟩ (a_X9_product_46 l dC dI h cs H.size fI fL fA fQ qG_40 fJ ) ⟨va_cnB (host := "MixedWords") 4 hts gX1_quotient_X9_product_n67 rfl rfl rfl hN.2.2.2.2.1 (hts (.initialized RX9) (by decide +kernel)) (by decide +kernel) ⟨Nat.le_of_ble_eq_true rfl, Nat.le_of_ble_eq_true rfl⟩, hts (.static yX9_product) (by decide +kernel), trivial⟩ (xpS (wc := (wD_43 h cs fI fL fA fQ qG_40 fJ)) hP hD hK hN [9, 10, 11, 12, 13, 14] rfl (by decide) _) rfl rfl hl.1 rfl (lv_room (Nat.le_of_ble_eq_true rfl)) dX1_quotient_13 ⟨Nat.zero_le _, Nat.zero_le _⟩) (fun r_2 u_1 H locs hw hP hD hS => ?_)
  obtain ⟨hf_3, rfl⟩ := hw
  have hP : va_P (dC, dI) vwCl (wD_34 h cs fI fL fA fQ qG_40 fJ) H := xP_sub hP [0, 1, 2, 3, 4, 5, 6, 7, 8, 15, 16, 17, 18, 19, 20, 9, 10, 11, 12, 13, 14] rfl
  have hD : va_D A0 (wD_34 h cs fI fL fA fQ qG_40 fJ) := hD.sub [0, 1, 2, 3, 4, 5, 6, 7, 8, 15, 16, 17, 18, 19, 20, 9, 10, 11, 12, 13, 14] (by decide) rfl
  obtain rfl := hf_3
  refine lv_istore_n (lv' := [(3, .int (nI 0)), (0, .ref (h 108)), (1, .int (nI 1)), (2, .int (nI 0))]) hx hb dX1_quotient_16 rfl hl (by decide) rfl (fun ls hl => ?_)
  refine lv_iload_n hx hb dX1_quotient_17 rfl (lv_at hl 0 rfl) ?_
  refine lv_if_gt (tgt := 23) hx hb dX1_quotient_18 (by decide) (fun c9 => False.elim (by revert c9; decide +kernel)) (fun _ => ?_)
  refine lv_iconst (v := nI 0) hx hb dX1_quotient_21 (by decide) ?_
  exact xr_i (v := (nI 0)) hx hb hr hlocks hK hS dX1_quotient_22 (fI, fL, fA, fQ, qG_40, fJ) ⟨rfl, rfl⟩ hP hD
set_option maxRecDepth 20000 in
theorem ggX1_shortenFirst_X1_quotient : GoodIn wsX1_shortenFirst wsX1_quotient := goodIn_r _ [7, 8, 1, 9, 10, 11, 12, 13, 14, 15, 16, 22, 23, 24, 25, 26, 27, 28, 29, 30, 31, 32, 33] (by decide +kernel) (by decide +kernel)
set_option maxRecDepth 20000 in
theorem gX1_shortenFirst_X1_quotient : GoodIn wsX1_shortenFirst (wsV RX1 56 RX1 yX1_quotient wsX1_quotient) := goodIn_app (goodIn_of _ (by decide +kernel)) ggX1_shortenFirst_X1_quotient
set_option maxRecDepth 20000 in
theorem ggX1_shortenFirst_X1_shorten : GoodIn wsX1_shortenFirst wsX1_shorten := goodIn_r _ [20, 1, 9, 8, 2, 21, 22, 23, 24, 25, 26, 27, 28, 29, 30, 31, 32, 33] (by decide +kernel) (by decide +kernel)
set_option maxRecDepth 20000 in
theorem gX1_shortenFirst_X1_shorten : GoodIn wsX1_shortenFirst (wsV RX1 60 RX1 yX1_shorten wsX1_shorten) := goodIn_app (goodIn_of _ (by decide +kernel)) ggX1_shortenFirst_X1_shorten
theorem dX1_shortenFirst_0 : decode cX1_shortenFirst 0 = .ok (.iconst 0, 1) := by decide +kernel
theorem dX1_shortenFirst_1 : decode cX1_shortenFirst 1 = .ok (.istore_n 1, 1) := by decide +kernel
theorem dX1_shortenFirst_2 : decode cX1_shortenFirst 2 = .ok (.iload_n 1, 1) := by decide +kernel
theorem dX1_shortenFirst_3 : decode cX1_shortenFirst 3 = .ok (.aload_n 0, 1) := by decide +kernel
theorem dX1_shortenFirst_4 : decode cX1_shortenFirst 4 = .ok (.getfield 27, 3) := by decide +kernel
theorem dX1_shortenFirst_7 : decode cX1_shortenFirst 7 = .ok (.getfield 53, 3) := by decide +kernel
theorem dX1_shortenFirst_10 : decode cX1_shortenFirst 10 = .ok (.if_icmp .ge 57, 3) := by decide +kernel
theorem dX1_shortenFirst_13 : decode cX1_shortenFirst 13 = .ok (.iconst 0, 1) := by decide +kernel
theorem dX1_shortenFirst_14 : decode cX1_shortenFirst 14 = .ok (.istore_n 2, 1) := by decide +kernel
theorem dX1_shortenFirst_15 : decode cX1_shortenFirst 15 = .ok (.iload_n 2, 1) := by decide +kernel
theorem dX1_shortenFirst_16 : decode cX1_shortenFirst 16 = .ok (.aload_n 0, 1) := by decide +kernel
theorem dX1_shortenFirst_17 : decode cX1_shortenFirst 17 = .ok (.getfield 27, 3) := by decide +kernel
theorem dX1_shortenFirst_20 : decode cX1_shortenFirst 20 = .ok (.getfield 53, 3) := by decide +kernel
theorem dX1_shortenFirst_23 : decode cX1_shortenFirst 23 = .ok (.if_icmp .ge 38, 3) := by decide +kernel
theorem dX1_shortenFirst_26 : decode cX1_shortenFirst 26 = .ok (.iload_n 1, 1) := by decide +kernel
theorem dX1_shortenFirst_27 : decode cX1_shortenFirst 27 = .ok (.iload_n 2, 1) := by decide +kernel
theorem dX1_shortenFirst_28 : decode cX1_shortenFirst 28 = .ok (.if_icmp .ne 7, 3) := by decide +kernel
theorem dX1_shortenFirst_31 : decode cX1_shortenFirst 31 = .ok (.iconst 0, 1) := by decide +kernel
theorem dX1_shortenFirst_32 : decode cX1_shortenFirst 32 = .ok (.goto 9, 3) := by decide +kernel
theorem dX1_shortenFirst_35 : decode cX1_shortenFirst 35 = .ok (.aload_n 0, 1) := by decide +kernel
theorem dX1_shortenFirst_36 : decode cX1_shortenFirst 36 = .ok (.iload_n 1, 1) := by decide +kernel
theorem dX1_shortenFirst_37 : decode cX1_shortenFirst 37 = .ok (.iload_n 2, 1) := by decide +kernel
theorem dX1_shortenFirst_38 : decode cX1_shortenFirst 38 = .ok (.invokevirtual 56, 3) := by decide +kernel
theorem dX1_shortenFirst_41 : decode cX1_shortenFirst 41 = .ok (.istore_n 3, 1) := by decide +kernel
theorem dX1_shortenFirst_42 : decode cX1_shortenFirst 42 = .ok (.iload_n 3, 1) := by decide +kernel
theorem dX1_shortenFirst_43 : decode cX1_shortenFirst 43 = .ok (.ifCond .eq 12, 3) := by decide +kernel
theorem dX1_shortenFirst_46 : decode cX1_shortenFirst 46 = .ok (.aload_n 0, 1) := by decide +kernel
theorem dX1_shortenFirst_47 : decode cX1_shortenFirst 47 = .ok (.iload_n 1, 1) := by decide +kernel
theorem dX1_shortenFirst_48 : decode cX1_shortenFirst 48 = .ok (.iload_n 2, 1) := by decide +kernel
theorem dX1_shortenFirst_49 : decode cX1_shortenFirst 49 = .ok (.iload_n 3, 1) := by decide +kernel
theorem dX1_shortenFirst_50 : decode cX1_shortenFirst 50 = .ok (.invokevirtual 60, 3) := by decide +kernel
theorem dX1_shortenFirst_53 : decode cX1_shortenFirst 53 = .ok (.iconst 1, 1) := by decide +kernel
theorem dX1_shortenFirst_54 : decode cX1_shortenFirst 54 = .ok (.ireturn, 1) := by decide +kernel
theorem dX1_shortenFirst_55 : decode cX1_shortenFirst 55 = .ok (.iinc 2 1, 3) := by decide +kernel
theorem dX1_shortenFirst_58 : decode cX1_shortenFirst 58 = .ok (.goto (-43), 3) := by decide +kernel
theorem dX1_shortenFirst_61 : decode cX1_shortenFirst 61 = .ok (.iinc 1 1, 3) := by decide +kernel
theorem dX1_shortenFirst_64 : decode cX1_shortenFirst 64 = .ok (.goto (-62), 3) := by decide +kernel
theorem dX1_shortenFirst_67 : decode cX1_shortenFirst 67 = .ok (.iconst 0, 1) := by decide +kernel
theorem dX1_shortenFirst_68 : decode cX1_shortenFirst 68 = .ok (.ireturn, 1) := by decide +kernel
set_option maxHeartbeats 4000000 in
set_option maxRecDepth 100000 in
theorem a_X1_shortenFirst_41 (l : Launch) (dC : Nat → ClassId) (dI : Nat → Nat → Nat) (h : Nat → Nat) (cs : Nat → ClassId) (sz : Nat) (I : Nat → Int32) (L : Nat → Int64) (A : Nat → Nat → Int32) (Q : Nat → Nat → Int64) (G : Nat → Nat → Nat → Int32) (J : Nat → Nat → Nat → Int64) : Met l yX1_shortenFirst wsX1_shortenFirst ({ frames := 2, cells := 0, slots := 0, locals := 85 }) (va_Pc [.ref (h 108)] (xPre (dC, dI) (wD_34 h cs fI fL fA fQ qG_40 fJ) (tysA cs) sz)) (va_Qi (fun (r : Int32) (u : CS) => (r = nI 0) ∧ u = (fI, fL, fA, fQ, qG_40, fJ)) (xB (dC, dI) (tysA cs) (va_A (wD_34 h cs fI fL fA fQ qG_40 fJ) sz) (fun u : CS => wD_34 h cs u.1 u.2.1 u.2.2.1 u.2.2.2.1 u.2.2.2.2.1 u.2.2.2.2.2)) (va_A (wD_34 h cs fI fL fA fQ qG_40 fJ) sz)) 0 0 (va_A (wD_34 h cs fI fL fA fQ qG_40 fJ) sz) := by
  refine Met.ofW (cc := cX1_shortenFirst) (maxL := 4) (ret := (some .boolean)) (by decide) rfl ?_
  intro p e s m args below meth c s₁ B hml hv
  obtain ⟨rfl, hsz, hP, hK, hD0, hN⟩ := hv
  have hx := B.exec
  have hb := B.bytes
  have hr := B.returns
  have hts := atoms_spec (ws := wsX1_shortenFirst) B.pre
  have hown : s.vm.findClass RX1 = some m.cls := findClass_of_methodNamed B.named
  have hlocks := B.notSynchronized
  subst hsz
  have hD := hD0.self (sz := s.heap.size)
  generalize hAe : va_A (wD_34 h cs fI fL fA fQ qG_40 fJ) s.heap.size = A0 at hD ⊢
  have hA : ∀ q : Nat, s.heap.size ≤ q → A0 q := fun q h => by rw [← hAe]; exact Or.inr h
  have hl := lv_entry ([.ref (h 108)]) (n := 4) (Nat.le_of_ble_eq_true rfl)
  rw [lg_entry_eq]
  generalize (lg_sl ([.ref (h 108)]) ++ List.replicate (4 - (lg_sl ([.ref (h 108)])).length) Slot.unset).toArray = ls at hl ⊢
  have hl : lv_has ls 4 [(0, .ref (h 108))] := hl
  generalize hH : s.heap = H at hP ⊢
  have hS : va_S A0 s.heap H [] := by rw [← hH]; exact va_S.rf
  have hinX1 : ∀ w ∈ wsX10, w ∈ wsX1_shortenFirst := by decide +kernel
  have hinX3 : ∀ w ∈ wsX30, w ∈ wsX1_shortenFirst := by decide +kernel
  refine lv_iconst (v := nI 0) hx hb dX1_shortenFirst_0 (by decide) ?_
  refine lv_istore_n (lv' := [(1, .int (nI 0)), (0, .ref (h 108))]) hx hb dX1_shortenFirst_1 rfl hl (by decide) rfl (fun ls hl => ?_)
  refine lv_iload_n hx hb dX1_shortenFirst_2 rfl (lv_at hl 0 rfl) ?_
  refine lv_aload_n hx hb dX1_shortenFirst_3 rfl (lv_at hl 1 rfl) ?_
  refine va_get (D := (dC, dI)) (ci := 1) (v := .ref (h 101)) (C := RX1) (T := TX1) (N := 6) hx hb hts hinX1 hown hK hP 0 rfl rfl 0 (by decide) (hts (.fieldLink RX1 27 "MixedWords$Leader" "mix" "LMixedWords$Mix;") (by decide +kernel)) (fun _ h9 => h9) rfl dX1_shortenFirst_4 ?_
  refine va_get (D := (dC, dI)) (ci := 3) (v := .int (fI 121)) (C := RX3) (T := TX3) (N := 6) hx hb hts hinX3 hown hK hP 1 rfl rfl 1 (by decide) (hts (.fieldLink RX1 53 "MixedWords$Mix" "width" "I") (by decide +kernel)) (fun _ h9 => h9) rfl dX1_shortenFirst_7 ?_
  refine xt_i (y := nI 2) (by decide +kernel) ?_
  refine lv_icmp_ge (tgt := 67) hx hb dX1_shortenFirst_10 (by decide) (fun c9 => False.elim (by revert c9; decide +kernel)) (fun _ => ?_)
  refine lv_iconst (v := nI 0) hx hb dX1_shortenFirst_13 (by decide) ?_
  refine lv_istore_n (lv' := [(2, .int (nI 0)), (1, .int (nI 0)), (0, .ref (h 108))]) hx hb dX1_shortenFirst_14 rfl hl (by decide) rfl (fun ls hl => ?_)
  refine lv_iload_n hx hb dX1_shortenFirst_15 rfl (lv_at hl 0 rfl) ?_
  refine lv_aload_n hx hb dX1_shortenFirst_16 rfl (lv_at hl 2 rfl) ?_
  refine va_get (D := (dC, dI)) (ci := 1) (v := .ref (h 101)) (C := RX1) (T := TX1) (N := 6) hx hb hts hinX1 hown hK hP 0 rfl rfl 0 (by decide) (hts (.fieldLink RX1 27 "MixedWords$Leader" "mix" "LMixedWords$Mix;") (by decide +kernel)) (fun _ h9 => h9) rfl dX1_shortenFirst_17 ?_
  refine va_get (D := (dC, dI)) (ci := 3) (v := .int (fI 121)) (C := RX3) (T := TX3) (N := 6) hx hb hts hinX3 hown hK hP 1 rfl rfl 1 (by decide) (hts (.fieldLink RX1 53 "MixedWords$Mix" "width" "I") (by decide +kernel)) (fun _ h9 => h9) rfl dX1_shortenFirst_20 ?_
  refine xt_i (y := nI 2) (by decide +kernel) ?_
  refine lv_icmp_ge (tgt := 61) hx hb dX1_shortenFirst_23 (by decide) (fun c9 => False.elim (by revert c9; decide +kernel)) (fun _ => ?_)
  refine lv_iload_n hx hb dX1_shortenFirst_26 rfl (lv_at hl 1 rfl) ?_
  refine lv_iload_n hx hb dX1_shortenFirst_27 rfl (lv_at hl 0 rfl) ?_
  refine lv_icmp_ne (tgt := 35) hx hb dX1_shortenFirst_28 (by decide) (fun c9 => False.elim (by revert c9; decide +kernel)) (fun _ => ?_)
  refine lv_iconst (v := nI 0) hx hb dX1_shortenFirst_31 (by decide) ?_
  refine lv_goto (tgt := 41) hx hb dX1_shortenFirst_32 (by decide) ?_
  refine lv_istore_n (lv' := [(3, .int (nI 0)), (2, .int (nI 0)), (1, .int (nI 0)), (0, .ref (h 108))]) hx hb dX1_shortenFirst_41 rfl hl (by decide) rfl (fun ls hl => ?_)
  refine lv_iload_n hx hb dX1_shortenFirst_42 rfl (lv_at hl 0 rfl) ?_
  refine lv_if_eq (tgt := 55) hx hb dX1_shortenFirst_43 (by decide) (fun _ => ?_) (fun c9 => False.elim (by revert c9; decide +kernel))
  refine lv_iinc (v := nI 1) (lv' := [(2, .int (nI 1)), (3, .int (nI 0)), (1, .int (nI 0)), (0, .ref (h 108))]) hx hb dX1_shortenFirst_55 hl (k := 1) rfl (by decide +kernel) (by decide) rfl (fun ls hl => ?_)
  refine lv_goto (tgt := 15) hx hb dX1_shortenFirst_58 (by decide) ?_
  refine lv_iload_n hx hb dX1_shortenFirst_15 rfl (lv_at hl 0 rfl) ?_
  refine lv_aload_n hx hb dX1_shortenFirst_16 rfl (lv_at hl 3 rfl) ?_
  refine va_get (D := (dC, dI)) (ci := 1) (v := .ref (h 101)) (C := RX1) (T := TX1) (N := 6) hx hb hts hinX1 hown hK hP 0 rfl rfl 0 (by decide) (hts (.fieldLink RX1 27 "MixedWords$Leader" "mix" "LMixedWords$Mix;") (by decide +kernel)) (fun _ h9 => h9) rfl dX1_shortenFirst_17 ?_
  refine va_get (D := (dC, dI)) (ci := 3) (v := .int (fI 121)) (C := RX3) (T := TX3) (N := 6) hx hb hts hinX3 hown hK hP 1 rfl rfl 1 (by decide) (hts (.fieldLink RX1 53 "MixedWords$Mix" "width" "I") (by decide +kernel)) (fun _ h9 => h9) rfl dX1_shortenFirst_20 ?_
  refine xt_i (y := nI 2) (by decide +kernel) ?_
  refine lv_icmp_ge (tgt := 61) hx hb dX1_shortenFirst_23 (by decide) (fun c9 => False.elim (by revert c9; decide +kernel)) (fun _ => ?_)
  refine lv_iload_n hx hb dX1_shortenFirst_26 rfl (lv_at hl 2 rfl) ?_
  refine lv_iload_n hx hb dX1_shortenFirst_27 rfl (lv_at hl 0 rfl) ?_
  refine lv_icmp_ne (tgt := 35) hx hb dX1_shortenFirst_28 (by decide) (fun _ => ?_) (fun c9 => False.elim (by revert c9; decide +kernel))
  refine lv_aload_n hx hb dX1_shortenFirst_35 rfl (lv_at hl 3 rfl) ?_
  refine lv_iload_n hx hb dX1_shortenFirst_36 rfl (lv_at hl 2 rfl) ?_
  refine lv_iload_n hx hb dX1_shortenFirst_37 rfl (lv_at hl 0 rfl) ?_
  refine xj_i (wc := (wD_34 h cs fI fL fA fQ qG_40 fJ)) (wr := ([] : va_W)) hP hD hS hA [0, 1, 2, 3, 4, 5, 6, 7, 8, 9, 10, 11, 12, 13, 14, 15, 16, 17, 18, 19, 20] [] rfl rfl (by decide) (by decide) (va_runV (As := [.int (nI 0), .int (nI 1)]) (rest := []) ⟨hx, hb, hml, hown, hts⟩ (a_X1_quotient_42 l dC dI h cs H.size fI fL fA fQ qG_40 fJ ) (cwV 2 hts gX1_shortenFirst_X1_quotient rfl rfl rfl (by decide +kernel) ⟨Nat.le_of_ble_eq_true rfl, Nat.le_of_ble_eq_true rfl⟩) (xpV (wc := (wD_34 h cs fI fL fA fQ qG_40 fJ)) hP hD hK hN [0, 1, 2, 3, 4, 5, 6, 7, 8, 9, 10, 11, 12, 13, 14, 15, 16, 17, 18, 19, 20] rfl (by decide) 0 (ci := 1) rfl rfl _) rfl rfl hl.1 rfl (lv_room (Nat.le_of_ble_eq_true rfl)) dX1_shortenFirst_38 ⟨Nat.zero_le _, Nat.zero_le _⟩) (fun r_2 u_1 H locs hw hP hD hS => ?_)
  obtain ⟨hf_3, rfl⟩ := hw
  have hP : va_P (dC, dI) vwCl (wD_34 h cs fI fL fA fQ qG_40 fJ) H := hP
  have hD : va_D A0 (wD_34 h cs fI fL fA fQ qG_40 fJ) := hD
  obtain rfl := hf_3
  refine lv_istore_n (lv' := [(3, .int (nI 0)), (2, .int (nI 1)), (1, .int (nI 0)), (0, .ref (h 108))]) hx hb dX1_shortenFirst_41 rfl hl (by decide) rfl (fun ls hl => ?_)
  refine lv_iload_n hx hb dX1_shortenFirst_42 rfl (lv_at hl 0 rfl) ?_
  refine lv_if_eq (tgt := 55) hx hb dX1_shortenFirst_43 (by decide) (fun _ => ?_) (fun c9 => False.elim (by revert c9; decide +kernel))
  refine lv_iinc (v := nI 2) (lv' := [(2, .int (nI 2)), (3, .int (nI 0)), (1, .int (nI 0)), (0, .ref (h 108))]) hx hb dX1_shortenFirst_55 hl (k := 1) rfl (by decide +kernel) (by decide) rfl (fun ls hl => ?_)
  refine lv_goto (tgt := 15) hx hb dX1_shortenFirst_58 (by decide) ?_
  refine lv_iload_n hx hb dX1_shortenFirst_15 rfl (lv_at hl 0 rfl) ?_
  refine lv_aload_n hx hb dX1_shortenFirst_16 rfl (lv_at hl 3 rfl) ?_
  refine va_get (D := (dC, dI)) (ci := 1) (v := .ref (h 101)) (C := RX1) (T := TX1) (N := 6) hx hb hts hinX1 hown hK hP 0 rfl rfl 0 (by decide) (hts (.fieldLink RX1 27 "MixedWords$Leader" "mix" "LMixedWords$Mix;") (by decide +kernel)) (fun _ h9 => h9) rfl dX1_shortenFirst_17 ?_
  refine va_get (D := (dC, dI)) (ci := 3) (v := .int (fI 121)) (C := RX3) (T := TX3) (N := 6) hx hb hts hinX3 hown hK hP 1 rfl rfl 1 (by decide) (hts (.fieldLink RX1 53 "MixedWords$Mix" "width" "I") (by decide +kernel)) (fun _ h9 => h9) rfl dX1_shortenFirst_20 ?_
  refine xt_i (y := nI 2) (by decide +kernel) ?_
  refine lv_icmp_ge (tgt := 61) hx hb dX1_shortenFirst_23 (by decide) (fun _ => ?_) (fun c9 => False.elim (by revert c9; decide +kernel))
  refine lv_iinc (v := nI 1) (lv' := [(1, .int (nI 1)), (2, .int (nI 2)), (3, .int (nI 0)), (0, .ref (h 108))]) hx hb dX1_shortenFirst_61 hl (k := 2) rfl (by decide +kernel) (by decide) rfl (fun ls hl => ?_)
  refine lv_goto (tgt := 2) hx hb dX1_shortenFirst_64 (by decide) ?_
  refine lv_iload_n hx hb dX1_shortenFirst_2 rfl (lv_at hl 0 rfl) ?_
  refine lv_aload_n hx hb dX1_shortenFirst_3 rfl (lv_at hl 3 rfl) ?_
  refine va_get (D := (dC, dI)) (ci := 1) (v := .ref (h 101)) (C := RX1) (T := TX1) (N := 6) hx hb hts hinX1 hown hK hP 0 rfl rfl 0 (by decide) (hts (.fieldLink RX1 27 "MixedWords$Leader" "mix" "LMixedWords$Mix;") (by decide +kernel)) (fun _ h9 => h9) rfl dX1_shortenFirst_4 ?_
  refine va_get (D := (dC, dI)) (ci := 3) (v := .int (fI 121)) (C := RX3) (T := TX3) (N := 6) hx hb hts hinX3 hown hK hP 1 rfl rfl 1 (by decide) (hts (.fieldLink RX1 53 "MixedWords$Mix" "width" "I") (by decide +kernel)) (fun _ h9 => h9) rfl dX1_shortenFirst_7 ?_
  refine xt_i (y := nI 2) (by decide +kernel) ?_
  refine lv_icmp_ge (tgt := 67) hx hb dX1_shortenFirst_10 (by decide) (fun c9 => False.elim (by revert c9; decide +kernel)) (fun _ => ?_)
  refine lv_iconst (v := nI 0) hx hb dX1_shortenFirst_13 (by decide) ?_
  refine lv_istore_n (lv' := [(2, .int (nI 0)), (1, .int (nI 1)), (3, .int (nI 0)), (0, .ref (h 108))]) hx hb dX1_shortenFirst_14 rfl hl (by decide) rfl (fun ls hl => ?_)
  refine lv_iload_n hx hb dX1_shortenFirst_15 rfl (lv_at hl 0 rfl) ?_
  refine lv_aload_n hx hb dX1_shortenFirst_16 rfl (lv_at hl 3 rfl) ?_
  refine va_get (D := (dC, dI)) (ci := 1) (v := .ref (h 101)) (C := RX1) (T := TX1) (N := 6) hx hb hts hinX1 hown hK hP 0 rfl rfl 0 (by decide) (hts (.fieldLink RX1 27 "MixedWords$Leader" "mix" "LMixedWords$Mix;") (by decide +kernel)) (fun _ h9 => h9) rfl dX1_shortenFirst_17 ?_
  refine va_get (D := (dC, dI)) (ci := 3) (v := .int (fI 121)) (C := RX3) (T := TX3) (N := 6) hx hb hts hinX3 hown hK hP 1 rfl rfl 1 (by decide) (hts (.fieldLink RX1 53 "MixedWords$Mix" "width" "I") (by decide +kernel)) (fun _ h9 => h9) rfl dX1_shortenFirst_20 ?_
  refine xt_i (y := nI 2) (by decide +kernel) ?_
  refine lv_icmp_ge (tgt := 61) hx hb dX1_shortenFirst_23 (by decide) (fun c9 => False.elim (by revert c9; decide +kernel)) (fun _ => ?_)
  refine lv_iload_n hx hb dX1_shortenFirst_26 rfl (lv_at hl 1 rfl) ?_
  refine lv_iload_n hx hb dX1_shortenFirst_27 rfl (lv_at hl 0 rfl) ?_
  refine lv_icmp_ne (tgt := 35) hx hb dX1_shortenFirst_28 (by decide) (fun _ => ?_) (fun c9 => False.elim (by revert c9; decide +kernel))
  refine lv_aload_n hx hb dX1_shortenFirst_35 rfl (lv_at hl 3 rfl) ?_
  refine lv_iload_n hx hb dX1_shortenFirst_36 rfl (lv_at hl 1 rfl) ?_
  refine lv_iload_n hx hb dX1_shortenFirst_37 rfl (lv_at hl 0 rfl) ?_
  refine xj_i (wc := (wD_34 h cs fI fL fA fQ qG_40 fJ)) (wr := ([] : va_W)) hP hD hS hA [0, 1, 2, 3, 4, 5, 6, 7, 8, 9, 10, 11, 12, 13, 14, 15, 16, 17, 18, 19, 20] [] rfl rfl (by decide) (by decide) (va_runV (As := [.int (nI 1), .int (nI 0)]) (rest := []) ⟨hx, hb, hml, hown, hts⟩ (a_X1_quotient_45 l dC dI h cs H.size fI fL fA fQ qG_40 fJ ) (cwV 2 hts gX1_shortenFirst_X1_quotient rfl rfl rfl (by decide +kernel) ⟨Nat.le_of_ble_eq_true rfl, Nat.le_of_ble_eq_true rfl⟩) (xpV (wc := (wD_34 h cs fI fL fA fQ qG_40 fJ)) hP hD hK hN [0, 1, 2, 3, 4, 5, 6, 7, 8, 9, 10, 11, 12, 13, 14, 15, 16, 17, 18, 19, 20] rfl (by decide) 0 (ci := 1) rfl rfl _) rfl rfl hl.1 rfl (lv_room (Nat.le_of_ble_eq_true rfl)) dX1_shortenFirst_38 ⟨Nat.zero_le _, Nat.zero_le _⟩) (fun r_5 u_4 H locs hw hP hD hS => ?_)
  obtain ⟨hf_6, rfl⟩ := hw
  have hP : va_P (dC, dI) vwCl (wD_34 h cs fI fL fA fQ qG_40 fJ) H := hP
  have hD : va_D A0 (wD_34 h cs fI fL fA fQ qG_40 fJ) := hD
  obtain rfl := hf_6
  refine lv_istore_n (lv' := [(3, .int (nI 0)), (2, .int (nI 0)), (1, .int (nI 1)), (0, .ref (h 108))]) hx hb dX1_shortenFirst_41 rfl hl (by decide) rfl (fun ls hl => ?_)
  refine lv_iload_n hx hb dX1_shortenFirst_42 rfl (lv_at hl 0 rfl) ?_
  refine lv_if_eq (tgt := 55) hx hb dX1_shortenFirst_43 (by decide) (fun _ => ?_) (fun c9 => False.elim (by revert c9; decide +kernel))
  refine lv_iinc (v := nI 1) (lv' := [(2, .int (nI 1)), (3, .int (nI 0)), (1, .int (nI 1)), (0, .ref (h 108))]) hx hb dX1_shortenFirst_55 hl (k := 1) rfl (by decide +kernel) (by decide) rfl (fun ls hl => ?_)
  refine lv_goto (tgt := 15) hx hb dX1_shortenFirst_58 (by decide) ?_
  refine lv_iload_n hx hb dX1_shortenFirst_15 rfl (lv_at hl 0 rfl) ?_
  refine lv_aload_n hx hb dX1_shortenFirst_16 rfl (lv_at hl 3 rfl) ?_
  refine va_get (D := (dC, dI)) (ci := 1) (v := .ref (h 101)) (C := RX1) (T := TX1) (N := 6) hx hb hts hinX1 hown hK hP 0 rfl rfl 0 (by decide) (hts (.fieldLink RX1 27 "MixedWords$Leader" "mix" "LMixedWords$Mix;") (by decide +kernel)) (fun _ h9 => h9) rfl dX1_shortenFirst_17 ?_
  refine va_get (D := (dC, dI)) (ci := 3) (v := .int (fI 121)) (C := RX3) (T := TX3) (N := 6) hx hb hts hinX3 hown hK hP 1 rfl rfl 1 (by decide) (hts (.fieldLink RX1 53 "MixedWords$Mix" "width" "I") (by decide +kernel)) (fun _ h9 => h9) rfl dX1_shortenFirst_20 ?_
  refine xt_i (y := nI 2) (by decide +kernel) ?_
  refine lv_icmp_ge (tgt := 61) hx hb dX1_shortenFirst_23 (by decide) (fun c9 => False.elim (by revert c9; decide +kernel)) (fun _ => ?_)
  refine lv_iload_n hx hb dX1_shortenFirst_26 rfl (lv_at hl 2 rfl) ?_
  refine lv_iload_n hx hb dX1_shortenFirst_27 rfl (lv_at hl 0 rfl) ?_
  refine lv_icmp_ne (tgt := 35) hx hb dX1_shortenFirst_28 (by decide) (fun c9 => False.elim (by revert c9; decide +kernel)) (fun _ => ?_)
  refine lv_iconst (v := nI 0) hx hb dX1_shortenFirst_31 (by decide) ?_
  refine lv_goto (tgt := 41) hx hb dX1_shortenFirst_32 (by decide) ?_
  refine lv_istore_n (lv' := [(3, .int (nI 0)), (2, .int (nI 1)), (1, .int (nI 1)), (0, .ref (h 108))]) hx hb dX1_shortenFirst_41 rfl hl (by decide) rfl (fun ls hl => ?_)
  refine lv_iload_n hx hb dX1_shortenFirst_42 rfl (lv_at hl 0 rfl) ?_
  refine lv_if_eq (tgt := 55) hx hb dX1_shortenFirst_43 (by decide) (fun _ => ?_) (fun c9 => False.elim (by revert c9; decide +kernel))
  refine lv_iinc (v := nI 2) (lv' := [(2, .int (nI 2)), (3, .int (nI 0)), (1, .int (nI 1)), (0, .ref (h 108))]) hx hb dX1_shortenFirst_55 hl (k := 1) rfl (by decide +kernel) (by decide) rfl (fun ls hl => ?_)
  refine lv_goto (tgt := 15) hx hb dX1_shortenFirst_58 (by decide) ?_
  refine lv_iload_n hx hb dX1_shortenFirst_15 rfl (lv_at hl 0 rfl) ?_
  refine lv_aload_n hx hb dX1_shortenFirst_16 rfl (lv_at hl 3 rfl) ?_
  refine va_get (D := (dC, dI)) (ci := 1) (v := .ref (h 101)) (C := RX1) (T := TX1) (N := 6) hx hb hts hinX1 hown hK hP 0 rfl rfl 0 (by decide) (hts (.fieldLink RX1 27 "MixedWords$Leader" "mix" "LMixedWords$Mix;") (by decide +kernel)) (fun _ h9 => h9) rfl dX1_shortenFirst_17 ?_
  refine va_get (D := (dC, dI)) (ci := 3) (v := .int (fI 121)) (C := RX3) (T := TX3) (N := 6) hx hb hts hinX3 hown hK hP 1 rfl rfl 1 (by decide) (hts (.fieldLink RX1 53 "MixedWords$Mix" "width" "I") (by decide +kernel)) (fun _ h9 => h9) rfl dX1_shortenFirst_20 ?_
  refine xt_i (y := nI 2) (by decide +kernel) ?_
  refine lv_icmp_ge (tgt := 61) hx hb dX1_shortenFirst_23 (by decide) (fun _ => ?_) (fun c9 => False.elim (by revert c9; decide +kernel))
  refine lv_iinc (v := nI 2) (lv' := [(1, .int (nI 2)), (2, .int (nI 2)), (3, .int (nI 0)), (0, .ref (h 108))]) hx hb dX1_shortenFirst_61 hl (k := 2) rfl (by decide +kernel) (by decide) rfl (fun ls hl => ?_)
  refine lv_goto (tgt := 2) hx hb dX1_shortenFirst_64 (by decide) ?_
  refine lv_iload_n hx hb dX1_shortenFirst_2 rfl (lv_at hl 0 rfl) ?_
  refine lv_aload_n hx hb dX1_shortenFirst_3 rfl (lv_at hl 3 rfl) ?_
  refine va_get (D := (dC, dI)) (ci := 1) (v := .ref (h 101)) (C := RX1) (T := TX1) (N := 6) hx hb hts hinX1 hown hK hP 0 rfl rfl 0 (by decide) (hts (.fieldLink RX1 27 "MixedWords$Leader" "mix" "LMixedWords$Mix;") (by decide +kernel)) (fun _ h9 => h9) rfl dX1_shortenFirst_4 ?_
  refine va_get (D := (dC, dI)) (ci := 3) (v := .int (fI 121)) (C := RX3) (T := TX3) (N := 6) hx hb hts hinX3 hown hK hP 1 rfl rfl 1 (by decide) (hts (.fieldLink RX1 53 "MixedWords$Mix" "width" "I") (by decide +kernel)) (fun _ h9 => h9) rfl dX1_shortenFirst_7 ?_
  refine xt_i (y := nI 2) (by decide +kernel) ?_
  refine lv_icmp_ge (tgt := 67) hx hb dX1_shortenFirst_10 (by decide) (fun _ => ?_) (fun c9 => False.elim (by revert c9; decide +kernel))
  refine lv_iconst (v := nI 0) hx hb dX1_shortenFirst_67 (by decide) ?_
  exact xr_z (v := (nI 0)) hx hb hr hlocks hK hS dX1_shortenFirst_68 (rfl) (fI, fL, fA, fQ, qG_40, fJ) ⟨rfl, rfl⟩ hP hD
def qI_47 : Nat → Int32 := (va_up fI 213 (nI 1))
set_option maxRecDepth 20000 in
theorem ggX1_lead_X1_begin : GoodIn wsX1_lead wsX1_begin := goodIn_r _ [9, 4, 2, 10, 11, 12, 13, 14, 15, 16, 38, 39, 40, 41, 42, 43, 44, 45, 46, 47, 48, 49] (by decide +kernel) (by decide +kernel)
set_option maxRecDepth 20000 in
theorem gX1_lead_X1_begin : GoodIn wsX1_lead (wsV RX1 34 RX1 yX1_begin wsX1_begin) := goodIn_app (goodIn_of _ (by decide +kernel)) ggX1_lead_X1_begin
set_option maxRecDepth 20000 in
theorem ggX1_lead_X1_shortenFirst : GoodIn wsX1_lead wsX1_shortenFirst := goodIn_r _ [20, 2, 21, 22, 23, 24, 8, 25, 11, 26, 27, 28, 29, 30, 31, 32, 33, 34, 35, 36, 37, 16, 38, 39, 40, 41, 42, 43, 44, 45, 46, 47, 48, 49] (by decide +kernel) (by decide +kernel)
set_option maxRecDepth 20000 in
theorem gX1_lead_X1_shortenFirst : GoodIn wsX1_lead (wsV RX1 40 RX1 yX1_shortenFirst wsX1_shortenFirst) := goodIn_app (goodIn_of _ (by decide +kernel)) ggX1_lead_X1_shortenFirst
theorem dX1_lead_0 : decode cX1_lead 0 = .ok (.aload_n 0, 1) := by decide +kernel
theorem dX1_lead_1 : decode cX1_lead 1 = .ok (.getfield 23, 3) := by decide +kernel
theorem dX1_lead_4 : decode cX1_lead 4 = .ok (.aload_n 0, 1) := by decide +kernel
theorem dX1_lead_5 : decode cX1_lead 5 = .ok (.getfield 27, 3) := by decide +kernel
theorem dX1_lead_8 : decode cX1_lead 8 = .ok (.getfield 31, 3) := by decide +kernel
theorem dX1_lead_11 : decode cX1_lead 11 = .ok (.if_icmp .ne 4, 3) := by decide +kernel
theorem dX1_lead_14 : decode cX1_lead 14 = .ok (.return_, 1) := by decide +kernel
theorem dX1_lead_15 : decode cX1_lead 15 = .ok (.aload_n 0, 1) := by decide +kernel
theorem dX1_lead_16 : decode cX1_lead 16 = .ok (.invokevirtual 34, 3) := by decide +kernel
theorem dX1_lead_19 : decode cX1_lead 19 = .ok (.aload_n 0, 1) := by decide +kernel
theorem dX1_lead_20 : decode cX1_lead 20 = .ok (.getfield 37, 3) := by decide +kernel
theorem dX1_lead_23 : decode cX1_lead 23 = .ok (.sipush 2000, 3) := by decide +kernel
theorem dX1_lead_26 : decode cX1_lead 26 = .ok (.if_icmp .ge 23, 3) := by decide +kernel
theorem dX1_lead_29 : decode cX1_lead 29 = .ok (.aload_n 0, 1) := by decide +kernel
theorem dX1_lead_30 : decode cX1_lead 30 = .ok (.invokevirtual 40, 3) := by decide +kernel
theorem dX1_lead_33 : decode cX1_lead 33 = .ok (.ifCond .eq 16, 3) := by decide +kernel
theorem dX1_lead_36 : decode cX1_lead 36 = .ok (.aload_n 0, 1) := by decide +kernel
theorem dX1_lead_37 : decode cX1_lead 37 = .ok (.dup, 1) := by decide +kernel
theorem dX1_lead_38 : decode cX1_lead 38 = .ok (.getfield 37, 3) := by decide +kernel
theorem dX1_lead_41 : decode cX1_lead 41 = .ok (.iconst 1, 1) := by decide +kernel
theorem dX1_lead_42 : decode cX1_lead 42 = .ok (.iadd, 1) := by decide +kernel
theorem dX1_lead_43 : decode cX1_lead 43 = .ok (.putfield 37, 3) := by decide +kernel
theorem dX1_lead_46 : decode cX1_lead 46 = .ok (.goto (-27), 3) := by decide +kernel
theorem dX1_lead_49 : decode cX1_lead 49 = .ok (.aload_n 0, 1) := by decide +kernel
theorem dX1_lead_50 : decode cX1_lead 50 = .ok (.aload_n 0, 1) := by decide +kernel
theorem dX1_lead_51 : decode cX1_lead 51 = .ok (.getfield 27, 3) := by decide +kernel
theorem dX1_lead_54 : decode cX1_lead 54 = .ok (.getfield 31, 3) := by decide +kernel
theorem dX1_lead_57 : decode cX1_lead 57 = .ok (.putfield 23, 3) := by decide +kernel
theorem dX1_lead_60 : decode cX1_lead 60 = .ok (.return_, 1) := by decide +kernel
set_option maxHeartbeats 4000000 in
set_option maxRecDepth 100000 in
theorem a_X1_lead_35 (l : Launch) (dC : Nat → ClassId) (dI : Nat → Nat → Nat) (h : Nat → Nat) (cs : Nat → ClassId) (sz : Nat) (I : Nat → Int32) (L : Nat → Int64) (A : Nat → Nat → Int32) (Q : Nat → Nat → Int64) (G : Nat → Nat → Nat → Int32) (J : Nat → Nat → Nat → Int64) : Met l yX1_lead wsX1_lead ({ frames := 3, cells := 0, slots := 0, locals := 108 }) (va_Pc [.ref (h 108)] (xPre (dC, dI) (wD_34 h cs fI fL fA fQ fG fJ) (tysA cs) sz)) (va_Qv (fun (u : CS) => (True) ∧ u = (qI_47, fL, fA, fQ, qG_40, fJ)) (xB (dC, dI) (tysA cs) (va_A (wD_34 h cs fI fL fA fQ fG fJ) sz) (fun u : CS => wD_34 h cs u.1 u.2.1 u.2.2.1 u.2.2.2.1 u.2.2.2.2.1 u.2.2.2.2.2)) (va_A (wD_34 h cs fI fL fA fQ fG fJ) sz)) 0 0 (va_A (wD_34 h cs fI fL fA fQ fG fJ) sz) := by
  refine Met.ofW (cc := cX1_lead) (maxL := 1) (ret := none) (by decide) rfl ?_
  intro p e s m args below meth c s₁ B hml hv
  obtain ⟨rfl, hsz, hP, hK, hD0, hN⟩ := hv
  have hx := B.exec
  have hb := B.bytes
  have hr := B.returns
  have hts := atoms_spec (ws := wsX1_lead) B.pre
  have hown : s.vm.findClass RX1 = some m.cls := findClass_of_methodNamed B.named
  have hlocks := B.notSynchronized
  subst hsz
  have hD := hD0.self (sz := s.heap.size)
  generalize hAe : va_A (wD_34 h cs fI fL fA fQ fG fJ) s.heap.size = A0 at hD ⊢
  have hA : ∀ q : Nat, s.heap.size ≤ q → A0 q := fun q h => by rw [← hAe]; exact Or.inr h
  have hl := lv_entry ([.ref (h 108)]) (n := 1) (Nat.le_of_ble_eq_true rfl)
  rw [lg_entry_eq]
  generalize (lg_sl ([.ref (h 108)]) ++ List.replicate (1 - (lg_sl ([.ref (h 108)])).length) Slot.unset).toArray = ls at hl ⊢
  have hl : lv_has ls 1 [(0, .ref (h 108))] := hl
  generalize hH : s.heap = H at hP ⊢
  have hS : va_S A0 s.heap H [] := by rw [← hH]; exact va_S.rf
  have hinX1 : ∀ w ∈ wsX10, w ∈ wsX1_lead := by decide +kernel
  have hinX3 : ∀ w ∈ wsX30, w ∈ wsX1_lead := by decide +kernel
  refine lv_aload_n hx hb dX1_lead_0 rfl (lv_at hl 0 rfl) ?_
  refine va_get (D := (dC, dI)) (ci := 1) (v := .int (fI 213)) (C := RX1) (T := TX1) (N := 6) hx hb hts hinX1 hown hK hP 0 rfl rfl 5 (by decide) (hts (.fieldLink RX1 23 "MixedWords$Leader" "stamp" "I") (by decide +kernel)) (fun _ h9 => h9) rfl dX1_lead_1 ?_
  refine xt_i (y := nI 0) (by decide +kernel) ?_
  refine lv_aload_n hx hb dX1_lead_4 rfl (lv_at hl 0 rfl) ?_
  refine va_get (D := (dC, dI)) (ci := 1) (v := .ref (h 101)) (C := RX1) (T := TX1) (N := 6) hx hb hts hinX1 hown hK hP 0 rfl rfl 0 (by decide) (hts (.fieldLink RX1 27 "MixedWords$Leader" "mix" "LMixedWords$Mix;") (by decide +kernel)) (fun _ h9 => h9) rfl dX1_lead_5 ?_
  refine va_get (D := (dC, dI)) (ci := 3) (v := .int (fI 123)) (C := RX3) (T := TX3) (N := 6) hx hb hts hinX3 hown hK hP 1 rfl rfl 3 (by decide) (hts (.fieldLink RX1 31 "MixedWords$Mix" "stamp" "I") (by decide +kernel)) (fun _ h9 => h9) rfl dX1_lead_8 ?_
  refine xt_i (y := nI 1) (by decide +kernel) ?_
  refine lv_icmp_ne (tgt := 15) hx hb dX1_lead_11 (by decide) (fun _ => ?_) (fun c9 => False.elim (by revert c9; decide +kernel))
  refine lv_aload_n hx hb dX1_lead_15 rfl (lv_at hl 0 rfl) ?_
  refine xj_v (wc := (wD_34 h cs fI fL fA fQ fG fJ)) (wr := ([] : va_W)) hP hD hS hA [0, 1, 2, 3, 4, 5, 6, 7, 8, 9, 10, 11, 12, 13, 14, 15, 16, 17, 18, 19, 20] [] rfl rfl (by decide) (by decide) (va_runV (As := []) (rest := []) ⟨hx, hb, hml, hown, hts⟩ (a_X1_begin_36 l dC dI h cs H.size fI fL fA fQ fG fJ ) (cwV 0 hts gX1_lead_X1_begin rfl rfl rfl (by decide +kernel) ⟨Nat.le_of_ble_eq_true rfl, Nat.le_of_ble_eq_true rfl⟩) (xpV (wc := (wD_34 h cs fI fL fA fQ fG fJ)) hP hD hK hN [0, 1, 2, 3, 4, 5, 6, 7, 8, 9, 10, 11, 12, 13, 14, 15, 16, 17, 18, 19, 20] rfl (by decide) 0 (ci := 1) rfl rfl _) rfl rfl hl.1 rfl (lv_room (Nat.le_of_ble_eq_true rfl)) dX1_lead_16 ⟨Nat.zero_le _, Nat.zero_le _⟩) (fun u_1 H locs hw hP hD hS => ?_)
  obtain ⟨hf_3, rfl⟩ := hw
  have hP : va_P (dC, dI) vwCl (wD_34 h cs fI fL fA fQ qG_40 fJ) H := hP
  have hD : va_D A0 (wD_34 h cs fI fL fA fQ qG_40 fJ) := hD
  refine lv_aload_n hx hb dX1_lead_19 rfl (lv_at hl 0 rfl) ?_
  refine va_get (D := (dC, dI)) (ci := 1) (v := .int (fI 212)) (C := RX1) (T := TX1) (N := 6) hx hb hts hinX1 hown hK hP 0 rfl rfl 4 (by decide) (hts (.fieldLink RX1 37 "MixedWords$Leader" "times" "I") (by decide +kernel)) (fun _ h9 => h9) rfl dX1_lead_20 ?_
  refine xt_i (y := nI 0) (by decide +kernel) ?_
  refine lv_sipush (v := nI 2000) hx hb dX1_lead_23 (by decide) ?_
  refine lv_icmp_ge (tgt := 49) hx hb dX1_lead_26 (by decide) (fun c9 => False.elim (by revert c9; decide +kernel)) (fun _ => ?_)
  refine lv_aload_n hx hb dX1_lead_29 rfl (lv_at hl 0 rfl) ?_
  refine xj_i (wc := (wD_34 h cs fI fL fA fQ qG_40 fJ)) (wr := ([] : va_W)) hP hD hS hA [0, 1, 2, 3, 4, 5, 6, 7, 8, 9, 10, 11, 12, 13, 14, 15, 16, 17, 18, 19, 20] [] rfl rfl (by decide) (by decide) (va_runV (As := []) (rest := []) ⟨hx, hb, hml, hown, hts⟩ (a_X1_shortenFirst_41 l dC dI h cs H.size fI fL fA fQ qG_40 fJ ) (cwV 0 hts gX1_lead_X1_shortenFirst rfl rfl rfl (by decide +kernel) ⟨Nat.le_of_ble_eq_true rfl, Nat.le_of_ble_eq_true rfl⟩) (xpV (wc := (wD_34 h cs fI fL fA fQ qG_40 fJ)) hP hD hK hN [0, 1, 2, 3, 4, 5, 6, 7, 8, 9, 10, 11, 12, 13, 14, 15, 16, 17, 18, 19, 20] rfl (by decide) 0 (ci := 1) rfl rfl _) rfl rfl hl.1 rfl (lv_room (Nat.le_of_ble_eq_true rfl)) dX1_lead_30 ⟨Nat.zero_le _, Nat.zero_le _⟩) (fun r_5 u_4 H locs hw hP hD hS => ?_)
  obtain ⟨hf_6, rfl⟩ := hw
  have hP : va_P (dC, dI) vwCl (wD_34 h cs fI fL fA fQ qG_40 fJ) H := hP
  have hD : va_D A0 (wD_34 h cs fI fL fA fQ qG_40 fJ) := hD
  obtain rfl := hf_6
  refine lv_if_eq (tgt := 49) hx hb dX1_lead_33 (by decide) (fun _ => ?_) (fun c9 => False.elim (by revert c9; decide +kernel))
  refine lv_aload_n hx hb dX1_lead_49 rfl (lv_at hl 0 rfl) ?_
  refine lv_aload_n hx hb dX1_lead_50 rfl (lv_at hl 0 rfl) ?_
  refine va_get (D := (dC, dI)) (ci := 1) (v := .ref (h 101)) (C := RX1) (T := TX1) (N := 6) hx hb hts hinX1 hown hK hP 0 rfl rfl 0 (by decide) (hts (.fieldLink RX1 27 "MixedWords$Leader" "mix" "LMixedWords$Mix;") (by decide +kernel)) (fun _ h9 => h9) rfl dX1_lead_51 ?_
  refine va_get (D := (dC, dI)) (ci := 3) (v := .int (fI 123)) (C := RX3) (T := TX3) (N := 6) hx hb hts hinX3 hown hK hP 1 rfl rfl 3 (by decide) (hts (.fieldLink RX1 31 "MixedWords$Mix" "stamp" "I") (by decide +kernel)) (fun _ h9 => h9) rfl dX1_lead_54 ?_
  refine xt_i (y := nI 1) (by decide +kernel) ?_
  refine va_put (D := (dC, dI)) (ci := 1) (v := .int (nI 1)) (ty := .int) (C := RX1) (T := TX1) (N := 6) hx hb hts hinX1 tyX1 tyX1_ok nmX1 hown hK hP hD hS 0 rfl rfl 5 (by decide) (hts (.fieldLink RX1 23 "MixedWords$Leader" "stamp" "I") (by decide +kernel)) (fun _ h9 => h9) rfl (by decide +kernel) rfl rfl (Nat.le_of_ble_eq_true rfl) dX1_lead_57 (fun H locs hP hD hS => ?_)
  have hP : va_P (dC, dI) vwCl (wD_34 h cs (va_up fI 213 (nI 1)) fL fA fQ qG_40 fJ) H := hP
  have hD : va_D A0 (wD_34 h cs (va_up fI 213 (nI 1)) fL fA fQ qG_40 fJ) := hD
  have hP : va_P (dC, dI) vwCl (wD_34 h cs qI_47 fL fA fQ qG_40 fJ) H := hP
  have hD : va_D A0 (wD_34 h cs qI_47 fL fA fQ qG_40 fJ) := hD
  exact xr_v hx hb hr hlocks hK hS dX1_lead_60 (qI_47, fL, fA, fQ, qG_40, fJ) ⟨trivial, rfl⟩ hP hD
set_option maxRecDepth 20000 in
theorem ggX9_led_X1_lead : GoodIn wsX9_led wsX1_lead := goodIn_r _ [7, 8, 9, 10, 11, 12, 13, 14, 6, 15, 16, 17, 18, 19, 20, 21, 22, 23, 24, 25, 26, 27, 28, 29, 30, 31, 32, 33, 34, 35, 36, 37, 38, 39, 40, 41, 42, 43, 53, 54, 55, 56, 57, 58, 59, 60, 61, 62, 63, 64] (by decide +kernel) (by decide +kernel)
set_option maxRecDepth 20000 in
theorem gX9_led_X1_lead : GoodIn wsX9_led (wsV RX9 233 RX1 yX1_lead wsX1_lead) := goodIn_app (goodIn_of _ (by decide +kernel)) ggX9_led_X1_lead
theorem dX9_led_0 : decode cX9_led 0 = .ok (.aload_n 0, 1) := by decide +kernel
theorem dX9_led_1 : decode cX9_led 1 = .ok (.getfield 65, 3) := by decide +kernel
theorem dX9_led_4 : decode cX9_led 4 = .ok (.invokevirtual 233, 3) := by decide +kernel
theorem dX9_led_7 : decode cX9_led 7 = .ok (.aload_n 0, 1) := by decide +kernel
theorem dX9_led_8 : decode cX9_led 8 = .ok (.getfield 65, 3) := by decide +kernel
theorem dX9_led_11 : decode cX9_led 11 = .ok (.getfield 236, 3) := by decide +kernel
theorem dX9_led_14 : decode cX9_led 14 = .ok (.ireturn, 1) := by decide +kernel
set_option maxHeartbeats 4000000 in
set_option maxRecDepth 100000 in
theorem f_X9_led (l : Launch) (dC : Nat → ClassId) (dI : Nat → Nat → Nat) (h : Nat → Nat) (cs : Nat → ClassId) (sz : Nat) (I : Nat → Int32) (L : Nat → Int64) (A : Nat → Nat → Int32) (Q : Nat → Nat → Int64) (G : Nat → Nat → Nat → Int32) (J : Nat → Nat → Nat → Int64) : Met l yX9_led wsX9_led ({ frames := 4, cells := 0, slots := 0, locals := 128 }) (va_Pc [.ref (h 100)] (xPre (dC, dI) (wAll h cs fI fL fA fQ fG fJ) (tysA cs) sz)) (va_Qi (fun (r : Int32) (u : CS) => (r = nI 0) ∧ u = (qI_47, fL, fA, fQ, qG_40, fJ)) (xB (dC, dI) (tysA cs) (va_A (wAll h cs fI fL fA fQ fG fJ) sz) (fun u : CS => wAll h cs u.1 u.2.1 u.2.2.1 u.2.2.2.1 u.2.2.2.2.1 u.2.2.2.2.2)) (va_A (wAll h cs fI fL fA fQ fG fJ) sz)) 0 0 (va_A (wAll h cs fI fL fA fQ fG fJ) sz) := by
  refine Met.ofW (cc := cX9_led) (maxL := 1) (ret := (some .int)) (by decide) rfl ?_
  intro p e s m args below meth c s₁ B hml hv
  obtain ⟨rfl, hsz, hP, hK, hD0, hN⟩ := hv
  have hx := B.exec
  have hb := B.bytes
  have hr := B.returns
  have hts := atoms_spec (ws := wsX9_led) B.pre
  have hown : s.vm.findClass RX9 = some m.cls := findClass_of_methodNamed B.named
  have hlocks := B.notSynchronized
  subst hsz
  have hD := hD0.self (sz := s.heap.size)
  generalize hAe : va_A (wAll h cs fI fL fA fQ fG fJ) s.heap.size = A0 at hD ⊢
  have hA : ∀ q : Nat, s.heap.size ≤ q → A0 q := fun q h => by rw [← hAe]; exact Or.inr h
  have hl := lv_entry ([.ref (h 100)]) (n := 1) (Nat.le_of_ble_eq_true rfl)
  rw [lg_entry_eq]
  generalize (lg_sl ([.ref (h 100)]) ++ List.replicate (1 - (lg_sl ([.ref (h 100)])).length) Slot.unset).toArray = ls at hl ⊢
  have hl : lv_has ls 1 [(0, .ref (h 100))] := hl
  generalize hH : s.heap = H at hP ⊢
  have hS : va_S A0 s.heap H [] := by rw [← hH]; exact va_S.rf
  have hinX9 : ∀ w ∈ wsX90, w ∈ wsX9_led := by decide +kernel
  have hinX1 : ∀ w ∈ wsX10, w ∈ wsX9_led := by decide +kernel
  refine lv_aload_n hx hb dX9_led_0 rfl (lv_at hl 0 rfl) ?_
  refine va_get (D := (dC, dI)) (ci := 9) (v := .ref (h 108)) (C := RX9) (T := TX9) (N := 9) hx hb hts hinX9 hown hK hP 0 rfl rfl 7 (by decide) (hts (.fieldLink RX9 65 "MixedWords" "leader" "LMixedWords$Leader;") (by decide +kernel)) (fun _ h9 => h9) rfl dX9_led_1 ?_
  refine xj_v (wc := (wD_34 h cs fI fL fA fQ fG fJ)) (wr := [(h 100, .inr (9, [.ref (h 101), .ref (h 102), .ref (h 103), .ref (h 104), .ref (h 105), .ref (h 106), .ref (h 107), .ref (h 108), .ref (h 109)])), (h 102, .inr (0, [.ref (h 101), .ref (h 140), .ref (h 141), .ref (h 142), .ref (h 143), .int (fI 144), .int (fI 145), .int (fI 146)])), (h 140, .inl (cs 0, 40, .inl (fA 140))), (h 141, .inl (cs 0, 40, .inl (fA 141))), (h 142, .inl (cs 0, 40, .inl (fA 142))), (h 143, .inl (cs 0, 40, .inl (fA 143))), (h 103, .inr (7, [.ref (h 150), .int (fI 151)])), (h 150, .inl (cs 2, 90, .inl (fA 150))), (h 104, .inr (4, [.ref (h 103), .ref (h 160), .int (fI 166), .int (fI 167), .int (fI 168), .int (fI 169)])), (h 160, .inl (cs 3, 5, .inr (.inr (.inr (.inr (fun i => if i < 5 then some (h (i + 161)) else none)))))), (h 161, .inl (cs 0, 4, .inl ((fG 1) 0))), (h 162, .inl (cs 0, 4, .inl ((fG 1) 1))), (h 163, .inl (cs 0, 4, .inl ((fG 1) 2))), (h 164, .inl (cs 0, 4, .inl ((fG 1) 3))), (h 165, .inl (cs 0, 4, .inl ((fG 1) 4))), (h 105, .inr (8, [.ref (h 101), .ref (h 170), .ref (h 171), .ref (h 172), .int (fI 173), .int (fI 174)])), (h 170, .inl (cs 0, 256, .inl (fA 170))), (h 171, .inl (cs 0, 256, .inl (fA 171))), (h 172, .inl (cs 0, 256, .inl (fA 172))), (h 106, .inr (2, [.ref (h 180), .ref (h 185), .ref (h 186), .ref (h 187), .long (fL 188)])), (h 180, .inl (cs 4, 4, .inr (.inr (.inr (.inr (fun i => if i < 4 then some (h (i + 181)) else none)))))), (h 181, .inl (cs 1, 4, .inr (.inl ((fJ 0) 0)))), (h 182, .inl (cs 1, 4, .inr (.inl ((fJ 0) 1)))), (h 183, .inl (cs 1, 4, .inr (.inl ((fJ 0) 2)))), (h 184, .inl (cs 1, 4, .inr (.inl ((fJ 0) 3)))), (h 185, .inl (cs 1, 4, .inr (.inl (fQ 185)))), (h 186, .inl (cs 0, 4, .inl (fA 186))), (h 187, .inl (cs 1, 4, .inr (.inl (fQ 187)))), (h 107, .inr (6, [.ref (h 101), .ref (h 190), .ref (h 191), .ref (h 192)])), (h 190, .inl (cs 0, 5, .inl (fA 190))), (h 191, .inl (cs 0, 4, .inl (fA 191))), (h 192, .inl (cs 0, 4, .inl (fA 192))), (h 109, .inl (cs 5, 4, .inr (.inr (.inr (.inr (fun i => if i < 4 then some (h (i + 110)) else none)))))), (h 110, .inr (5, [.int (fI 220), .int (fI 224), .ref (h 228)])), (h 228, .inl (cs 1, 25, .inr (.inl (fQ 228)))), (h 111, .inr (5, [.int (fI 221), .int (fI 225), .ref (h 229)])), (h 229, .inl (cs 1, 25, .inr (.inl (fQ 229)))), (h 112, .inr (5, [.int (fI 222), .int (fI 226), .ref (h 230)])), (h 230, .inl (cs 1, 25, .inr (.inl (fQ 230)))), (h 113, .inr (5, [.int (fI 223), .int (fI 227), .ref (h 231)])), (h 231, .inl (cs 1, 25, .inr (.inl (fQ 231))))]) hP hD hS hA [40, 1, 2, 3, 4, 5, 6, 7, 8, 41, 42, 43, 44, 45, 46, 47, 48, 49, 50, 51, 52] [0, 9, 10, 11, 12, 13, 14, 15, 16, 17, 18, 19, 20, 21, 22, 23, 24, 25, 26, 27, 28, 29, 30, 31, 32, 33, 34, 35, 36, 37, 38, 39, 53, 54, 55, 56, 57, 58, 59, 60, 61] rfl rfl (by decide) (by decide) (va_runV (As := []) (rest := []) ⟨hx, hb, hml, hown, hts⟩ (a_X1_lead_35 l dC dI h cs H.size fI fL fA fQ fG fJ ) (cwV 0 hts gX9_led_X1_lead rfl rfl rfl (by decide +kernel) ⟨Nat.le_of_ble_eq_true rfl, Nat.le_of_ble_eq_true rfl⟩) (xpV (wc := (wD_34 h cs fI fL fA fQ fG fJ)) hP hD hK hN [40, 1, 2, 3, 4, 5, 6, 7, 8, 41, 42, 43, 44, 45, 46, 47, 48, 49, 50, 51, 52] rfl (by decide) 40 (ci := 1) rfl rfl _) rfl rfl hl.1 rfl (lv_room (Nat.le_of_ble_eq_true rfl)) dX9_led_4 ⟨Nat.zero_le _, Nat.zero_le _⟩) (fun u_1 H locs hw hP hD hS => ?_)
  obtain ⟨hf_3, rfl⟩ := hw
  have hP : va_P (dC, dI) vwCl (wAll h cs qI_47 fL fA fQ qG_40 fJ) H := xP_sub hP [0, 42, 43, 44, 45, 46, 47, 48, 49, 1, 2, 3, 4, 5, 6, 7, 8, 9, 10, 11, 12, 13, 14, 15, 16, 17, 18, 19, 20, 21, 22, 23, 24, 25, 26, 27, 28, 29, 30, 31, 41, 50, 51, 52, 53, 54, 55, 56, 57, 58, 59, 60, 61, 32, 33, 34, 35, 36, 37, 38, 39, 40] rfl
  have hD : va_D A0 (wAll h cs qI_47 fL fA fQ qG_40 fJ) := hD.sub [0, 42, 43, 44, 45, 46, 47, 48, 49, 1, 2, 3, 4, 5, 6, 7, 8, 9, 10, 11, 12, 13, 14, 15, 16, 17, 18, 19, 20, 21, 22, 23, 24, 25, 26, 27, 28, 29, 30, 31, 41, 50, 51, 52, 53, 54, 55, 56, 57, 58, 59, 60, 61, 32, 33, 34, 35, 36, 37, 38, 39, 40] (by decide) rfl
  refine lv_aload_n hx hb dX9_led_7 rfl (lv_at hl 0 rfl) ?_
  refine va_get (D := (dC, dI)) (ci := 9) (v := .ref (h 108)) (C := RX9) (T := TX9) (N := 9) hx hb hts hinX9 hown hK hP 0 rfl rfl 7 (by decide) (hts (.fieldLink RX9 65 "MixedWords" "leader" "LMixedWords$Leader;") (by decide +kernel)) (fun _ h9 => h9) rfl dX9_led_8 ?_
  refine va_get (D := (dC, dI)) (ci := 1) (v := .int (qI_47 212)) (C := RX1) (T := TX1) (N := 6) hx hb hts hinX1 hown hK hP 40 rfl rfl 4 (by decide) (hts (.fieldLink RX9 236 "MixedWords$Leader" "times" "I") (by decide +kernel)) (fun _ h9 => h9) rfl dX9_led_11 ?_
  refine xt_i (y := nI 0) (by decide +kernel) ?_
  exact xr_i (v := (nI 0)) hx hb hr hlocks hK hS dX9_led_14 (qI_47, fL, fA, fQ, qG_40, fJ) ⟨rfl, rfl⟩ hP hD
