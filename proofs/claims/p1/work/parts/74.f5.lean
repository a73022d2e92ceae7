theorem dX1_aim_0 : decode cX1_aim 0 = .ok (.iconst 0, 1) := by decide +kernel
theorem dX1_aim_1 : decode cX1_aim 1 = .ok (.istore_n 1, 1) := by decide +kernel
theorem dX1_aim_2 : decode cX1_aim 2 = .ok (.iload_n 1, 1) := by decide +kernel
theorem dX1_aim_3 : decode cX1_aim 3 = .ok (.aload_n 0, 1) := by decide +kernel
theorem dX1_aim_4 : decode cX1_aim 4 = .ok (.getfield 27, 3) := by decide +kernel
theorem dX1_aim_7 : decode cX1_aim 7 = .ok (.getfield 64, 3) := by decide +kernel
theorem dX1_aim_10 : decode cX1_aim 10 = .ok (.if_icmp .ge 71, 3) := by decide +kernel
theorem dX1_aim_13 : decode cX1_aim 13 = .ok (.iconst 0, 1) := by decide +kernel
theorem dX1_aim_14 : decode cX1_aim 14 = .ok (.istore_n 2, 1) := by decide +kernel
theorem dX1_aim_15 : decode cX1_aim 15 = .ok (.iconst 0, 1) := by decide +kernel
theorem dX1_aim_16 : decode cX1_aim 16 = .ok (.istore_n 3, 1) := by decide +kernel
theorem dX1_aim_17 : decode cX1_aim 17 = .ok (.iload_n 3, 1) := by decide +kernel
theorem dX1_aim_18 : decode cX1_aim 18 = .ok (.aload_n 0, 1) := by decide +kernel
theorem dX1_aim_19 : decode cX1_aim 19 = .ok (.getfield 27, 3) := by decide +kernel
theorem dX1_aim_22 : decode cX1_aim 22 = .ok (.getfield 53, 3) := by decide +kernel
theorem dX1_aim_25 : decode cX1_aim 25 = .ok (.if_icmp .ge 23, 3) := by decide +kernel
theorem dX1_aim_28 : decode cX1_aim 28 = .ok (.iload_n 2, 1) := by decide +kernel
theorem dX1_aim_29 : decode cX1_aim 29 = .ok (.aload_n 0, 1) := by decide +kernel
theorem dX1_aim_30 : decode cX1_aim 30 = .ok (.getfield 27, 3) := by decide +kernel
theorem dX1_aim_33 : decode cX1_aim 33 = .ok (.getfield 44, 3) := by decide +kernel
theorem dX1_aim_36 : decode cX1_aim 36 = .ok (.iload_n 1, 1) := by decide +kernel
theorem dX1_aim_37 : decode cX1_aim 37 = .ok (.aaload, 1) := by decide +kernel
theorem dX1_aim_38 : decode cX1_aim 38 = .ok (.iload_n 3, 1) := by decide +kernel
theorem dX1_aim_39 : decode cX1_aim 39 = .ok (.iaload, 1) := by decide +kernel
theorem dX1_aim_40 : decode cX1_aim 40 = .ok (.iadd, 1) := by decide +kernel
theorem dX1_aim_41 : decode cX1_aim 41 = .ok (.istore_n 2, 1) := by decide +kernel
theorem dX1_aim_42 : decode cX1_aim 42 = .ok (.iinc 3 1, 3) := by decide +kernel
theorem dX1_aim_45 : decode cX1_aim 45 = .ok (.goto (-28), 3) := by decide +kernel
theorem dX1_aim_48 : decode cX1_aim 48 = .ok (.aload_n 0, 1) := by decide +kernel
theorem dX1_aim_49 : decode cX1_aim 49 = .ok (.getfield 19, 3) := by decide +kernel
theorem dX1_aim_52 : decode cX1_aim 52 = .ok (.iload_n 1, 1) := by decide +kernel
theorem dX1_aim_53 : decode cX1_aim 53 = .ok (.aload_n 0, 1) := by decide +kernel
theorem dX1_aim_54 : decode cX1_aim 54 = .ok (.getfield 27, 3) := by decide +kernel
theorem dX1_aim_57 : decode cX1_aim 57 = .ok (.getfield 77, 3) := by decide +kernel
theorem dX1_aim_60 : decode cX1_aim 60 = .ok (.iload_n 1, 1) := by decide +kernel
theorem dX1_aim_61 : decode cX1_aim 61 = .ok (.iaload, 1) := by decide +kernel
theorem dX1_aim_62 : decode cX1_aim 62 = .ok (.aload_n 0, 1) := by decide +kernel
theorem dX1_aim_63 : decode cX1_aim 63 = .ok (.getfield 27, 3) := by decide +kernel
theorem dX1_aim_66 : decode cX1_aim 66 = .ok (.getfield 80, 3) := by decide +kernel
theorem dX1_aim_69 : decode cX1_aim 69 = .ok (.iconst 1, 1) := by decide +kernel
theorem dX1_aim_70 : decode cX1_aim 70 = .ok (.isub, 1) := by decide +kernel
theorem dX1_aim_71 : decode cX1_aim 71 = .ok (.iload_n 2, 1) := by decide +kernel
theorem dX1_aim_72 : decode cX1_aim 72 = .ok (.imul, 1) := by decide +kernel
theorem dX1_aim_73 : decode cX1_aim 73 = .ok (.iadd, 1) := by decide +kernel
theorem dX1_aim_74 : decode cX1_aim 74 = .ok (.iastore, 1) := by decide +kernel
theorem dX1_aim_75 : decode cX1_aim 75 = .ok (.iinc 1 1, 3) := by decide +kernel
theorem dX1_aim_78 : decode cX1_aim 78 = .ok (.goto (-76), 3) := by decide +kernel
theorem dX1_aim_81 : decode cX1_aim 81 = .ok (.return_, 1) := by decide +kernel
set_option maxHeartbeats 4000000 in
set_option maxRecDepth 100000 in
theorem a_X1_aim_48 (l : Launch) (dC : Nat → ClassId) (dI : Nat → Nat → Nat) (h : Nat → Nat) (cs : Nat → ClassId) (sz : Nat) (I : Nat → Int32) (L : Nat → Int64) (A : Nat → Nat → Int32) (Q : Nat → Nat → Int64) (G : Nat → Nat → Nat → Int32) (J : Nat → Nat → Nat → Int64) : Met l yX1_aim wsX1_aim ({ frames := 0, cells := 0, slots := 0, locals := 0 }) (va_Pc [.ref (h 108)] (xPre (dC, dI) (wD_34 h cs qI_47 fL fA fQ qG_40 fJ) (tysA cs) sz)) (va_Qv (fun (u : CS) => (True) ∧ u = (qI_47, fL, fA, fQ, qG_40, fJ)) (xB (dC, dI) (tysA cs) (va_A (wD_34 h cs qI_47 fL fA fQ qG_40 fJ) sz) (fun u : CS => wD_34 h cs u.1 u.2.1 u.2.2.1 u.2.2.2.1 u.2.2.2.2.1 u.2.2.2.2.2)) (va_A (wD_34 h cs qI_47 fL fA fQ qG_40 fJ) sz)) 0 0 (va_A (wD_34 h cs qI_47 fL fA fQ qG_40 fJ) sz) := by
  refine Met.ofW (cc := cX1_aim) (maxL := 4) (ret := none) (by decide) rfl ?_
  intro p e s m args below meth c s₁ B hml hv
  obtain ⟨rfl, hsz, hP, hK, hD0, hN⟩ := hv
  have hx := B.exec
  have hb := B.bytes
  have hr := B.returns
  have hts := atoms_spec (ws := wsX1_aim) B.pre
  have hown : s.vm.findClass RX1 = some m.cls := findClass_of_methodNamed B.named
  have hlocks := B.notSynchronized
  subst hsz
  have hD := hD0.self (sz := s.heap.size)
  generalize hAe : va_A (wD_34 h cs qI_47 fL fA fQ qG_40 fJ) s.heap.size = A0 at hD ⊢
  have hA : ∀ q : Nat, s.heap.size ≤ q → A0 q := fun q h => by rw [← hAe]; exact Or.inr h
  have hl := lv_entry ([.ref (h 108)]) (n := 4) (Nat.le_of_ble_eq_true rfl)
  rw [lg_entry_eq]
  generalize (lg_sl ([.ref (h 108)]) ++ List.replicate (4 - (lg_sl ([.ref (h 108)])).length) Slot.unset).toArray = ls at hl ⊢
  have hl : lv_has ls 4 [(0, .ref (h 108))] := hl
  generalize hH : s.heap = H at hP ⊢
  have hS : va_S A0 s.heap H [] := by rw [← hH]; exact va_S.rf
  have hinX1 : ∀ w ∈ wsX10, w ∈ wsX1_aim := by decide +kernel
  have hinX3 : ∀ w ∈ wsX30, w ∈ wsX1_aim := by decide +kernel
  refine lv_iconst (v := nI 0) hx hb dX1_aim_0 (by decide) ?_
  refine lv_istore_n (lv' := [(1, .int (nI 0)), (0, .ref (h 108))]) hx hb dX1_aim_1 rfl hl (by decide) rfl (fun ls hl => ?_)
  refine lv_iload_n hx hb dX1_aim_2 rfl (lv_at hl 0 rfl) ?_
  refine lv_aload_n hx hb dX1_aim_3 rfl (lv_at hl 1 rfl) ?_
  refine va_get (D := (dC, dI)) (ci := 1) (v := .ref (h 101)) (C := RX1) (T := TX1) (N := 6) hx hb hts hinX1 hown hK hP 0 rfl rfl 0 (by decide) (hts (.fieldLink RX1 27 "MixedWords$Leader" "mix" "LMixedWords$Mix;") (by decide +kernel)) (fun _ h9 => h9) rfl dX1_aim_4 ?_
  refine va_get (D := (dC, dI)) (ci := 3) (v := .int (qI_47 120)) (C := RX3) (T := TX3) (N := 6) hx hb hts hinX3 hown hK hP 1 rfl rfl 0 (by decide) (hts (.fieldLink RX1 64 "MixedWords$Mix" "height" "I") (by decide +kernel)) (fun _ h9 => h9) rfl dX1_aim_7 ?_
  refine xt_i (y := nI 2) (by decide +kernel) ?_
  refine lv_icmp_ge (tgt := 81) hx hb dX1_aim_10 (by decide) (fun c9 => False.elim (by revert c9; decide +kernel)) (fun _ => ?_)
  refine lv_iconst (v := nI 0) hx hb dX1_aim_13 (by decide) ?_
  refine lv_istore_n (lv' := [(2, .int (nI 0)), (1, .int (nI 0)), (0, .ref (h 108))]) hx hb dX1_aim_14 rfl hl (by decide) rfl (fun ls hl => ?_)
  refine lv_iconst (v := nI 0) hx hb dX1_aim_15 (by decide) ?_
  refine lv_istore_n (lv' := [(3, .int (nI 0)), (2, .int (nI 0)), (1, .int (nI 0)), (0, .ref (h 108))]) hx hb dX1_aim_16 rfl hl (by decide) rfl (fun ls hl => ?_)
  refine lv_iload_n hx hb dX1_aim_17 rfl (lv_at hl 0 rfl) ?_
  refine lv_aload_n hx hb dX1_aim_18 rfl (lv_at hl 3 rfl) ?_
  refine va_get (D := (dC, dI)) (ci := 1) (v := .ref (h 101)) (C := RX1) (T := TX1) (N := 6) hx hb hts hinX1 hown hK hP 0 rfl rfl 0 (by decide) (hts (.fieldLink RX1 27 "MixedWords$Leader" "mix" "LMixedWords$Mix;") (by decide +kernel)) (fun _ h9 => h9) rfl dX1_aim_19 ?_
  refine va_get (D := (dC, dI)) (ci := 3) (v := .int (qI_47 121)) (C := RX3) (T := TX3) (N := 6) hx hb hts hinX3 hown hK hP 1 rfl rfl 1 (by decide) (hts (.fieldLink RX1 53 "MixedWords$Mix" "width" "I") (by decide +kernel)) (fun _ h9 => h9) rfl dX1_aim_22 ?_
  refine xt_i (y := nI 2) (by decide +kernel) ?_
  refine lv_icmp_ge (tgt := 48) hx hb dX1_aim_25 (by decide) (fun c9 => False.elim (by revert c9; decide +kernel)) (fun _ => ?_)
  refine lv_iload_n hx hb dX1_aim_28 rfl (lv_at hl 1 rfl) ?_
  refine lv_aload_n hx hb dX1_aim_29 rfl (lv_at hl 3 rfl) ?_
  refine va_get (D := (dC, dI)) (ci := 1) (v := .ref (h 101)) (C := RX1) (T := TX1) (N := 6) hx hb hts hinX1 hown hK hP 0 rfl rfl 0 (by decide) (hts (.fieldLink RX1 27 "MixedWords$Leader" "mix" "LMixedWords$Mix;") (by decide +kernel)) (fun _ h9 => h9) rfl dX1_aim_30 ?_
  refine va_get (D := (dC, dI)) (ci := 3) (v := .ref (h 130)) (C := RX3) (T := TX3) (N := 6) hx hb hts hinX3 hown hK hP 1 rfl rfl 4 (by decide) (hts (.fieldLink RX1 44 "MixedWords$Mix" "cells" "[[I") (by decide +kernel)) (fun _ h9 => h9) rfl dX1_aim_33 ?_
  refine lv_iload_n hx hb dX1_aim_36 rfl (lv_at hl 2 rfl) ?_
  refine xa_aald (b := h 131) hx hb hK hP 2 3 rfl rfl rfl (by omega) (by decide) (if_pos (by omega)) dX1_aim_37 ?_
  refine lv_iload_n hx hb dX1_aim_38 rfl (lv_at hl 0 rfl) ?_
  refine xa_iald hx hb hK hP 3 0 rfl rfl (by omega) (by decide) dX1_aim_39 ?_
  refine xt_i (y := nI 0) (by decide +kernel) ?_
  refine lv_iadd hx hb dX1_aim_40 ?_
  refine xt_i (y := nI 0) (by decide +kernel) ?_
  refine lv_istore_n (lv' := [(2, .int (nI 0)), (3, .int (nI 0)), (1, .int (nI 0)), (0, .ref (h 108))]) hx hb dX1_aim_41 rfl hl (by decide) rfl (fun ls hl => ?_)
  refine lv_iinc (v := nI 1) (lv' := [(3, .int (nI 1)), (2, .int (nI 0)), (1, .int (nI 0)), (0, .ref (h 108))]) hx hb dX1_aim_42 hl (k := 1) rfl (by decide +kernel) (by decide) rfl (fun ls hl => ?_)
  refine lv_goto (tgt := 17) hx hb dX1_aim_45 (by decide) ?_
  refine lv_iload_n hx hb dX1_aim_17 rfl (lv_at hl 0 rfl) ?_
  refine lv_aload_n hx hb dX1_aim_18 rfl (lv_at hl 3 rfl) ?_
  refine va_get (D := (dC, dI)) (ci := 1) (v := .ref (h 101)) (C := RX1) (T := TX1) (N := 6) hx hb hts hinX1 hown hK hP 0 rfl rfl 0 (by decide) (hts (.fieldLink RX1 27 "MixedWords$Leader" "mix" "LMixedWords$Mix;") (by decide +kernel)) (fun _ h9 => h9) rfl dX1_aim_19 ?_
  refine va_get (D := (dC, dI)) (ci := 3) (v := .int (qI_47 121)) (C := RX3) (T := TX3) (N := 6) hx hb hts hinX3 hown hK hP 1 rfl rfl 1 (by decide) (hts (.fieldLink RX1 53 "MixedWords$Mix" "width" "I") (by decide +kernel)) (fun _ h9 => h9) rfl dX1_aim_22 ?_
  refine xt_i (y := nI 2) (by decide +kernel) ?_
  refine lv_icmp_ge (tgt := 48) hx hb dX1_aim_25 (by decide) (fun c9 => False.elim (by revert c9; decide +kernel)) (fun _ => ?_)
  refine lv_iload_n hx hb dX1_aim_28 rfl (lv_at hl 1 rfl) ?_
  refine lv_aload_n hx hb dX1_aim_29 rfl (lv_at hl 3 rfl) ?_
  refine va_get (D := (dC, dI)) (ci := 1) (v := .ref (h 101)) (C := RX1) (T := TX1) (N := 6) hx hb hts hinX1 hown hK hP 0 rfl rfl 0 (by decide) (hts (.fieldLink RX1 27 "MixedWords$Leader" "mix" "LMixedWords$Mix;") (by decide +kernel)) (fun _ h9 => h9) rfl dX1_aim_30 ?_
  refine va_get (D := (dC, dI)) (ci := 3) (v := .ref (h 130)) (C := RX3) (T := TX3) (N := 6) hx hb hts hinX3 hown hK hP 1 rfl rfl 4 (by decide) (hts (.fieldLink RX1 44 "MixedWords$Mix" "cells" "[[I") (by decide +kernel)) (fun _ h9 => h9) rfl dX1_aim_33 ?_
  refine lv_iload_n hx hb dX1_aim_36 rfl (lv_at hl 2 rfl) ?_
  refine xa_aald (b := h 131) hx hb hK hP 2 3 rfl rfl rfl (by omega) (by decide) (if_pos (by omega)) dX1_aim_37 ?_
  refine lv_iload_n hx hb dX1_aim_38 rfl (lv_at hl 0 rfl) ?_
  refine xa_iald hx hb hK hP 3 0 rfl rfl (by omega) (by decide) dX1_aim_39 ?_
  refine xt_i (y := nI 0) (by decide +kernel) ?_
  refine lv_iadd hx hb dX1_aim_40 ?_
  refine xt_i (y := nI 0) (by decide +kernel) ?_
  refine lv_istore_n (lv' := [(2, .int (nI 0)), (3, .int (nI 1)), (1, .int (nI 0)), (0, .ref (h 108))]) hx hb dX1_aim_41 rfl hl (by decide) rfl (fun ls hl => ?_)
  refine lv_iinc (v := nI 2) (lv' := [(3, .int (nI 2)), (2, .int (nI 0)), (1, .int (nI 0)), (0, .ref (h 108))]) hx hb dX1_aim_42 hl (k := 1) rfl (by decide +kernel) (by decide) rfl (fun ls hl => ?_)
  refine lv_goto (tgt := 17) hx hb dX1_aim_45 (by decide) ?_
  refine lv_iload_n hx hb dX1_aim_17 rfl (lv_at hl 0 rfl) ?_
  refine lv_aload_n hx hb dX1_aim_18 rfl (lv_at hl 3 rfl) ?_
  refine va_get (D := (dC, dI)) (ci := 1) (v := .ref (h 101)) (C := RX1) (T := TX1) (N := 6) hx hb hts hinX1 hown hK hP 0 rfl rfl 0 (by decide) (hts (.fieldLink RX1 27 "MixedWords$Leader" "mix" "LMixedWords$Mix;") (by decide +kernel)) (fun _ h9 => h9) rfl dX1_aim_19 ?_
  refine va_get (D := (dC, dI)) (ci := 3) (v := .int (qI_47 121)) (C := RX3) (T := TX3) (N := 6) hx hb hts hinX3 hown hK hP 1 rfl rfl 1 (by decide) (hts (.fieldLink RX1 53 "MixedWords$Mix" "width" "I") (by decide +kernel)) (fun _ h9 => h9) rfl dX1_aim_22 ?_
  refine xt_i (y := nI 2) (by decide +kernel) ?_
  refine lv_icmp_ge (tgt := 48) hx hb dX1_aim_25 (by decide) (fun _ => ?_) (fun c9 => False.elim (by revert c9; decide +kernel))
  refine lv_aload_n hx hb dX1_aim_48 rfl (lv_at hl 3 rfl) ?_
  refine va_get (D := (dC, dI)) (ci := 1) (v := .ref (h 211)) (C := RX1) (T := TX1) (N := 6) hx hb hts hinX1 hown hK hP 0 rfl rfl 3 (by decide) (hts (.fieldLink RX1 19 "MixedWords$Leader" "target" "[I") (by decide +kernel)) (fun _ h9 => h9) rfl dX1_aim_49 ?_
  refine lv_iload_n hx hb dX1_aim_52 rfl (lv_at hl 2 rfl) ?_
  refine lv_aload_n hx hb dX1_aim_53 rfl (lv_at hl 3 rfl) ?_
  refine va_get (D := (dC, dI)) (ci := 1) (v := .ref (h 101)) (C := RX1) (T := TX1) (N := 6) hx hb hts hinX1 hown hK hP 0 rfl rfl 0 (by decide) (hts (.fieldLink RX1 27 "MixedWords$Leader" "mix" "LMixedWords$Mix;") (by decide +kernel)) (fun _ h9 => h9) rfl dX1_aim_54 ?_
  refine va_get (D := (dC, dI)) (ci := 3) (v := .ref (h 136)) (C := RX3) (T := TX3) (N := 6) hx hb hts hinX3 hown hK hP 1 rfl rfl 5 (by decide) (hts (.fieldLink RX1 77 "MixedWords$Mix" "heard" "[I") (by decide +kernel)) (fun _ h9 => h9) rfl dX1_aim_57 ?_
  refine lv_iload_n hx hb dX1_aim_60 rfl (lv_at hl 2 rfl) ?_
  refine xa_iald hx hb hK hP 8 0 rfl rfl (by omega) (by decide) dX1_aim_61 ?_
  refine xt_i (y := nI 0) (by decide +kernel) ?_
  refine lv_aload_n hx hb dX1_aim_62 rfl (lv_at hl 3 rfl) ?_
  refine va_get (D := (dC, dI)) (ci := 1) (v := .ref (h 101)) (C := RX1) (T := TX1) (N := 6) hx hb hts hinX1 hown hK hP 0 rfl rfl 0 (by decide) (hts (.fieldLink RX1 27 "MixedWords$Leader" "mix" "LMixedWords$Mix;") (by decide +kernel)) (fun _ h9 => h9) rfl dX1_aim_63 ?_
  refine va_get (D := (dC, dI)) (ci := 3) (v := .int (qI_47 122)) (C := RX3) (T := TX3) (N := 6) hx hb hts hinX3 hown hK hP 1 rfl rfl 2 (by decide) (hts (.fieldLink RX1 80 "MixedWords$Mix" "letterCount" "I") (by decide +kernel)) (fun _ h9 => h9) rfl dX1_aim_66 ?_
  refine xt_i (y := nI 2) (by decide +kernel) ?_
  refine lv_iconst (v := nI 1) hx hb dX1_aim_69 (by decide) ?_
  refine lv_isub hx hb dX1_aim_70 ?_
  refine xt_i (y := nI 1) (by decide +kernel) ?_
  refine lv_iload_n hx hb dX1_aim_71 rfl (lv_at hl 1 rfl) ?_
  refine lv_imul hx hb dX1_aim_72 ?_
  refine xt_i (y := nI 0) (by decide +kernel) ?_
  refine lv_iadd hx hb dX1_aim_73 ?_
  refine xt_i (y := nI 0) (by decide +kernel) ?_
  refine xa_iastS hx hb hK hP hD hS 20 0 rfl rfl (by omega) (by decide) (by decide +kernel) dX1_aim_74 (fun H locs hP hD hS => ?_)
  refine lv_iinc (v := nI 1) (lv' := [(1, .int (nI 1)), (3, .int (nI 2)), (2, .int (nI 0)), (0, .ref (h 108))]) hx hb dX1_aim_75 hl (k := 2) rfl (by decide +kernel) (by decide) rfl (fun ls hl => ?_)
  refine lv_goto (tgt := 2) hx hb dX1_aim_78 (by decide) ?_
  refine lv_iload_n hx hb dX1_aim_2 rfl (lv_at hl 0 rfl) ?_
  refine lv_aload_n hx hb dX1_aim_3 rfl (lv_at hl 3 rfl) ?_
  refine va_get (D := (dC, dI)) (ci := 1) (v := .ref (h 101)) (C := RX1) (T := TX1) (N := 6) hx hb hts hinX1 hown hK hP 0 rfl rfl 0 (by decide) (hts (.fieldLink RX1 27 "MixedWords$Leader" "mix" "LMixedWords$Mix;") (by decide +kernel)) (fun _ h9 => h9) rfl dX1_aim_4 ?_
  refine va_get (D := (dC, dI)) (ci := 3) (v := .int (qI_47 120)) (C := RX3) (T := TX3) (N := 6) hx hb hts hinX3 hown hK hP 1 rfl rfl 0 (by decide) (hts (.fieldLink RX1 64 "MixedWords$Mix" "height" "I") (by decide +kernel)) (fun _ h9 => h9) rfl dX1_aim_7 ?_
  refine xt_i (y := nI 2) (by decide +kernel) ?_
  refine lv_icmp_ge (tgt := 81) hx hb dX1_aim_10 (by decide) (fun c9 => False.elim (by revert c9; decide +kernel)) (fun _ => ?_)
  refine lv_iconst (v := nI 0) hx hb dX1_aim_13 (by decide) ?_
  refine lv_istore_n (lv' := [(2, .int (nI 0)), (1, .int (nI 1)), (3, .int (nI 2)), (0, .ref (h 108))]) hx hb dX1_aim_14 rfl hl (by decide) rfl (fun ls hl => ?_)
  refine lv_iconst (v := nI 0) hx hb dX1_aim_15 (by decide) ?_
  refine lv_istore_n (lv' := [(3, .int (nI 0)), (2, .int (nI 0)), (1, .int (nI 1)), (0, .ref (h 108))]) hx hb dX1_aim_16 rfl hl (by decide) rfl (fun ls hl => ?_)
  refine lv_iload_n hx hb dX1_aim_17 rfl (lv_at hl 0 rfl) ?_
  refine lv_aload_n hx hb dX1_aim_18 rfl (lv_at hl 3 rfl) ?_
  refine va_get (D := (dC, dI)) (ci := 1) (v := .ref (h 101)) (C := RX1) (T := TX1) (N := 6) hx hb hts hinX1 hown hK hP 0 rfl rfl 0 (by decide) (hts (.fieldLink RX1 27 "MixedWords$Leader" "mix" "LMixedWords$Mix;") (by decide +kernel)) (fun _ h9 => h9) rfl dX1_aim_19 ?_
  refine va_get (D := (dC, dI)) (ci := 3) (v := .int (qI_47 121)) (C := RX3) (T := TX3) (N := 6) hx hb hts hinX3 hown hK hP 1 rfl rfl 1 (by decide) (hts (.fieldLink RX1 53 "MixedWords$Mix" "width" "I") (by decide +kernel)) (fun _ h9 => h9) rfl dX1_aim_22 ?_
  refine xt_i (y := nI 2) (by decide +kernel) ?_
  refine lv_icmp_ge (tgt := 48) hx hb dX1_aim_25 (by decide) (fun c9 => False.elim (by revert c9; decide +kernel)) (fun _ => ?_)
  refine lv_iload_n hx hb dX1_aim_28 rfl (lv_at hl 1 rfl) ?_
  refine lv_aload_n hx hb dX1_aim_29 rfl (lv_at hl 3 rfl) ?_
  refine va_get (D := (dC, dI)) (ci := 1) (v := .ref (h 101)) (C := RX1) (T := TX1) (N := 6) hx hb hts hinX1 hown hK hP 0 rfl rfl 0 (by decide) (hts (.fieldLink RX1 27 "MixedWords$Leader" "mix" "LMixedWords$Mix;") (by decide +kernel)) (fun _ h9 => h9) rfl dX1_aim_30 ?_
  refine va_get (D := (dC, dI)) (ci := 3) (v := .ref (h 130)) (C := RX3) (T := TX3) (N := 6) hx hb hts hinX3 hown hK hP 1 rfl rfl 4 (by decide) (hts (.fieldLink RX1 44 "MixedWords$Mix" "cells" "[[I") (by decide +kernel)) (fun _ h9 => h9) rfl dX1_aim_33 ?_
  refine lv_iload_n hx hb dX1_aim_36 rfl (lv_at hl 2 rfl) ?_
  refine xa_aald (b := h 132) hx hb hK hP 2 3 rfl rfl rfl (by omega) (by decide) (if_pos (by omega)) dX1_aim_37 ?_
  refine lv_iload_n hx hb dX1_aim_38 rfl (lv_at hl 0 rfl) ?_
  refine xa_iald hx hb hK hP 4 0 rfl rfl (by omega) (by decide) dX1_aim_39 ?_
  refine xt_i (y := nI 0) (by decide +kernel) ?_
  refine lv_iadd hx hb dX1_aim_40 ?_
  refine xt_i (y := nI 0) (by decide +kernel) ?_
  refine lv_istore_n (lv' := [(2, .int (nI 0)), (3, .int (nI 0)), (1, .int (nI 1)), (0, .ref (h 108))]) hx hb dX1_aim_41 rfl hl (by decide) rfl (fun ls hl => ?_)
  refine lv_iinc (v := nI 1) (lv' := [(3, .int (nI 1)), (2, .int (nI 0)), (1, .int (nI 1)), (0, .ref (h 108))]) hx hb dX1_aim_42 hl (k := 1) rfl (by decide +kernel) (by decide) rfl (fun ls hl => ?_)
  refine lv_goto (tgt := 17) hx hb dX1_aim_45 (by decide) ?_
  refine lv_iload_n hx hb dX1_aim_17 rfl (lv_at hl 0 rfl) ?_
  refine lv_aload_n hx hb dX1_aim_18 rfl (lv_at hl 3 rfl) ?_
  refine va_get (D := (dC, dI)) (ci := 1) (v := .ref (h 101)) (C := RX1) (T := TX1) (N := 6) hx hb hts hinX1 hown hK hP 0 rfl rfl 0 (by decide) (hts (.fieldLink RX1 27 "MixedWords$Leader" "mix" "LMixedWords$Mix;") (by decide +kernel)) (fun _ h9 => h9) rfl dX1_aim_19 ?_
  refine va_get (D := (dC, dI)) (ci := 3) (v := .int (qI_47 121)) (C := RX3) (T := TX3) (N := 6) hx hb hts hinX3 hown hK hP 1 rfl rfl 1 (by decide) (hts (.fieldLink RX1 53 "MixedWords$Mix" "width" "I") (by decide +kernel)) (fun _ h9 => h9) rfl dX1_aim_22 ?_
  refine xt_i (y := nI 2) (by decide +kernel) ?_
  refine lv_icmp_ge (tgt := 48) hx hb dX1_aim_25 (by decide) (fun c9 => False.elim (by revert c9; decide +kernel)) (fun _ => ?_)
  refine lv_iload_n hx hb dX1_aim_28 rfl (lv_at hl 1 rfl) ?_
  refine lv_aload_n hx hb dX1_aim_29 rfl (lv_at hl 3 rfl) ?_
  refine va_get (D := (dC, dI)) (ci := 1) (v := .ref (h 101)) (C := RX1) (T := TX1) (N := 6) hx hb hts hinX1 hown hK hP 0 rfl rfl 0 (by decide) (hts (.fieldLink RX1 27 "MixedWords$Leader" "mix" "LMixedWords$Mix;") (by decide +kernel)) (fun _ h9 => h9) rfl dX1_aim_30 ?_
  refine va_get (D := (dC, dI)) (ci := 3) (v := .ref (h 130)) (C := RX3) (T := TX3) (N := 6) hx hb hts hinX3 hown hK hP 1 rfl rfl 4 (by decide) (hts (.fieldLink RX1 44 "MixedWords$Mix" "cells" "[[I") (by decide +kernel)) (fun _ h9 => h9) rfl dX1_aim_33 ?_
  refine lv_iload_n hx hb dX1_aim_36 rfl (lv_at hl 2 rfl) ?_
  refine xa_aald (b := h 132) hx hb hK hP 2 3 rfl rfl rfl (by omega) (by decide) (if_pos (by omega)) dX1_aim_37 ?_
  refine lv_iload_n hx hb dX1_aim_38 rfl (lv_at hl 0 rfl) ?_
  refine xa_iald hx hb hK hP 4 0 rfl rfl (by omega) (by decide) dX1_aim_39 ?_
  refine xt_i (y := nI 0) (by decide +kernel) ?_
  refine lv_iadd hx hb dX1_aim_40 ?_
  refine xt_i (y := nI 0) (by decide +kernel) ?_
  refine lv_istore_n (lv' := [(2, .int (nI 0)), (3, .int (nI 1)), (1, .int (nI 1)), (0, .ref (h 108))]) hx hb dX1_aim_41 rfl hl (by decide) rfl (fun ls hl => ?_)
  refine lv_iinc (v := nI 2) (lv' := [(3, .int (nI 2)), (2, .int (nI 0)), (1, .int (nI 1)), (0, .ref (h 108))]) hx hb dX1_aim_42 hl (k := 1) rfl (by decide +kernel) (by decide) rfl (fun ls hl => ?_)
  refine lv_goto (tgt := 17) hx hb dX1_aim_45 (by decide) ?_
  refine lv_iload_n hx hb dX1_aim_17 rfl (lv_at hl 0 rfl) ?_
  refine lv_aload_n hx hb dX1_aim_18 rfl (lv_at hl 3 rfl) ?_
  refine va_get (D := (dC, dI)) (ci := 1) (v := .ref (h 101)) (C := RX1) (T := TX1) (N := 6) hx hb hts hinX1 hown hK hP 0 rfl rfl 0 (by decide) (hts (.fieldLink RX1 27 "MixedWords$Leader" "mix" "LMixedWords$Mix;") (by decide +kernel)) (fun _ h9 => h9) rfl dX1_aim_19 ?_
  refine va_get (D := (dC, dI)) (ci := 3) (v := .int (qI_47 121)) (C := RX3) (T := TX3) (N := 6) hx hb hts hinX3 hown hK hP 1 rfl rfl 1 (by decide) (hts (.fieldLink RX1 53 "MixedWords$Mix" "width" "I") (by decide +kernel)) (fun _ h9 => h9) rfl dX1_aim_22 ?_
  refine xt_i (y := nI 2) (by decide +kernel) ?_
  refine lv_icmp_ge (tgt := 48) hx hb dX1_aim_25 (by decide) (fun _ => ?_) (fun c9 => False.elim (by revert c9; decide +kernel))
  refine lv_aload_n hx hb dX1_aim_48 rfl (lv_at hl 3 rfl) ?_
  refine va_get (D := (dC, dI)) (ci := 1) (v := .ref (h 211)) (C := RX1) (T := TX1) (N := 6) hx hb hts hinX1 hown hK hP 0 rfl rfl 3 (by decide) (hts (.fieldLink RX1 19 "MixedWords$Leader" "target" "[I") (by decide +kernel)) (fun _ h9 => h9) rfl dX1_aim_49 ?_
  refine lv_iload_n hx hb dX1_aim_52 rfl (lv_at hl 2 rfl) ?_
  refine lv_aload_n hx hb dX1_aim_53 rfl (lv_at hl 3 rfl) ?_
  refine va_get (D := (dC, dI)) (ci := 1) (v := .ref (h 101)) (C := RX1) (T := TX1) (N := 6) hx hb hts hinX1 hown hK hP 0 rfl rfl 0 (by decide) (hts (.fieldLink RX1 27 "MixedWords$Leader" "mix" "LMixedWords$Mix;") (by decide +kernel)) (fun _ h9 => h9) rfl dX1_aim_54 ?_
  refine va_get (D := (dC, dI)) (ci := 3) (v := .ref (h 136)) (C := RX3) (T := TX3) (N := 6) hx hb hts hinX3 hown hK hP 1 rfl rfl 5 (by decide) (hts (.fieldLink RX1 77 "MixedWords$Mix" "heard" "[I") (by decide +kernel)) (fun _ h9 => h9) rfl dX1_aim_57 ?_
  refine lv_iload_n hx hb dX1_aim_60 rfl (lv_at hl 2 rfl) ?_
  refine xa_iald hx hb hK hP 8 0 rfl rfl (by omega) (by decide) dX1_aim_61 ?_
  refine xt_i (y := nI 0) (by decide +kernel) ?_
  refine lv_aload_n hx hb dX1_aim_62 rfl (lv_at hl 3 rfl) ?_
  refine va_get (D := (dC, dI)) (ci := 1) (v := .ref (h 101)) (C := RX1) (T := TX1) (N := 6) hx hb hts hinX1 hown hK hP 0 rfl rfl 0 (by decide) (hts (.fieldLink RX1 27 "MixedWords$Leader" "mix" "LMixedWords$Mix;") (by decide +kernel)) (fun _ h9 => h9) rfl dX1_aim_63 ?_
  refine va_get (D := (dC, dI)) (ci := 3) (v := .int (qI_47 122)) (C := RX3) (T := TX3) (N := 6) hx hb hts hinX3 hown hK hP 1 rfl rfl 2 (by decide) (hts (.fieldLink RX1 80 "MixedWords$Mix" "letterCount" "I") (by decide +kernel)) (fun _ h9 => h9) rfl dX1_aim_66 ?_
  refine xt_i (y := nI 2) (by decide +kernel) ?_
  refine lv_iconst (v := nI 1) hx hb dX1_aim_69 (by decide) ?_
  refine lv_isub hx hb dX1_aim_70 ?_
  refine xt_i (y := nI 1) (by decide +kernel) ?_
  refine lv_iload_n hx hb dX1_aim_71 rfl (lv_at hl 1 rfl) ?_
  refine lv_imul hx hb dX1_aim_72 ?_
  refine xt_i (y := nI 0) (by decide +kernel) ?_
  refine lv_iadd hx hb dX1_aim_73 ?_
  refine xt_i (y := nI 0) (by decide +kernel) ?_
  refine xa_iastS hx hb hK hP hD hS 20 0 rfl rfl (by omega) (by decide) (by decide +kernel) dX1_aim_74 (fun H locs hP hD hS => ?_)
  refine lv_iinc (v := nI 2) (lv' := [(1, .int (nI 2)), (3, .int (nI 2)), (2, .int (nI 0)), (0, .ref (h 108))]) hx hb dX1_aim_75 hl (k := 2) rfl (by decide +kernel) (by decide) rfl (fun ls hl => ?_)
  refine lv_goto (tgt := 2) hx hb dX1_aim_78 (by decide) ?_
  refine lv_iload_n hx hb dX1_aim_2 rfl (lv_at hl 0 rfl) ?_
  refine lv_aload_n hx hb dX1_aim_3 rfl (lv_at hl 3 rfl) ?_
  refine va_get (D := (dC, dI)) (ci := 1) (v := .ref (h 101)) (C := RX1) (T := TX1) (N := 6) hx hb hts hinX1 hown hK hP 0 rfl rfl 0 (by decide) (hts (.fieldLink RX1 27 "MixedWords$Leader" "mix" "LMixedWords$Mix;") (by decide +kernel)) (fun _ h9 => h9) rfl dX1_aim_4 ?_
  refine va_get (D := (dC, dI)) (ci := 3) (v := .int (qI_47 120)) (C := RX3) (T := TX3) (N := 6) hx hb hts hinX3 hown hK hP 1 rfl rfl 0 (by decide) (hts (.fieldLink RX1 64 "MixedWords$Mix" "height" "I") (by decide +kernel)) (fun _ h9 => h9) rfl dX1_aim_7 ?_
  refine xt_i (y := nI 2) (by decide +kernel) ?_
  refine lv_icmp_ge (tgt := 81) hx hb dX1_aim_10 (by decide) (fun _ => ?_) (fun c9 => False.elim (by revert c9; decide +kernel))
  exact xr_v hx hb hr hlocks hK hS dX1_aim_81 (qI_47, fL, fA, fQ, qG_40, fJ) ⟨trivial, rfl⟩ hP hD
def wD_49 (h : Nat → Nat) (cs : Nat → ClassId) (I : Nat → Int32) (L : Nat → Int64) (A : Nat → Nat → Int32) (Q : Nat → Nat → Int64) (G : Nat → Nat → Nat → Int32) (J : Nat → Nat → Nat → Int64) : va_W := [(h 106, .inr (2, [.ref (h 180), .ref (h 185), .ref (h 186), .ref (h 187), .long (L 188)])), (h 180, .inl (cs 4, 4, .inr (.inr (.inr (.inr (fun i => if i < 4 then some (h (i + 181)) else none)))))), (h 181, .inl (cs 1, 4, .inr (.inl ((J 0) 0)))), (h 182, .inl (cs 1, 4, .inr (.inl ((J 0) 1)))), (h 183, .inl (cs 1, 4, .inr (.inl ((J 0) 2)))), (h 184, .inl (cs 1, 4, .inr (.inl ((J 0) 3)))), (h 185, .inl (cs 1, 4, .inr (.inl (Q 185)))), (h 186, .inl (cs 0, 4, .inl (A 186))), (h 187, .inl (cs 1, 4, .inr (.inl (Q 187)))), (h 200, .inl (cs 3, 5, .inr (.inr (.inr (.inr (fun i => if i < 5 then some (h (i + 201)) else none)))))), (h 201, .inl (cs 0, 4, .inl ((G 2) 0))), (h 202, .inl (cs 0, 4, .inl ((G 2) 1))), (h 203, .inl (cs 0, 4, .inl ((G 2) 2))), (h 204, .inl (cs 0, 4, .inl ((G 2) 3))), (h 205, .inl (cs 0, 4, .inl ((G 2) 4))), (h 211, .inl (cs 0, 5, .inl (A 211)))]
set_option maxHeartbeats 4000000 in
set_option maxRecDepth 100000 in
theorem a_X9_product_51 (l : Launch) (dC : Nat → ClassId) (dI : Nat → Nat → Nat) (h : Nat → Nat) (cs : Nat → ClassId) (sz : Nat) (I : Nat → Int32) (L : Nat → Int64) (A : Nat → Nat → Int32) (Q : Nat → Nat → Int64) (G : Nat → Nat → Nat → Int32) (J : Nat → Nat → Nat → Int64) : Met l yX9_product wsX9_product ({ frames := 0, cells := 0, slots := 0, locals := 0 }) (va_Pc [.ref (h 200), .int (nI 2), .int (nI 0), .int (nI 0)] (xPre (dC, dI) (wD_43 h cs qI_47 fL fA fQ qG_40 fJ) (tysA cs) sz)) (va_Qi (fun (r : Int32) (u : CS) => (r = nI 0) ∧ u = (qI_47, fL, fA, fQ, qG_40, fJ)) (xB (dC, dI) (tysA cs) (va_A (wD_43 h cs qI_47 fL fA fQ qG_40 fJ) sz) (fun u : CS => wD_43 h cs u.1 u.2.1 u.2.2.1 u.2.2.2.1 u.2.2.2.2.1 u.2.2.2.2.2)) (va_A (wD_43 h cs qI_47 fL fA fQ qG_40 fJ) sz)) 0 0 (va_A (wD_43 h cs qI_47 fL fA fQ qG_40 fJ) sz) := by
  refine Met.ofW (cc := cX9_product) (maxL := 6) (ret := (some .int)) (by decide) rfl ?_
  intro p e s m args below meth c s₁ B hml hv
  obtain ⟨rfl, hsz, hP, hK, hD0, hN⟩ := hv
  have hx := B.exec
  have hb := B.bytes
  have hr := B.returns
  have hts := atoms_spec (ws := wsX9_product) B.pre
  have hown : s.vm.findClass RX9 = some m.cls := findClass_of_methodNamed B.named
  have hlocks := B.notSynchronized
  subst hsz
  have hD := hD0.self (sz := s.heap.size)
  generalize hAe : va_A (wD_43 h cs qI_47 fL fA fQ qG_40 fJ) s.heap.size = A0 at hD ⊢
  have hA : ∀ q : Nat, s.heap.size ≤ q → A0 q := fun q h => by rw [← hAe]; exact Or.inr h
  have hl := lv_entry ([.ref (h 200), .int (nI 2), .int (nI 0), .int (nI 0)]) (n := 6) (Nat.le_of_ble_eq_true rfl)
  rw [lg_entry_eq]
  generalize (lg_sl ([.ref (h 200), .int (nI 2), .int (nI 0), .int (nI 0)]) ++ List.replicate (6 - (lg_sl ([.ref (h 200), .int (nI 2), .int (nI 0), .int (nI 0)])).length) Slot.unset).toArray = ls at hl ⊢
  have hl : lv_has ls 6 [(0, .ref (h 200)), (1, .int (nI 2)), (2, .int (nI 0)), (3, .int (nI 0))] := hl
  generalize hH : s.heap = H at hP ⊢
  have hS : va_S A0 s.heap H [] := by rw [← hH]; exact va_S.rf
  refine lv_iconst (v := nI 0) hx hb dX9_product_0 (by decide) ?_
  refine lv_istore (lv' := [(4, .int (nI 0)), (0, .ref (h 200)), (1, .int (nI 2)), (2, .int (nI 0)), (3, .int (nI 0))]) hx hb dX9_product_1 hl (by decide) rfl (fun ls hl => ?_)
  refine lv_iconst (v := nI 0) hx hb dX9_product_3 (by decide) ?_
  refine lv_istore (lv' := [(5, .int (nI 0)), (4, .int (nI 0)), (0, .ref (h 200)), (1, .int (nI 2)), (2, .int (nI 0)), (3, .int (nI 0))]) hx hb dX9_product_4 hl (by decide) rfl (fun ls hl => ?_)
  refine lv_iload hx hb dX9_product_6 (lv_at hl 0 rfl) ?_
  refine lv_iload_n hx hb dX9_product_8 rfl (lv_at hl 3 rfl) ?_
  refine lv_icmp_ge (tgt := 36) hx hb dX9_product_9 (by decide) (fun c9 => False.elim (by revert c9; decide +kernel)) (fun _ => ?_)
  refine lv_iload hx hb dX9_product_12 (lv_at hl 1 rfl) ?_
  refine lv_aload_n hx hb dX9_product_14 rfl (lv_at hl 2 rfl) ?_
  refine lv_iload hx hb dX9_product_15 (lv_at hl 0 rfl) ?_
  refine xa_aald (b := h 201) hx hb hK hP 0 3 rfl rfl rfl (by omega) (by decide) (if_pos (by omega)) dX9_product_17 ?_
  refine lv_iload_n hx hb dX9_product_18 rfl (lv_at hl 4 rfl) ?_
  refine xa_iald hx hb hK hP 1 0 rfl rfl (by omega) (by decide) dX9_product_19 ?_
  refine xt_i (y := nI 0) (by decide +kernel) ?_
  refine lv_aload_n hx hb dX9_product_20 rfl (lv_at hl 2 rfl) ?_
  refine lv_iload hx hb dX9_product_21 (lv_at hl 0 rfl) ?_
  refine xa_aald (b := h 201) hx hb hK hP 0 3 rfl rfl rfl (by omega) (by decide) (if_pos (by omega)) dX9_product_23 ?_
  refine lv_iload_n hx hb dX9_product_24 rfl (lv_at hl 5 rfl) ?_
  refine xa_iald hx hb hK hP 1 0 rfl rfl (by omega) (by decide) dX9_product_25 ?_
  refine xt_i (y := nI 0) (by decide +kernel) ?_
  refine lv_imul hx hb dX9_product_26 ?_
  refine xt_i (y := nI 0) (by decide +kernel) ?_
  refine lv_iadd hx hb dX9_product_27 ?_
  refine xt_i (y := nI 0) (by decide +kernel) ?_
  refine lv_istore (lv' := [(4, .int (nI 0)), (5, .int (nI 0)), (0, .ref (h 200)), (1, .int (nI 2)), (2, .int (nI 0)), (3, .int (nI 0))]) hx hb dX9_product_28 hl (by decide) rfl (fun ls hl => ?_)
  refine lv_iinc (v := nI 1) (lv' := [(5, .int (nI 1)), (4, .int (nI 0)), (0, .ref (h 200)), (1, .int (nI 2)), (2, .int (nI 0)), (3, .int (nI 0))]) hx hb dX9_product_30 hl (k := 1) rfl (by decide +kernel) (by decide) rfl (fun ls hl => ?_)
  refine lv_goto (tgt := 6) hx hb dX9_product_33 (by decide) ?_
  refine lv_iload hx hb dX9_product_6 (lv_at hl 0 rfl) ?_
  refine lv_iload_n hx hb dX9_product_8 rfl (lv_at hl 3 rfl) ?_
  refine lv_icmp_ge (tgt := 36) hx hb dX9_product_9 (by decide) (fun c9 => False.elim (by revert c9; decide +kernel)) (fun _ => ?_)
  refine lv_iload hx hb dX9_product_12 (lv_at hl 1 rfl) ?_
  refine lv_aload_n hx hb dX9_product_14 rfl (lv_at hl 2 rfl) ?_
  refine lv_iload hx hb dX9_product_15 (lv_at hl 0 rfl) ?_
  refine xa_aald (b := h 202) hx hb hK hP 0 3 rfl rfl rfl (by omega) (by decide) (if_pos (by omega)) dX9_product_17 ?_
  refine lv_iload_n hx hb dX9_product_18 rfl (lv_at hl 4 rfl) ?_
  refine xa_iald hx hb hK hP 2 0 rfl rfl (by omega) (by decide) dX9_product_19 ?_
  refine xt_i (y := nI 0) (by decide +kernel) ?_
  refine lv_aload_n hx hb dX9_product_20 rfl (lv_at hl 2 rfl) ?_
  refine lv_iload hx hb dX9_product_21 (lv_at hl 0 rfl) ?_
  refine xa_aald (b := h 202) hx hb hK hP 0 3 rfl rfl rfl (by omega) (by decide) (if_pos (by omega)) dX9_product_23 ?_
  refine lv_iload_n hx hb dX9_product_24 rfl (lv_at hl 5 rfl) ?_
  refine xa_iald hx hb hK hP 2 0 rfl rfl (by omega) (by decide) dX9_product_25 ?_
  refine xt_i (y := nI 0) (by decide +kernel) ?_
  refine lv_imul hx hb dX9_product_26 ?_
  refine xt_i (y := nI 0) (by decide +kernel) ?_
  refine lv_iadd hx hb dX9_product_27 ?_
  refine xt_i (y := nI 0) (by decide +kernel) ?_
  refine lv_istore (lv' := [(4, .int (nI 0)), (5, .int (nI 1)), (0, .ref (h 200)), (1, .int (nI 2)), (2, .int (nI 0)), (3, .int (nI 0))]) hx hb dX9_product_28 hl (by decide) rfl (fun ls hl => ?_)
  refine lv_iinc (v := nI 2) (lv' := [(5, .int (nI 2)), (4, .int (nI 0)), (0, .ref (h 200)), (1, .int (nI 2)), (2, .int (nI 0)), (3, .int (nI 0))]) hx hb dX9_product_30 hl (k := 1) rfl (by decide +kernel) (by decide) rfl (fun ls hl => ?_)
  refine lv_goto (tgt := 6) hx hb dX9_product_33 (by decide) ?_
  refine lv_iload hx hb dX9_product_6 (lv_at hl 0 rfl) ?_
  refine lv_iload_n hx hb dX9_product_8 rfl (lv_at hl 3 rfl) ?_
  refine lv_icmp_ge (tgt := 36) hx hb dX9_product_9 (by decide) (fun _ => ?_) (fun c9 => False.elim (by revert c9; decide +kernel))
  refine lv_iload hx hb dX9_product_36 (lv_at hl 1 rfl) ?_
  exact xr_i (v := (nI 0)) hx hb hr hlocks hK hS dX9_product_38 (qI_47, fL, fA, fQ, qG_40, fJ) ⟨rfl, rfl⟩ hP hD
set_option maxHeartbeats 4000000 in
set_option maxRecDepth 100000 in
theorem a_X9_product_52 (l : Launch) (dC : Nat → ClassId) (dI : Nat → Nat → Nat) (h : Nat → Nat) (cs : Nat → ClassId) (sz : Nat) (I : Nat → Int32) (L : Nat → Int64) (A : Nat → Nat → Int32) (Q : Nat → Nat → Int64) (G : Nat → Nat → Nat → Int32) (J : Nat → Nat → Nat → Int64) : Met l yX9_product wsX9_product ({ frames := 0, cells := 0, slots := 0, locals := 0 }) (va_Pc [.ref (h 200), .int (nI 2), .int (nI 0), .int (nI 1)] (xPre (dC, dI) (wD_43 h cs qI_47 fL fA fQ qG_40 fJ) (tysA cs) sz)) (va_Qi (fun (r : Int32) (u : CS) => (r = nI 0) ∧ u = (qI_47, fL, fA, fQ, qG_40, fJ)) (xB (dC, dI) (tysA cs) (va_A (wD_43 h cs qI_47 fL fA fQ qG_40 fJ) sz) (fun u : CS => wD_43 h cs u.1 u.2.1 u.2.2.1 u.2.2.2.1 u.2.2.2.2.1 u.2.2.2.2.2)) (va_A (wD_43 h cs qI_47 fL fA fQ qG_40 fJ) sz)) 0 0 (va_A (wD_43 h cs qI_47 fL fA fQ qG_40 fJ) sz) := by
  refine Met.ofW (cc := cX9_product) (maxL := 6) (ret := (some .int)) (by decide) rfl ?_
  intro p e s m args below meth c s₁ B hml hv
  obtain ⟨rfl, hsz, hP, hK, hD0, hN⟩ := hv
  have hx := B.exec
  have hb := B.bytes
  have hr := B.returns
  have hts := atoms_spec (ws := wsX9_product) B.pre
  have hown : s.vm.findClass RX9 = some m.cls := findClass_of_methodNamed B.named
  have hlocks := B.notSynchronized
  subst hsz
  have hD := hD0.self (sz := s.heap.size)
  generalize hAe : va_A (wD_43 h cs qI_47 fL fA fQ qG_40 fJ) s.heap.size = A0 at hD ⊢
  have hA : ∀ q : Nat, s.heap.size ≤ q → A0 q := fun q h => by rw [← hAe]; exact Or.inr h
  have hl := lv_entry ([.ref (h 200), .int (nI 2), .int (nI 0), .int (nI 1)]) (n := 6) (Nat.le_of_ble_eq_true rfl)
  rw [lg_entry_eq]
  generalize (lg_sl ([.ref (h 200), .int (nI 2), .int (nI 0), .int (nI 1)]) ++ List.replicate (6 - (lg_sl ([.ref (h 200), .int (nI 2), .int (nI 0), .int (nI 1)])).length) Slot.unset).toArray = ls at hl ⊢
  have hl : lv_has ls 6 [(0, .ref (h 200)), (1, .int (nI 2)), (2, .int (nI 0)), (3, .int (nI 1))] := hl
  generalize hH : s.heap = H at hP ⊢
  have hS : va_S A0 s.heap H [] := by rw [← hH]; exact va_S.rf
  refine lv_iconst (v := nI 0) hx hb dX9_product_0 (by decide) ?_
  refine lv_istore (lv' := [(4, .int (nI 0)), (0, .ref (h 200)), (1, .int (nI 2)), (2, .int (nI 0)), (3, .int (nI 1))]) hx hb dX9_product_1 hl (by decide) rfl (fun ls hl => ?_)
  refine lv_iconst (v := nI 0) hx hb dX9_product_3 (by decide) ?_
  refine lv_istore (lv' := [(5, .int (nI 0)), (4, .int (nI 0)), (0, .ref (h 200)), (1, .int (nI 2)), (2, .int (nI 0)), (3, .int (nI 1))]) hx hb dX9_product_4 hl (by decide) rfl (fun ls hl => ?_)
  refine lv_iload hx hb dX9_product_6 (lv_at hl 0 rfl) ?_
  refine lv_iload_n hx hb dX9_product_8 rfl (lv_at hl 3 rfl) ?_
  refine lv_icmp_ge (tgt := 36) hx hb dX9_product_9 (by decide) (fun c9 => False.elim (by revert c9; decide +kernel)) (fun _ => ?_)
  refine lv_iload hx hb dX9_product_12 (lv_at hl 1 rfl) ?_
  refine lv_aload_n hx hb dX9_product_14 rfl (lv_at hl 2 rfl) ?_
  refine lv_iload hx hb dX9_product_15 (lv_at hl 0 rfl) ?_
  refine xa_aald (b := h 201) hx hb hK hP 0 3 rfl rfl rfl (by omega) (by decide) (if_pos (by omega)) dX9_product_17 ?_
  refine lv_iload_n hx hb dX9_product_18 rfl (lv_at hl 4 rfl) ?_
  refine xa_iald hx hb hK hP 1 0 rfl rfl (by omega) (by decide) dX9_product_19 ?_
  refine xt_i (y := nI 0) (by decide +kernel) ?_
  refine lv_aload_n hx hb dX9_product_20 rfl (lv_at hl 2 rfl) ?_
  refine lv_iload hx hb dX9_product_21 (lv_at hl 0 rfl) ?_
  refine xa_aald (b := h 201) hx hb hK hP 0 3 rfl rfl rfl (by omega) (by decide) (if_pos (by omega)) dX9_product_23 ?_
  refine lv_iload_n hx hb dX9_product_24 rfl (lv_at hl 5 rfl) ?_
  refine xa_iald hx hb hK hP 1 0 rfl rfl (by omega) (by decide) dX9_product_25 ?_
  refine xt_i (y := nI 0) (by decide +kernel) ?_
  refine lv_imul hx hb dX9_product_26 ?_
  refine xt_i (y := nI 0) (by decide +kernel) ?_
  refine lv_iadd hx hb dX9_product_27 ?_
  refine xt_i (y := nI 0) (by decide +kernel) ?_
  refine lv_istore (lv' := [(4, .int (nI 0)), (5, .int (nI 0)), (0, .ref (h 200)), (1, .int (nI 2)), (2, .int (nI 0)), (3, .int (nI 1))]) hx hb dX9_product_28 hl (by decide) rfl (fun ls hl => ?_)
  refine lv_iinc (v := nI 1) (lv' := [(5, .int (nI 1)), (4, .int (nI 0)), (0, .ref (h 200)), (1, .int (nI 2)), (2, .int (nI 0)), (3, .int (nI 1))]) hx hb dX9_product_30 hl (k := 1) rfl (by decide +kernel) (by decide) rfl (fun ls hl => ?_)
  refine lv_goto (tgt := 6) hx hb dX9_product_33 (by decide) ?_
  refine lv_iload hx hb dX9_product_6 (lv_at hl 0 rfl) ?_
  refine lv_iload_n hx hb dX9_product_8 rfl (lv_at hl 3 rfl) ?_
  refine lv_icmp_ge (tgt := 36) hx hb dX9_product_9 (by decide) (fun c9 => False.elim (by revert c9; decide +kernel)) (fun _ => ?_)
  refine lv_iload hx hb dX9_product_12 (lv_at hl 1 rfl) ?_
  refine lv_aload_n hx hb dX9_product_14 rfl (lv_at hl 2 rfl) ?_
  refine lv_iload hx hb dX9_product_15 (lv_at hl 0 rfl) ?_
  refine xa_aald (b := h 202) hx hb hK hP 0 3 rfl rfl rfl (by omega) (by decide) (if_pos (by omega)) dX9_product_17 ?_
  refine lv_iload_n hx hb dX9_product_18 rfl (lv_at hl 4 rfl) ?_
  refine xa_iald hx hb hK hP 2 0 rfl rfl (by omega) (by decide) dX9_product_19 ?_
  refine xt_i (y := nI 0) (by decide +kernel) ?_
  refine lv_aload_n hx hb dX9_product_20 rfl (lv_at hl 2 rfl) ?_
  refine lv_iload hx hb dX9_product_21 (lv_at hl 0 rfl) ?_
  refine xa_aald (b := h 202) hx hb hK hP 0 3 rfl rfl rfl (by omega) (by decide) (if_pos (by omega)) dX9_product_23 ?_
  refine lv_iload_n hx hb dX9_product_24 rfl (lv_at hl 5 rfl) ?_
  refine xa_iald hx hb hK hP 2 0 rfl rfl (by omega) (by decide) dX9_product_25 ?_
  refine xt_i (y := nI 0) (by decide +kernel) ?_
  refine lv_imul hx hb dX9_product_26 ?_
  refine xt_i (y := nI 0) (by decide +kernel) ?_
  refine lv_iadd hx hb dX9_product_27 ?_
  refine xt_i (y := nI 0) (by decide +kernel) ?_
  refine lv_istore (lv' := [(4, .int (nI 0)), (5, .int (nI 1)), (0, .ref (h 200)), (1, .int (nI 2)), (2, .int (nI 0)), (3, .int (nI 1))]) hx hb dX9_product_28 hl (by decide) rfl (fun ls hl => ?_)
  refine lv_iinc (v := nI 2) (lv' := [(5, .int (nI 2)), (4, .int (nI 0)), (0, .ref (h 200)), (1, .int (nI 2)), (2, .int (nI 0)), (3, .int (nI 1))]) hx hb dX9_product_30 hl (k := 1) rfl (by decide +kernel) (by decide) rfl (fun ls hl => ?_)
  refine lv_goto (tgt := 6) hx hb dX9_product_33 (by decide) ?_
  refine lv_iload hx hb dX9_product_6 (lv_at hl 0 rfl) ?_
  refine lv_iload_n hx hb dX9_product_8 rfl (lv_at hl 3 rfl) ?_
  refine lv_icmp_ge (tgt := 36) hx hb dX9_product_9 (by decide) (fun _ => ?_) (fun c9 => False.elim (by revert c9; decide +kernel))
  refine lv_iload hx hb dX9_product_36 (lv_at hl 1 rfl) ?_
  exact xr_i (v := (nI 0)) hx hb hr hlocks hK hS dX9_product_38 (qI_47, fL, fA, fQ, qG_40, fJ) ⟨rfl, rfl⟩ hP hD
set_option maxHeartbeats 4000000 in
set_option maxRecDepth 100000 in
theorem a_X9_product_53 (l : Launch) (dC : Nat → ClassId) (dI : Nat → Nat → Nat) (h : Nat → Nat) (cs : Nat → ClassId) (sz : Nat) (I : Nat → Int32) (L : Nat → Int64) (A : Nat → Nat → Int32) (Q : Nat → Nat → Int64) (G : Nat → Nat → Nat → Int32) (J : Nat → Nat → Nat → Int64) : Met l yX9_product wsX9_product ({ frames := 0, cells := 0, slots := 0, locals := 0 }) (va_Pc [.ref (h 200), .int (nI 2), .int (nI 1), .int (nI 0)] (xPre (dC, dI) (wD_43 h cs qI_47 fL fA fQ qG_40 fJ) (tysA cs) sz)) (va_Qi (fun (r : Int32) (u : CS) => (r = nI 0) ∧ u = (qI_47, fL, fA, fQ, qG_40, fJ)) (xB (dC, dI) (tysA cs) (va_A (wD_43 h cs qI_47 fL fA fQ qG_40 fJ) sz) (fun u : CS => wD_43 h cs u.1 u.2.1 u.2.2.1 u.2.2.2.1 u.2.2.2.2.1 u.2.2.2.2.2)) (va_A (wD_43 h cs qI_47 fL fA fQ qG_40 fJ) sz)) 0 0 (va_A (wD_43 h cs qI_47 fL fA fQ qG_40 fJ) sz) := by
  refine Met.ofW (cc := cX9_product) (maxL := 6) (ret := (some .int)) (by decide) rfl ?_
  intro p e s m args below meth c s₁ B hml hv
  obtain ⟨rfl, hsz, hP, hK, hD0, hN⟩ := hv
  have hx := B.exec
  have hb := B.bytes
  have hr := B.returns
  have hts := atoms_spec (ws := wsX9_product) B.pre
  have hown : s.vm.findClass RX9 = some m.cls := findClass_of_methodNamed B.named
  have hlocks := B.notSynchronized
  subst hsz
  have hD := hD0.self (sz := s.heap.size)
  generalize hAe : va_A (wD_43 h cs qI_47 fL fA fQ qG_40 fJ) s.heap.size = A0 at hD ⊢
  have hA : ∀ q : Nat, s.heap.size ≤ q → A0 q := fun q h => by rw [← hAe]; exact Or.inr h
  have hl := lv_entry ([.ref (h 200), .int (nI 2), .int (nI 1), .int (nI 0)]) (n := 6) (Nat.le_of_ble_eq_true rfl)
  rw [lg_entry_eq]
  generalize (lg_sl ([.ref (h 200), .int (nI 2), .int (nI 1), .int (nI 0)]) ++ List.replicate (6 - (lg_sl ([.ref (h 200), .int (nI 2), .int (nI 1), .int (nI 0)])).length) Slot.unset).toArray = ls at hl ⊢
  have hl : lv_has ls 6 [(0, .ref (h 200)), (1, .int (nI 2)), (2, .int (nI 1)), (3, .int (nI 0))] := hl
  generalize hH : s.heap = H at hP ⊢
  have hS : va_S A0 s.heap H [] := by rw [← hH]; exact va_S.rf
  refine lv_iconst (v := nI 0) hx hb dX9_product_0 (by decide) ?_
  refine lv_istore (lv' := [(4, .int (nI 0)), (0, .ref (h 200)), (1, .int (nI 2)), (2, .int (nI 1)), (3, .int (nI 0))]) hx hb dX9_product_1 hl (by decide) rfl (fun ls hl => ?_)
  refine lv_iconst (v := nI 0) hx hb dX9_product_3 (by decide) ?_
  refine lv_istore (lv' := [(5, .int (nI 0)), (4, .int (nI 0)), (0, .ref (h 200)), (1, .int (nI 2)), (2, .int (nI 1)), (3, .int (nI 0))]) hx hb dX9_product_4 hl (by decide) rfl (fun ls hl => ?_)
  refine lv_iload hx hb dX9_product_6 (lv_at hl 0 rfl) ?_
  refine lv_iload_n hx hb dX9_product_8 rfl (lv_at hl 3 rfl) ?_
  refine lv_icmp_ge (tgt := 36) hx hb dX9_product_9 (by decide) (fun c9 => False.elim (by revert c9; decide +kernel)) (fun _ => ?_)
  refine lv_iload hx hb dX9_product_12 (lv_at hl 1 rfl) ?_
  refine lv_aload_n hx hb dX9_product_14 rfl (lv_at hl 2 rfl) ?_
  refine lv_iload hx hb dX9_product_15 (lv_at hl 0 rfl) ?_
  refine xa_aald (b := h 201) hx hb hK hP 0 3 rfl rfl rfl (by omega) (by decide) (if_pos (by omega)) dX9_product_17 ?_
  refine lv_iload_n hx hb dX9_product_18 rfl (lv_at hl 4 rfl) ?_
  refine xa_iald hx hb hK hP 1 0 rfl rfl (by omega) (by decide) dX9_product_19 ?_
  refine xt_i (y := nI 0) (by decide +kernel) ?_
  refine lv_aload_n hx hb dX9_product_20 rfl (lv_at hl 2 rfl) ?_
  refine lv_iload hx hb dX9_product_21 (lv_at hl 0 rfl) ?_
  refine xa_aald (b := h 201) hx hb hK hP 0 3 rfl rfl rfl (by omega) (by decide) (if_pos (by omega)) dX9_product_23 ?_
  refine lv_iload_n hx hb dX9_product_24 rfl (lv_at hl 5 rfl) ?_
  refine xa_iald hx hb hK hP 1 0 rfl rfl (by omega) (by decide) dX9_product_25 ?_
  refine xt_i (y := nI 0) (by decide +kernel) ?_
  refine lv_imul hx hb dX9_product_26 ?_
  refine xt_i (y := nI 0) (by decide +kernel) ?_
  refine lv_iadd hx hb dX9_product_27 ?_
  refine xt_i (y := nI 0) (by decide +kernel) ?_
  refine lv_istore (lv' := [(4, .int (nI 0)), (5, .int (nI 0)), (0, .ref (h 200)), (1, .int (nI 2)), (2, .int (nI 1)), (3, .int (nI 0))]) hx hb dX9_product_28 hl (by decide) rfl (fun ls hl => ?_)
  refine lv_iinc (v := nI 1) (lv' := [(5, .int (nI 1)), (4, .int (nI 0)), (0, .ref (h 200)), (1, .int (nI 2)), (2, .int (nI 1)), (3, .int (nI 0))]) hx hb dX9_product_30 hl (k := 1) rfl (by decide +kernel) (by decide) rfl (fun ls hl => ?_)
  refine lv_goto (tgt := 6) hx hb dX9_product_33 (by decide) ?_
  refine lv_iload hx hb dX9_product_6 (lv_at hl 0 rfl) ?_
  refine lv_iload_n hx hb dX9_product_8 rfl (lv_at hl 3 rfl) ?_
  refine lv_icmp_ge (tgt := 36) hx hb dX9_product_9 (by decide) (fun c9 => False.elim (by revert c9; decide +kernel)) (fun _ => ?_)
  refine lv_iload hx hb dX9_product_12 (lv_at hl 1 rfl) ?_
  refine lv_aload_n hx hb dX9_product_14 rfl (lv_at hl 2 rfl) ?_
  refine lv_iload hx hb dX9_product_15 (lv_at hl 0 rfl) ?_
  refine xa_aald (b := h 202) hx hb hK hP 0 3 rfl rfl rfl (by omega) (by decide) (if_pos (by omega)) dX9_product_17 ?_
  refine lv_iload_n hx hb dX9_product_18 rfl (lv_at hl 4 rfl) ?_
  refine xa_iald hx hb hK hP 2 0 rfl rfl (by omega) (by decide) dX9_product_19 ?_
  refine xt_i (y := nI 0) (by decide +kernel) ?_
  refine lv_aload_n hx hb dX9_product_20 rfl (lv_at hl 2 rfl) ?_
  refine lv_iload hx hb dX9_product_21 (lv_at hl 0 rfl) ?_
  refine xa_aald (b := h 202) hx hb hK hP 0 3 rfl rfl rfl (by omega) (by decide) (if_pos (by omega)) dX9_product_23 ?_
  refine lv_iload_n hx hb dX9_product_24 rfl (lv_at hl 5 rfl) ?_
  refine xa_iald hx hb hK hP 2 0 rfl rfl (by omega) (by decide) dX9_product_25 ?_
  refine xt_i (y := nI 0) (by decide +kernel) ?_
  refine lv_imul hx hb dX9_product_26 ?_
  refine xt_i (y := nI 0) (by decide +kernel) ?_
  refine lv_iadd hx hb dX9_product_27 ?_
  refine xt_i (y := nI 0) (by decide +kernel) ?_
  refine lv_istore (lv' := [(4, .int (nI 0)), (5, .int (nI 1)), (0, .ref (h 200)), (1, .int (nI 2)), (2, .int (nI 1)), (3, .int (nI 0))]) hx hb dX9_product_28 hl (by decide) rfl (fun ls hl => ?_)
  refine lv_iinc (v := nI 2) (lv' := [(5, .int (nI 2)), (4, .int (nI 0)), (0, .ref (h 200)), (1, .int (nI 2)), (2, .int (nI 1)), (3, .int (nI 0))]) hx hb dX9_product_30 hl (k := 1) rfl (by decide +kernel) (by decide) rfl (fun ls hl => ?_)
  refine lv_goto (tgt := 6) hx hb dX9_product_33 (by decide) ?_
  refine lv_iload hx hb dX9_product_6 (lv_at hl 0 rfl) ?_
  refine lv_iload_n hx hb dX9_product_8 rfl (lv_at hl 3 rfl) ?_
  refine lv_icmp_ge (tgt := 36) hx hb dX9_product_9 (by decide) (fun _ => ?_) (fun c9 => False.elim (by revert c9; decide +kernel))
  refine lv_iload hx hb dX9_product_36 (lv_at hl 1 rfl) ?_
  exact xr_i (v := (nI 0)) hx hb hr hlocks hK hS dX9_product_38 (qI_47, fL, fA, fQ, qG_40, fJ) ⟨rfl, rfl⟩ hP hD
set_option maxHeartbeats 4000000 in
set_option maxRecDepth 100000 in
theorem a_X9_product_54 (l : Launch) (dC : Nat → ClassId) (dI : Nat → Nat → Nat) (h : Nat → Nat) (cs : Nat → ClassId) (sz : Nat) (I : Nat → Int32) (L : Nat → Int64) (A : Nat → Nat → Int32) (Q : Nat → Nat → Int64) (G : Nat → Nat → Nat → Int32) (J : Nat → Nat → Nat → Int64) : Met l yX9_product wsX9_product ({ frames := 0, cells := 0, slots := 0, locals := 0 }) (va_Pc [.ref (h 200), .int (nI 2), .int (nI 1), .int (nI 1)] (xPre (dC, dI) (wD_43 h cs qI_47 fL fA fQ qG_40 fJ) (tysA cs) sz)) (va_Qi (fun (r : Int32) (u : CS) => (r = nI 0) ∧ u = (qI_47, fL, fA, fQ, qG_40, fJ)) (xB (dC, dI) (tysA cs) (va_A (wD_43 h cs qI_47 fL fA fQ qG_40 fJ) sz) (fun u : CS => wD_43 h cs u.1 u.2.1 u.2.2.1 u.2.2.2.1 u.2.2.2.2.1 u.2.2.2.2.2)) (va_A (wD_43 h cs qI_47 fL fA fQ qG_40 fJ) sz)) 0 0 (va_A (wD_43 h cs qI_47 fL fA fQ qG_40 fJ) sz) := by
  refine Met.ofW (cc := cX9_product) (maxL := 6) (ret := (some .int)) (by decide) rfl ?_
  intro p e s m args below meth c s₁ B hml hv
  obtain ⟨rfl, hsz, hP, hK, hD0, hN⟩ := hv
  have hx := B.exec
  have hb := B.bytes
  have hr := B.returns
  have hts := atoms_spec (ws := wsX9_product) B.pre
  have hown : s.vm.findClass RX9 = some m.cls := findClass_of_methodNamed B.named
  have hlocks := B.notSynchronized
  subst hsz
  have hD := hD0.self (sz := s.heap.size)
  generalize hAe : va_A (wD_43 h cs qI_47 fL fA fQ qG_40 fJ) s.heap.size = A0 at hD ⊢
  have hA : ∀ q : Nat, s.heap.size ≤ q → A0 q := fun q h => by rw [← hAe]; exact Or.inr h
  have hl := lv_entry ([.ref (h 200), .int (nI 2), .int (nI 1), .int (nI 1)]) (n := 6) (Nat.le_of_ble_eq_true rfl)
  rw [lg_entry_eq]
  generalize (lg_sl ([.ref (h 200), .int (nI 2), .int (nI 1), .int (nI 1)]) ++ List.replicate (6 - (lg_sl ([.ref (h 200), .int (nI 2), .int (nI 1), .int (nI 1)])).length) Slot.unset).toArray = ls at hl ⊢
  have hl : lv_has ls 6 [(0, .ref (h 200)), (1, .int (nI 2)), (2, .int (nI 1)), (3, .int (nI 1))] := hl
  generalize hH : s.heap = H at hP ⊢
  have hS : va_S A0 s.heap H [] := by rw [← hH]; exact va_S.rf
  refine lv_iconst (v := nI 0) hx hb dX9_product_0 (by decide) ?_
  refine lv_istore (lv' := [(4, .int (nI 0)), (0, .ref (h 200)), (1, .int (nI 2)), (2, .int (nI 1)), (3, .int (nI 1))]) hx hb dX9_product_1 hl (by decide) rfl (fun ls hl => ?_)
  refine lv_iconst (v := nI 0) hx hb dX9_product_3 (by decide) ?_
  refine lv_istore (lv' := [(5, .int (nI 0)), (4, .int (nI 0)), (0, .ref (h 200)), (1, .int (nI 2)), (2, .int (nI 1)), (3, .int (nI 1))]) hx hb dX9_product_4 hl (by decide) rfl (fun ls hl => ?_)
  refine lv_iload hx hb dX9_product_6 (lv_at hl 0 rfl) ?_
  refine lv_iload_n hx hb dX9_product_8 rfl (lv_at hl 3 rfl) ?_
  refine lv_icmp_ge (tgt := 36) hx hb dX9_product_9 (by decide) (fun c9 => False.elim (by revert c9; decide +kernel)) (fun _ => ?_)
  refine lv_iload hx hb dX9_product_12 (lv_at hl 1 rfl) ?_
  refine lv_aload_n hx hb dX9_product_14 rfl (lv_at hl 2 rfl) ?_
  refine lv_iload hx hb dX9_product_15 (lv_at hl 0 rfl) ?_
  refine xa_aald (b := h 201) hx hb hK hP 0 3 rfl rfl rfl (by omega) (by decide) (if_pos (by omega)) dX9_product_17 ?_
  refine lv_iload_n hx hb dX9_product_18 rfl (lv_at hl 4 rfl) ?_
  refine xa_iald hx hb hK hP 1 0 rfl rfl (by omega) (by decide) dX9_product_19 ?_
  refine xt_i (y := nI 0) (by decide +kernel) ?_
  refine lv_aload_n hx hb dX9_product_20 rfl (lv_at hl 2 rfl) ?_
  refine lv_iload hx hb dX9_product_21 (lv_at hl 0 rfl) ?_
  refine xa_aald (b := h 201) hx hb hK hP 0 3 rfl rfl rfl (by omega) (by decide) (if_pos (by omega)) dX9_product_23 ?_
  refine lv_iload_n hx hb dX9_product_24 rfl (lv_at hl 5 rfl) ?_
  refine xa_iald hx hb hK hP 1 0 rfl rfl (by omega) (by decide) dX9_product_25 ?_
  refine xt_i (y := nI 0) (by decide +kernel) ?_
  refine lv_imul hx hb dX9_product_26 ?_
  refine xt_i (y := nI 0) (by decide +kernel) ?_
  refine lv_iadd hx hb dX9_product_27 ?_
  refine xt_i (y := nI 0) (by decide +kernel) ?_
  refine lv_istore (lv' := [(4, .int (nI 0)), (5, .int (nI 0)), (0, .ref (h 200)), (1, .int (nI 2)), (2, .int (nI 1)), (3, .int (nI 1))]) hx hb dX9_product_28 hl (by decide) rfl (fun ls hl => ?_)
  refine lv_iinc (v := nI 1) (lv' := [(5, .int (nI 1)), (4, .int (nI 0)), (0, .ref (h 200)), (1, .int (nI 2)), (2, .int (nI 1)), (3, .int (nI 1))]) hx hb dX9_product_30 hl (k := 1) rfl (by decide +kernel) (by decide) rfl (fun ls hl => ?_)
  refine lv_goto (tgt := 6) hx hb dX9_product_33 (by decide) ?_
  refine lv_iload hx hb dX9_product_6 (lv_at hl 0 rfl) ?_
  refine lv_iload_n hx hb dX9_product_8 rfl (lv_at hl 3 rfl) ?_
  refine lv_icmp_ge (tgt := 36) hx hb dX9_product_9 (by decide) (fun c9 => False.elim (by revert c9; decide +kernel)) (fun _ => ?_)
  refine lv_iload hx hb dX9_product_12 (lv_at hl 1 rfl) ?_
  refine lv_aload_n hx hb dX9_product_14 rfl (lv_at hl 2 rfl) ?_
  refine lv_iload hx hb dX9_product_15 (lv_at hl 0 rfl) ?_
  refine xa_aald (b := h 202) hx hb hK hP 0 3 rfl rfl rfl (by omega) (by decide) (if_pos (by omega)) dX9_product_17 ?_
  refine lv_iload_n hx hb dX9_product_18 rfl (lv_at hl 4 rfl) ?_
  refine xa_iald hx hb hK hP 2 0 rfl rfl (by omega) (by decide) dX9_product_19 ?_
  refine xt_i (y := nI 0) (by decide +kernel) ?_
  refine lv_aload_n hx hb dX9_product_20 rfl (lv_at hl 2 rfl) ?_
  refine lv_iload hx hb dX9_product_21 (lv_at hl 0 rfl) ?_
  refine xa_aald (b := h 202) hx hb hK hP 0 3 rfl rfl rfl (by omega) (by decide) (if_pos (by omega)) dX9_product_23 ?_
  refine lv_iload_n hx hb dX9_product_24 rfl (lv_at hl 5 rfl) ?_
  refine xa_iald hx hb hK hP 2 0 rfl rfl (by omega) (by decide) dX9_product_25 ?_
  refine xt_i (y := nI 0) (by decide +kernel) ?_
  refine lv_imul hx hb dX9_product_26 ?_
  refine xt_i (y := nI 0) (by decide +kernel) ?_
  refine lv_iadd hx hb dX9_product_27 ?_
  refine xt_i (y := nI 0) (by decide +kernel) ?_
  refine lv_istore (lv' := [(4, .int (nI 0)), (5, .int (nI 1)), (0, .ref (h 200)), (1, .int (nI 2)), (2, .int (nI 1)), (3, .int (nI 1))]) hx hb dX9_product_28 hl (by decide) rfl (fun ls hl => ?_)
  refine lv_iinc (v := nI 2) (lv' := [(5, .int (nI 2)), (4, .int (nI 0)), (0, .ref (h 200)), (1, .int (nI 2)), (2, .int (nI 1)), (3, .int (nI 1))]) hx hb dX9_product_30 hl (k := 1) rfl (by decide +kernel) (by decide) rfl (fun ls hl => ?_)
  refine lv_goto (tgt := 6) hx hb dX9_product_33 (by decide) ?_
  refine lv_iload hx hb dX9_product_6 (lv_at hl 0 rfl) ?_
  refine lv_iload_n hx hb dX9_product_8 rfl (lv_at hl 3 rfl) ?_
  refine lv_icmp_ge (tgt := 36) hx hb dX9_product_9 (by decide) (fun _ => ?_) (fun c9 => False.elim (by revert c9; decide +kernel))
  refine lv_iload hx hb dX9_product_36 (lv_at hl 1 rfl) ?_
  exact xr_i (v := (nI 0)) hx hb hr hlocks hK hS dX9_product_38 (qI_47, fL, fA, fQ, qG_40, fJ) ⟨rfl, rfl⟩ hP hD
set_option maxHeartbeats 4000000 in
set_option maxRecDepth 100000 in
theorem a_X2_determinant_55 (l : Launch) (dC : Nat → ClassId) (dI : Nat → Nat → Nat) (h : Nat → Nat) (cs : Nat → ClassId) (sz : Nat) (I : Nat → Int32) (L : Nat → Int64) (A : Nat → Nat → Int32) (Q : Nat → Nat → Int64) (G : Nat → Nat → Nat → Int32) (J : Nat → Nat → Nat → Int64) : Met l yX2_determinant wsX2_determinant ({ frames := 5, cells := 0, slots := 0, locals := 200 }) (va_Pc [.ref (h 180), .int (nI 2), .int (nI 0), .int (nI 3)] (xPre (dC, dI) (wD_16 h cs qI_47 fL fA fQ qG_40 fJ) (tysA cs) sz)) (va_Ql (fun (r : Int64) (u : CS) => (r = (0 : Int64)) ∧ u = (qI_47, fL, fA, fQ, qG_40, fJ)) (xB (dC, dI) (tysA cs) (va_A (wD_16 h cs qI_47 fL fA fQ qG_40 fJ) sz) (fun u : CS => wD_16 h cs u.1 u.2.1 u.2.2.1 u.2.2.2.1 u.2.2.2.2.1 u.2.2.2.2.2)) (va_A (wD_16 h cs qI_47 fL fA fQ qG_40 fJ) sz)) 0 0 (va_A (wD_16 h cs qI_47 fL fA fQ qG_40 fJ) sz) := by
  refine Met.ofW (cc := cX2_determinant) (maxL := 9) (ret := (some .long)) (by decide) rfl ?_
  intro p e s m args below meth c s₁ B hml hv
  obtain ⟨rfl, hsz, hP, hK, hD0, hN⟩ := hv
  have hx := B.exec
  have hb := B.bytes
  have hr := B.returns
  have hts := atoms_spec (ws := wsX2_determinant) B.pre
  have hown : s.vm.findClass RX2 = some m.cls := findClass_of_methodNamed B.named
  have hlocks := B.notSynchronized
  subst hsz
  have hD := hD0.self (sz := s.heap.size)
  generalize hAe : va_A (wD_16 h cs qI_47 fL fA fQ qG_40 fJ) s.heap.size = A0 at hD ⊢
  have hA : ∀ q : Nat, s.heap.size ≤ q → A0 q := fun q h => by rw [← hAe]; exact Or.inr h
  have hl := lv_entry ([.ref (h 180), .int (nI 2), .int (nI 0), .int (nI 3)]) (n := 9) (Nat.le_of_ble_eq_true rfl)
  rw [lg_entry_eq]
  generalize (lg_sl ([.ref (h 180), .int (nI 2), .int (nI 0), .int (nI 3)]) ++ List.replicate (9 - (lg_sl ([.ref (h 180), .int (nI 2), .int (nI 0), .int (nI 3)])).length) Slot.unset).toArray = ls at hl ⊢
  have hl : lv_has ls 9 [(0, .ref (h 180)), (1, .int (nI 2)), (2, .int (nI 0)), (3, .int (nI 3))] := hl
  generalize hH : s.heap = H at hP ⊢
  have hS : va_S A0 s.heap H [] := by rw [← hH]; exact va_S.rf
  refine lv_iload_n hx hb dX2_determinant_0 rfl (lv_at hl 2 rfl) ?_
  refine lv_iload_n hx hb dX2_determinant_1 rfl (lv_at hl 1 rfl) ?_
  refine lv_icmp_lt (tgt := 7) hx hb dX2_determinant_2 (by decide) (fun _ => ?_) (fun c9 => False.elim (by revert c9; decide +kernel))
  refine lv_lconst (v := 0) hx hb dX2_determinant_7 rfl ?_
  refine lv_lstore (lv' := [(4, .long (0 : Int64)), (0, .ref (h 180)), (1, .int (nI 2)), (2, .int (nI 0)), (3, .int (nI 3))]) hx hb dX2_determinant_8 hl (by decide) rfl (fun ls hl => ?_)
  refine lv_lconst (v := 1) hx hb dX2_determinant_10 rfl ?_
  refine lv_lstore (lv' := [(6, .long (1 : Int64)), (4, .long (0 : Int64)), (0, .ref (h 180)), (1, .int (nI 2)), (2, .int (nI 0)), (3, .int (nI 3))]) hx hb dX2_determinant_11 hl (by decide) rfl (fun ls hl => ?_)
  refine lv_iconst (v := nI 0) hx hb dX2_determinant_13 (by decide) ?_
  refine lv_istore (lv' := [(8, .int (nI 0)), (6, .long (1 : Int64)), (4, .long (0 : Int64)), (0, .ref (h 180)), (1, .int (nI 2)), (2, .int (nI 0)), (3, .int (nI 3))]) hx hb dX2_determinant_14 hl (by decide) rfl (fun ls hl => ?_)
  refine lv_iload hx hb dX2_determinant_16 (lv_at hl 0 rfl) ?_
  refine lv_iload_n hx hb dX2_determinant_18 rfl (lv_at hl 4 rfl) ?_
  refine lv_icmp_ge (tgt := 87) hx hb dX2_determinant_19 (by decide) (fun c9 => False.elim (by revert c9; decide +kernel)) (fun _ => ?_)
  refine lv_iload_n hx hb dX2_determinant_22 rfl (lv_at hl 6 rfl) ?_
  refine lv_iload hx hb dX2_determinant_23 (lv_at hl 0 rfl) ?_
  refine lv_ishr hx hb dX2_determinant_25 ?_
  refine xt_i (y := nI 3) (by decide +kernel) ?_
  refine lv_iconst (v := nI 1) hx hb dX2_determinant_26 (by decide) ?_
  refine lv_iand hx hb dX2_determinant_27 ?_
  refine xt_i (y := nI 1) (by decide +kernel) ?_
  refine lv_if_ne (tgt := 34) hx hb dX2_determinant_28 (by decide) (fun _ => ?_) (fun c9 => False.elim (by revert c9; decide +kernel))
  refine lv_aload_n hx hb dX2_determinant_34 rfl (lv_at hl 3 rfl) ?_
  refine lv_iload_n hx hb dX2_determinant_35 rfl (lv_at hl 5 rfl) ?_
  refine xa_aald (b := h 181) hx hb hK hP 0 4 rfl rfl rfl (by omega) (by decide) (if_pos (by omega)) dX2_determinant_36 ?_
  refine lv_iload hx hb dX2_determinant_37 (lv_at hl 0 rfl) ?_
  refine xa_lald hx hb hK hP 1 1 rfl rfl (by omega) (by decide) dX2_determinant_39 ?_
  refine xt_l (y := (0 : Int64)) (by decide +kernel) ?_
  refine lv_lconst (v := 0) hx hb dX2_determinant_40 rfl ?_
  refine xl_eq (tgt := 76) hx hb dX2_determinant_41 dX2_determinant_42 (by decide) (fun _ => ?_) (fun c9 => False.elim (by revert c9; decide +kernel))
  refine lv_lload hx hb dX2_determinant_76 (lv_at hl 1 rfl) ?_
  refine lv_lneg hx hb dX2_determinant_78 ?_
  refine xt_l (y := (-1 : Int64)) (by decide +kernel) ?_
  refine lv_lstore (lv' := [(6, .long (-1 : Int64)), (8, .int (nI 0)), (4, .long (0 : Int64)), (0, .ref (h 180)), (1, .int (nI 2)), (2, .int (nI 0)), (3, .int (nI 3))]) hx hb dX2_determinant_79 hl (by decide) rfl (fun ls hl => ?_)
  refine lv_iinc (v := nI 1) (lv' := [(8, .int (nI 1)), (6, .long (-1 : Int64)), (4, .long (0 : Int64)), (0, .ref (h 180)), (1, .int (nI 2)), (2, .int (nI 0)), (3, .int (nI 3))]) hx hb dX2_determinant_81 hl (k := 1) rfl (by decide +kernel) (by decide) rfl (fun ls hl => ?_)
  refine lv_goto (tgt := 16) hx hb dX2_determinant_84 (by decide) ?_
  refine lv_iload hx hb dX2_determinant_16 (lv_at hl 0 rfl) ?_
  refine lv_iload_n hx hb dX2_determinant_18 rfl (lv_at hl 4 rfl) ?_
  refine lv_icmp_ge (tgt := 87) hx hb dX2_determinant_19 (by decide) (fun c9 => False.elim (by revert c9; decide +kernel)) (fun _ => ?_)
  refine lv_iload_n hx hb dX2_determinant_22 rfl (lv_at hl 6 rfl) ?_
  refine lv_iload hx hb dX2_determinant_23 (lv_at hl 0 rfl) ?_
  refine lv_ishr hx hb dX2_determinant_25 ?_
  refine xt_i (y := nI 1) (by decide +kernel) ?_
  refine lv_iconst (v := nI 1) hx hb dX2_determinant_26 (by decide) ?_
  refine lv_iand hx hb dX2_determinant_27 ?_
  refine xt_i (y := nI 1) (by decide +kernel) ?_
  refine lv_if_ne (tgt := 34) hx hb dX2_determinant_28 (by decide) (fun _ => ?_) (fun c9 => False.elim (by revert c9; decide +kernel))
  refine lv_aload_n hx hb dX2_determinant_34 rfl (lv_at hl 3 rfl) ?_
  refine lv_iload_n hx hb dX2_determinant_35 rfl (lv_at hl 5 rfl) ?_
  refine xa_aald (b := h 181) hx hb hK hP 0 4 rfl rfl rfl (by omega) (by decide) (if_pos (by omega)) dX2_determinant_36 ?_
  refine lv_iload hx hb dX2_determinant_37 (lv_at hl 0 rfl) ?_
  refine xa_lald hx hb hK hP 1 1 rfl rfl (by omega) (by decide) dX2_determinant_39 ?_
  refine xt_l (y := (0 : Int64)) (by decide +kernel) ?_
  refine lv_lconst (v := 0) hx hb dX2_determinant_40 rfl ?_
  refine xl_eq (tgt := 76) hx hb dX2_determinant_41 dX2_determinant_42 (by decide) (fun _ => ?_) (fun c9 => False.elim (by revert c9; decide +kernel))
  refine lv_lload hx hb dX2_determinant_76 (lv_at hl 1 rfl) ?_
  refine lv_lneg hx hb dX2_determinant_78 ?_
  refine xt_l (y := (1 : Int64)) (by decide +kernel) ?_
  refine lv_lstore (lv' := [(6, .long (1 : Int64)), (8, .int (nI 1)), (4, .long (0 : Int64)), (0, .ref (h 180)), (1, .int (nI 2)), (2, .int (nI 0)), (3, .int (nI 3))]) hx hb dX2_determinant_79 hl (by decide) rfl (fun ls hl => ?_)
  refine lv_iinc (v := nI 2) (lv' := [(8, .int (nI 2)), (6, .long (1 : Int64)), (4, .long (0 : Int64)), (0, .ref (h 180)), (1, .int (nI 2)), (2, .int (nI 0)), (3, .int (nI 3))]) hx hb dX2_determinant_81 hl (k := 1) rfl (by decide +kernel) (by decide) rfl (fun ls hl => ?_)
  refine lv_goto (tgt := 16) hx hb dX2_determinant_84 (by decide) ?_
  refine lv_iload hx hb dX2_determinant_16 (lv_at hl 0 rfl) ?_
  refine lv_iload_n hx hb dX2_determinant_18 rfl (lv_at hl 4 rfl) ?_
  refine lv_icmp_ge (tgt := 87) hx hb dX2_determinant_19 (by decide) (fun _ => ?_) (fun c9 => False.elim (by revert c9; decide +kernel))
  refine lv_lload hx hb dX2_determinant_87 (lv_at hl 2 rfl) ?_
  exact xr_l (v := (0 : Int64)) hx hb hr hlocks hK hS dX2_determinant_89 (qI_47, fL, fA, fQ, qG_40, fJ) ⟨rfl, rfl⟩ hP hD
set_option maxHeartbeats 4000000 in
set_option maxRecDepth 100000 in
theorem a_X2_swapRight_56 (l : Launch) (dC : Nat → ClassId) (dI : Nat → Nat → Nat) (h : Nat → Nat) (cs : Nat → ClassId) (sz : Nat) (I : Nat → Int32) (L : Nat → Int64) (A : Nat → Nat → Int32) (Q : Nat → Nat → Int64) (G : Nat → Nat → Nat → Int32) (J : Nat → Nat → Nat → Int64) : Met l yX2_swapRight wsX2_swapRight ({ frames := 0, cells := 0, slots := 0, locals := 0 }) (va_Pc [.ref (h 106), .int (nI 0), .int (nI 2)] (xPre (dC, dI) (wD_18 h cs qI_47 fL fA fQ qG_40 fJ) (tysA cs) sz)) (va_Qv (fun (u : CS) => (True) ∧ u = (qI_47, fL, fA, fQ, qG_40, fJ)) (xB (dC, dI) (tysA cs) (va_A (wD_18 h cs qI_47 fL fA fQ qG_40 fJ) sz) (fun u : CS => wD_18 h cs u.1 u.2.1 u.2.2.1 u.2.2.2.1 u.2.2.2.2.1 u.2.2.2.2.2)) (va_A (wD_18 h cs qI_47 fL fA fQ qG_40 fJ) sz)) 0 0 (va_A (wD_18 h cs qI_47 fL fA fQ qG_40 fJ) sz) := by
  refine Met.ofW (cc := cX2_swapRight) (maxL := 6) (ret := none) (by decide) rfl ?_
  intro p e s m args below meth c s₁ B hml hv
  obtain ⟨rfl, hsz, hP, hK, hD0, hN⟩ := hv
  have hx := B.exec
  have hb := B.bytes
  have hr := B.returns
  have hts := atoms_spec (ws := wsX2_swapRight) B.pre
  have hown : s.vm.findClass RX2 = some m.cls := findClass_of_methodNamed B.named
  have hlocks := B.notSynchronized
  subst hsz
  have hD := hD0.self (sz := s.heap.size)
  generalize hAe : va_A (wD_18 h cs qI_47 fL fA fQ qG_40 fJ) s.heap.size = A0 at hD ⊢
  have hA : ∀ q : Nat, s.heap.size ≤ q → A0 q := fun q h => by rw [← hAe]; exact Or.inr h
  have hl := lv_entry ([.ref (h 106), .int (nI 0), .int (nI 2)]) (n := 6) (Nat.le_of_ble_eq_true rfl)
  rw [lg_entry_eq]
  generalize (lg_sl ([.ref (h 106), .int (nI 0), .int (nI 2)]) ++ List.replicate (6 - (lg_sl ([.ref (h 106), .int (nI 0), .int (nI 2)])).length) Slot.unset).toArray = ls at hl ⊢
  have hl : lv_has ls 6 [(0, .ref (h 106)), (1, .int (nI 0)), (2, .int (nI 2))] := hl
  generalize hH : s.heap = H at hP ⊢
  have hS : va_S A0 s.heap H [] := by rw [← hH]; exact va_S.rf
  have hinX2 : ∀ w ∈ wsX20, w ∈ wsX2_swapRight := by decide +kernel
  refine lv_iconst (v := nI 0) hx hb dX2_swapRight_0 (by decide) ?_
  refine lv_istore_n (lv' := [(3, .int (nI 0)), (0, .ref (h 106)), (1, .int (nI 0)), (2, .int (nI 2))]) hx hb dX2_swapRight_1 rfl hl (by decide) rfl (fun ls hl => ?_)
  refine lv_iload_n hx hb dX2_swapRight_2 rfl (lv_at hl 0 rfl) ?_
  refine lv_iload_n hx hb dX2_swapRight_3 rfl (lv_at hl 3 rfl) ?_
  refine lv_icmp_ge (tgt := 45) hx hb dX2_swapRight_4 (by decide) (fun c9 => False.elim (by revert c9; decide +kernel)) (fun _ => ?_)
  refine lv_aload_n hx hb dX2_swapRight_7 rfl (lv_at hl 1 rfl) ?_
  refine va_get (D := (dC, dI)) (ci := 2) (v := .ref (h 180)) (C := RX2) (T := TX2) (N := 5) hx hb hts hinX2 hown hK hP 0 rfl rfl 0 (by decide) (hts (.fieldLink RX2 11 "MixedWords$Least" "square" "[[J") (by decide +kernel)) (fun _ h9 => h9) rfl dX2_swapRight_8 ?_
  refine lv_iload_n hx hb dX2_swapRight_11 rfl (lv_at hl 0 rfl) ?_
  refine xa_aald (b := h 181) hx hb hK hP 1 4 rfl rfl rfl (by omega) (by decide) (if_pos (by omega)) dX2_swapRight_12 ?_
  refine lv_iload_n hx hb dX2_swapRight_13 rfl (lv_at hl 2 rfl) ?_
  refine xa_lald hx hb hK hP 2 1 rfl rfl (by omega) (by decide) dX2_swapRight_14 ?_
  refine xt_l (y := (0 : Int64)) (by decide +kernel) ?_
  refine lv_lstore (lv' := [(4, .long (0 : Int64)), (3, .int (nI 0)), (0, .ref (h 106)), (1, .int (nI 0)), (2, .int (nI 2))]) hx hb dX2_swapRight_15 hl (by decide) rfl (fun ls hl => ?_)
  refine lv_aload_n hx hb dX2_swapRight_17 rfl (lv_at hl 2 rfl) ?_
  refine va_get (D := (dC, dI)) (ci := 2) (v := .ref (h 180)) (C := RX2) (T := TX2) (N := 5) hx hb hts hinX2 hown hK hP 0 rfl rfl 0 (by decide) (hts (.fieldLink RX2 11 "MixedWords$Least" "square" "[[J") (by decide +kernel)) (fun _ h9 => h9) rfl dX2_swapRight_18 ?_
  refine lv_iload_n hx hb dX2_swapRight_21 rfl (lv_at hl 1 rfl) ?_
  refine xa_aald (b := h 181) hx hb hK hP 1 4 rfl rfl rfl (by omega) (by decide) (if_pos (by omega)) dX2_swapRight_22 ?_
  refine lv_iload_n hx hb dX2_swapRight_23 rfl (lv_at hl 3 rfl) ?_
  refine lv_aload_n hx hb dX2_swapRight_24 rfl (lv_at hl 2 rfl) ?_
  refine va_get (D := (dC, dI)) (ci := 2) (v := .ref (h 185)) (C := RX2) (T := TX2) (N := 5) hx hb hts hinX2 hown hK hP 0 rfl rfl 1 (by decide) (hts (.fieldLink RX2 16 "MixedWords$Least" "right" "[J") (by decide +kernel)) (fun _ h9 => h9) rfl dX2_swapRight_25 ?_
  refine lv_iload_n hx hb dX2_swapRight_28 rfl (lv_at hl 1 rfl) ?_
  refine xa_lald hx hb hK hP 6 1 rfl rfl (by omega) (by decide) dX2_swapRight_29 ?_
  refine xt_l (y := (0 : Int64)) (by decide +kernel) ?_
  refine xa_lastS hx hb hK hP hD hS 2 1 rfl rfl (by omega) (by decide) (by decide +kernel) dX2_swapRight_30 (fun H locs hP hD hS => ?_)
  refine lv_aload_n hx hb dX2_swapRight_31 rfl (lv_at hl 2 rfl) ?_
  refine va_get (D := (dC, dI)) (ci := 2) (v := .ref (h 185)) (C := RX2) (T := TX2) (N := 5) hx hb hts hinX2 hown hK hP 0 rfl rfl 1 (by decide) (hts (.fieldLink RX2 16 "MixedWords$Least" "right" "[J") (by decide +kernel)) (fun _ h9 => h9) rfl dX2_swapRight_32 ?_
  refine lv_iload_n hx hb dX2_swapRight_35 rfl (lv_at hl 1 rfl) ?_
  refine lv_lload hx hb dX2_swapRight_36 (lv_at hl 0 rfl) ?_
  refine xa_lastS hx hb hK hP hD hS 6 1 rfl rfl (by omega) (by decide) (by decide +kernel) dX2_swapRight_38 (fun H locs hP hD hS => ?_)
  refine lv_iinc (v := nI 1) (lv' := [(3, .int (nI 1)), (4, .long (0 : Int64)), (0, .ref (h 106)), (1, .int (nI 0)), (2, .int (nI 2))]) hx hb dX2_swapRight_39 hl (k := 1) rfl (by decide +kernel) (by decide) rfl (fun ls hl => ?_)
  refine lv_goto (tgt := 2) hx hb dX2_swapRight_42 (by decide) ?_
  refine lv_iload_n hx hb dX2_swapRight_2 rfl (lv_at hl 0 rfl) ?_
  refine lv_iload_n hx hb dX2_swapRight_3 rfl (lv_at hl 4 rfl) ?_
  refine lv_icmp_ge (tgt := 45) hx hb dX2_swapRight_4 (by decide) (fun c9 => False.elim (by revert c9; decide +kernel)) (fun _ => ?_)
  refine lv_aload_n hx hb dX2_swapRight_7 rfl (lv_at hl 2 rfl) ?_
  refine va_get (D := (dC, dI)) (ci := 2) (v := .ref (h 180)) (C := RX2) (T := TX2) (N := 5) hx hb hts hinX2 hown hK hP 0 rfl rfl 0 (by decide) (hts (.fieldLink RX2 11 "MixedWords$Least" "square" "[[J") (by decide +kernel)) (fun _ h9 => h9) rfl dX2_swapRight_8 ?_
  refine lv_iload_n hx hb dX2_swapRight_11 rfl (lv_at hl 0 rfl) ?_
  refine xa_aald (b := h 182) hx hb hK hP 1 4 rfl rfl rfl (by omega) (by decide) (if_pos (by omega)) dX2_swapRight_12 ?_
  refine lv_iload_n hx hb dX2_swapRight_13 rfl (lv_at hl 3 rfl) ?_
  refine xa_lald hx hb hK hP 3 1 rfl rfl (by omega) (by decide) dX2_swapRight_14 ?_
  refine xt_l (y := (0 : Int64)) (by decide +kernel) ?_
  refine lv_lstore (lv' := [(4, .long (0 : Int64)), (3, .int (nI 1)), (0, .ref (h 106)), (1, .int (nI 0)), (2, .int (nI 2))]) hx hb dX2_swapRight_15 hl (by decide) rfl (fun ls hl => ?_)
  refine lv_aload_n hx hb dX2_swapRight_17 rfl (lv_at hl 2 rfl) ?_
  refine va_get (D := (dC, dI)) (ci := 2) (v := .ref (h 180)) (C := RX2) (T := TX2) (N := 5) hx hb hts hinX2 hown hK hP 0 rfl rfl 0 (by decide) (hts (.fieldLink RX2 11 "MixedWords$Least" "square" "[[J") (by decide +kernel)) (fun _ h9 => h9) rfl dX2_swapRight_18 ?_
  refine lv_iload_n hx hb dX2_swapRight_21 rfl (lv_at hl 1 rfl) ?_
  refine xa_aald (b := h 182) hx hb hK hP 1 4 rfl rfl rfl (by omega) (by decide) (if_pos (by omega)) dX2_swapRight_22 ?_
  refine lv_iload_n hx hb dX2_swapRight_23 rfl (lv_at hl 3 rfl) ?_
  refine lv_aload_n hx hb dX2_swapRight_24 rfl (lv_at hl 2 rfl) ?_
  refine va_get (D := (dC, dI)) (ci := 2) (v := .ref (h 185)) (C := RX2) (T := TX2) (N := 5) hx hb hts hinX2 hown hK hP 0 rfl rfl 1 (by decide) (hts (.fieldLink RX2 16 "MixedWords$Least" "right" "[J") (by decide +kernel)) (fun _ h9 => h9) rfl dX2_swapRight_25 ?_
  refine lv_iload_n hx hb dX2_swapRight_28 rfl (lv_at hl 1 rfl) ?_
  refine xa_lald hx hb hK hP 6 1 rfl rfl (by omega) (by decide) dX2_swapRight_29 ?_
  refine xt_l (y := (0 : Int64)) (by decide +kernel) ?_
  refine xa_lastS hx hb hK hP hD hS 3 1 rfl rfl (by omega) (by decide) (by decide +kernel) dX2_swapRight_30 (fun H locs hP hD hS => ?_)
  refine lv_aload_n hx hb dX2_swapRight_31 rfl (lv_at hl 2 rfl) ?_
  refine va_get (D := (dC, dI)) (ci := 2) (v := .ref (h 185)) (C := RX2) (T := TX2) (N := 5) hx hb hts hinX2 hown hK hP 0 rfl rfl 1 (by decide) (hts (.fieldLink RX2 16 "MixedWords$Least" "right" "[J") (by decide +kernel)) (fun _ h9 => h9) rfl dX2_swapRight_32 ?_
  refine lv_iload_n hx hb dX2_swapRight_35 rfl (lv_at hl 1 rfl) ?_
  refine lv_lload hx hb dX2_swapRight_36 (lv_at hl 0 rfl) ?_
  refine xa_lastS hx hb hK hP hD hS 6 1 rfl rfl (by omega) (by decide) (by decide +kernel) dX2_swapRight_38 (fun H locs hP hD hS => ?_)
  refine lv_iinc (v := nI 2) (lv' := [(3, .int (nI 2)), (4, .long (0 : Int64)), (0, .ref (h 106)), (1, .int (nI 0)), (2, .int (nI 2))]) hx hb dX2_swapRight_39 hl (k := 1) rfl (by decide +kernel) (by decide) rfl (fun ls hl => ?_)
  refine lv_goto (tgt := 2) hx hb dX2_swapRight_42 (by decide) ?_
  refine lv_iload_n hx hb dX2_swapRight_2 rfl (lv_at hl 0 rfl) ?_
  refine lv_iload_n hx hb dX2_swapRight_3 rfl (lv_at hl 4 rfl) ?_
  refine lv_icmp_ge (tgt := 45) hx hb dX2_swapRight_4 (by decide) (fun _ => ?_) (fun c9 => False.elim (by revert c9; decide +kernel))
  exact xr_v hx hb hr hlocks hK hS dX2_swapRight_45 (qI_47, fL, fA, fQ, qG_40, fJ) ⟨trivial, rfl⟩ hP hD
set_option maxHeartbeats 4000000 in
set_option maxRecDepth 100000 in
theorem a_X2_swapRight_57 (l : Launch) (dC : Nat → ClassId) (dI : Nat → Nat → Nat) (h : Nat → Nat) (cs : Nat → ClassId) (sz : Nat) (I : Nat → Int32) (L : Nat → Int64) (A : Nat → Nat → Int32) (Q : Nat → Nat → Int64) (G : Nat → Nat → Nat → Int32) (J : Nat → Nat → Nat → Int64) : Met l yX2_swapRight wsX2_swapRight ({ frames := 0, cells := 0, slots := 0, locals := 0 }) (va_Pc [.ref (h 106), .int (nI 1), .int (nI 2)] (xPre (dC, dI) (wD_18 h cs qI_47 fL fA fQ qG_40 fJ) (tysA cs) sz)) (va_Qv (fun (u : CS) => (True) ∧ u = (qI_47, fL, fA, fQ, qG_40, fJ)) (xB (dC, dI) (tysA cs) (va_A (wD_18 h cs qI_47 fL fA fQ qG_40 fJ) sz) (fun u : CS => wD_18 h cs u.1 u.2.1 u.2.2.1 u.2.2.2.1 u.2.2.2.2.1 u.2.2.2.2.2)) (va_A (wD_18 h cs qI_47 fL fA fQ qG_40 fJ) sz)) 0 0 (va_A (wD_18 h cs qI_47 fL fA fQ qG_40 fJ) sz) := by
  refine Met.ofW (cc := cX2_swapRight) (maxL := 6) (ret := none) (by decide) rfl ?_
  intro p e s m args below meth c s₁ B hml hv
  obtain ⟨rfl, hsz, hP, hK, hD0, hN⟩ := hv
  have hx := B.exec
  have hb := B.bytes
  have hr := B.returns
  have hts := atoms_spec (ws := wsX2_swapRight) B.pre
  have hown : s.vm.findClass RX2 = some m.cls := findClass_of_methodNamed B.named
  have hlocks := B.notSynchronized
  subst hsz
  have hD := hD0.self (sz := s.heap.size)
  generalize hAe : va_A (wD_18 h cs qI_47 fL fA fQ qG_40 fJ) s.heap.size = A0 at hD ⊢
  have hA : ∀ q : Nat, s.heap.size ≤ q → A0 q := fun q h => by rw [← hAe]; exact Or.inr h
  have hl := lv_entry ([.ref (h 106), .int (nI 1), .int (nI 2)]) (n := 6) (Nat.le_of_ble_eq_true rfl)
  rw [lg_entry_eq]
  generalize (lg_sl ([.ref (h 106), .int (nI 1), .int (nI 2)]) ++ List.replicate (6 - (lg_sl ([.ref (h 106), .int (nI 1), .int (nI 2)])).length) Slot.unset).toArray = ls at hl ⊢
  have hl : lv_has ls 6 [(0, .ref (h 106)), (1, .int (nI 1)), (2, .int (nI 2))] := hl
  generalize hH : s.heap = H at hP ⊢
  have hS : va_S A0 s.heap H [] := by rw [← hH]; exact va_S.rf
  have hinX2 : ∀ w ∈ wsX20, w ∈ wsX2_swapRight := by decide +kernel
  refine lv_iconst (v := nI 0) hx hb dX2_swapRight_0 (by decide) ?_
  refine lv_istore_n (lv' := [(3, .int (nI 0)), (0, .ref (h 106)), (1, .int (nI 1)), (2, .int (nI 2))]) hx hb dX2_swapRight_1 rfl hl (by decide) rfl (fun ls hl => ?_)
  refine lv_iload_n hx hb dX2_swapRight_2 rfl (lv_at hl 0 rfl) ?_
  refine lv_iload_n hx hb dX2_swapRight_3 rfl (lv_at hl 3 rfl) ?_
  refine lv_icmp_ge (tgt := 45) hx hb dX2_swapRight_4 (by decide) (fun c9 => False.elim (by revert c9; decide +kernel)) (fun _ => ?_)
  refine lv_aload_n hx hb dX2_swapRight_7 rfl (lv_at hl 1 rfl) ?_
  refine va_get (D := (dC, dI)) (ci := 2) (v := .ref (h 180)) (C := RX2) (T := TX2) (N := 5) hx hb hts hinX2 hown hK hP 0 rfl rfl 0 (by decide) (hts (.fieldLink RX2 11 "MixedWords$Least" "square" "[[J") (by decide +kernel)) (fun _ h9 => h9) rfl dX2_swapRight_8 ?_
  refine lv_iload_n hx hb dX2_swapRight_11 rfl (lv_at hl 0 rfl) ?_
  refine xa_aald (b := h 181) hx hb hK hP 1 4 rfl rfl rfl (by omega) (by decide) (if_pos (by omega)) dX2_swapRight_12 ?_
  refine lv_iload_n hx hb dX2_swapRight_13 rfl (lv_at hl 2 rfl) ?_
  refine xa_lald hx hb hK hP 2 1 rfl rfl (by omega) (by decide) dX2_swapRight_14 ?_
  refine xt_l (y := (0 : Int64)) (by decide +kernel) ?_
  refine lv_lstore (lv' := [(4, .long (0 : Int64)), (3, .int (nI 0)), (0, .ref (h 106)), (1, .int (nI 1)), (2, .int (nI 2))]) hx hb dX2_swapRight_15 hl (by decide) rfl (fun ls hl => ?_)
  refine lv_aload_n hx hb dX2_swapRight_17 rfl (lv_at hl 2 rfl) ?_
  refine va_get (D := (dC, dI)) (ci := 2) (v := .ref (h 180)) (C := RX2) (T := TX2) (N := 5) hx hb hts hinX2 hown hK hP 0 rfl rfl 0 (by decide) (hts (.fieldLink RX2 11 "MixedWords$Least" "square" "[[J") (by decide +kernel)) (fun _ h9 => h9) rfl dX2_swapRight_18 ?_
  refine lv_iload_n hx hb dX2_swapRight_21 rfl (lv_at hl 1 rfl) ?_
  refine xa_aald (b := h 181) hx hb hK hP 1 4 rfl rfl rfl (by omega) (by decide) (if_pos (by omega)) dX2_swapRight_22 ?_
  refine lv_iload_n hx hb dX2_swapRight_23 rfl (lv_at hl 3 rfl) ?_
  refine lv_aload_n hx hb dX2_swapRight_24 rfl (lv_at hl 2 rfl) ?_
  refine va_get (D := (dC, dI)) (ci := 2) (v := .ref (h 185)) (C := RX2) (T := TX2) (N := 5) hx hb hts hinX2 hown hK hP 0 rfl rfl 1 (by decide) (hts (.fieldLink RX2 16 "MixedWords$Least" "right" "[J") (by decide +kernel)) (fun _ h9 => h9) rfl dX2_swapRight_25 ?_
  refine lv_iload_n hx hb dX2_swapRight_28 rfl (lv_at hl 1 rfl) ?_
  refine xa_lald hx hb hK hP 6 1 rfl rfl (by omega) (by decide) dX2_swapRight_29 ?_
  refine xt_l (y := (0 : Int64)) (by decide +kernel) ?_
  refine xa_lastS hx hb hK hP hD hS 2 1 rfl rfl (by omega) (by decide) (by decide +kernel) dX2_swapRight_30 (fun H locs hP hD hS => ?_)
  refine lv_aload_n hx hb dX2_swapRight_31 rfl (lv_at hl 2 rfl) ?_
  refine va_get (D := (dC, dI)) (ci := 2) (v := .ref (h 185)) (C := RX2) (T := TX2) (N := 5) hx hb hts hinX2 hown hK hP 0 rfl rfl 1 (by decide) (hts (.fieldLink RX2 16 "MixedWords$Least" "right" "[J") (by decide +kernel)) (fun _ h9 => h9) rfl dX2_swapRight_32 ?_
  refine lv_iload_n hx hb dX2_swapRight_35 rfl (lv_at hl 1 rfl) ?_
  refine lv_lload hx hb dX2_swapRight_36 (lv_at hl 0 rfl) ?_
  refine xa_lastS hx hb hK hP hD hS 6 1 rfl rfl (by omega) (by decide) (by decide +kernel) dX2_swapRight_38 (fun H locs hP hD hS => ?_)
  refine lv_iinc (v := nI 1) (lv' := [(3, .int (nI 1)), (4, .long (0 : Int64)), (0, .ref (h 106)), (1, .int (nI 1)), (2, .int (nI 2))]) hx hb dX2_swapRight_39 hl (k := 1) rfl (by decide +kernel) (by decide) rfl (fun ls hl => ?_)
  refine lv_goto (tgt := 2) hx hb dX2_swapRight_42 (by decide) ?_
  refine lv_iload_n hx hb dX2_swapRight_2 rfl (lv_at hl 0 rfl) ?_
  refine lv_iload_n hx hb dX2_swapRight_3 rfl (lv_at hl 4 rfl) ?_
  refine lv_icmp_ge (tgt := 45) hx hb dX2_swapRight_4 (by decide) (fun c9 => False.elim (by revert c9; decide +kernel)) (fun _ => ?_)
  refine lv_aload_n hx hb dX2_swapRight_7 rfl (lv_at hl 2 rfl) ?_
  refine va_get (D := (dC, dI)) (ci := 2) (v := .ref (h 180)) (C := RX2) (T := TX2) (N := 5) hx hb hts hinX2 hown hK hP 0 rfl rfl 0 (by decide) (hts (.fieldLink RX2 11 "MixedWords$Least" "square" "[[J") (by decide +kernel)) (fun _ h9 => h9) rfl dX2_swapRight_8 ?_
  refine lv_iload_n hx hb dX2_swapRight_11 rfl (lv_at hl 0 rfl) ?_
  refine xa_aald (b := h 182) hx hb hK hP 1 4 rfl rfl rfl (by omega) (by decide) (if_pos (by omega)) dX2_swapRight_12 ?_
  refine lv_iload_n hx hb dX2_swapRight_13 rfl (lv_at hl 3 rfl) ?_
  refine xa_lald hx hb hK hP 3 1 rfl rfl (by omega) (by decide) dX2_swapRight_14 ?_
  refine xt_l (y := (0 : Int64)) (by decide +kernel) ?_
  refine lv_lstore (lv' := [(4, .long (0 : Int64)), (3, .int (nI 1)), (0, .ref (h 106)), (1, .int (nI 1)), (2, .int (nI 2))]) hx hb dX2_swapRight_15 hl (by decide) rfl (fun ls hl => ?_)
  refine lv_aload_n hx hb dX2_swapRight_17 rfl (lv_at hl 2 rfl) ?_
  refine va_get (D := (dC, dI)) (ci := 2) (v := .ref (h 180)) (C := RX2) (T := TX2) (N := 5) hx hb hts hinX2 hown hK hP 0 rfl rfl 0 (by decide) (hts (.fieldLink RX2 11 "MixedWords$Least" "square" "[[J") (by decide +kernel)) (fun _ h9 => h9) rfl dX2_swapRight_18 ?_
  refine lv_iload_n hx hb dX2_swapRight_21 rfl (lv_at hl 1 rfl) ?_
  refine xa_aald (b := h 182) hx hb hK hP 1 4 rfl rfl rfl (by omega) (by decide) (if_pos (by omega)) dX2_swapRight_22 ?_
  refine lv_iload_n hx hb dX2_swapRight_23 rfl (lv_at hl 3 rfl) ?_
  refine lv_aload_n hx hb dX2_swapRight_24 rfl (lv_at hl 2 rfl) ?_
  refine va_get (D := (dC, dI)) (ci := 2) (v := .ref (h 185)) (C := RX2) (T := TX2) (N := 5) hx hb hts hinX2 hown hK hP 0 rfl rfl 1 (by decide) (hts (.fieldLink RX2 16 "MixedWords$Least" "right" "[J") (by decide +kernel)) (fun _ h9 => h9) rfl dX2_swapRight_25 ?_
  refine lv_iload_n hx hb dX2_swapRight_28 rfl (lv_at hl 1 rfl) ?_
  refine xa_lald hx hb hK hP 6 1 rfl rfl (by omega) (by decide) dX2_swapRight_29 ?_
  refine xt_l (y := (0 : Int64)) (by decide +kernel) ?_
  refine xa_lastS hx hb hK hP hD hS 3 1 rfl rfl (by omega) (by decide) (by decide +kernel) dX2_swapRight_30 (fun H locs hP hD hS => ?_)
  refine lv_aload_n hx hb dX2_swapRight_31 rfl (lv_at hl 2 rfl) ?_
  refine va_get (D := (dC, dI)) (ci := 2) (v := .ref (h 185)) (C := RX2) (T := TX2) (N := 5) hx hb hts hinX2 hown hK hP 0 rfl rfl 1 (by decide) (hts (.fieldLink RX2 16 "MixedWords$Least" "right" "[J") (by decide +kernel)) (fun _ h9 => h9) rfl dX2_swapRight_32 ?_
  refine lv_iload_n hx hb dX2_swapRight_35 rfl (lv_at hl 1 rfl) ?_
  refine lv_lload hx hb dX2_swapRight_36 (lv_at hl 0 rfl) ?_
  refine xa_lastS hx hb hK hP hD hS 6 1 rfl rfl (by omega) (by decide) (by decide +kernel) dX2_swapRight_38 (fun H locs hP hD hS => ?_)
  refine lv_iinc (v := nI 2) (lv' := [(3, .int (nI 2)), (4, .long (0 : Int64)), (0, .ref (h 106)), (1, .int (nI 1)), (2, .int (nI 2))]) hx hb dX2_swapRight_39 hl (k := 1) rfl (by decide +kernel) (by decide) rfl (fun ls hl => ?_)
  refine lv_goto (tgt := 2) hx hb dX2_swapRight_42 (by decide) ?_
  refine lv_iload_n hx hb dX2_swapRight_2 rfl (lv_at hl 0 rfl) ?_
  refine lv_iload_n hx hb dX2_swapRight_3 rfl (lv_at hl 4 rfl) ?_
  refine lv_icmp_ge (tgt := 45) hx hb dX2_swapRight_4 (by decide) (fun _ => ?_) (fun c9 => False.elim (by revert c9; decide +kernel))
  exact xr_v hx hb hr hlocks hK hS dX2_swapRight_45 (qI_47, fL, fA, fQ, qG_40, fJ) ⟨trivial, rfl⟩ hP hD
set_option maxHeartbeats 4000000 in
set_option maxRecDepth 100000 in
theorem a_X2_solve_50 (l : Launch) (dC : Nat → ClassId) (dI : Nat → Nat → Nat) (h : Nat → Nat) (cs : Nat → ClassId) (sz : Nat) (I : Nat → Int32) (L : Nat → Int64) (A : Nat → Nat → Int32) (Q : Nat → Nat → Int64) (G : Nat → Nat → Nat → Int32) (J : Nat → Nat → Nat → Int64) : Met l yX2_solve wsX2_solve ({ frames := 6, cells := 0, slots := 0, locals := 228 }) (va_Pc [.ref (h 106), .ref (h 200), .ref (h 211), .int (nI 2), .int (nI 2)] (xPre (dC, dI) (wD_49 h cs qI_47 fL fA fQ qG_40 fJ) (tysA cs) sz)) (va_Qv (fun (u : CS) => (True) ∧ u = (qI_47, fL, fA, fQ, qG_40, fJ)) (xB (dC, dI) (tysA cs) (va_A (wD_49 h cs qI_47 fL fA fQ qG_40 fJ) sz) (fun u : CS => wD_49 h cs u.1 u.2.1 u.2.2.1 u.2.2.2.1 u.2.2.2.2.1 u.2.2.2.2.2)) (va_A (wD_49 h cs qI_47 fL fA fQ qG_40 fJ) sz)) 0 0 (va_A (wD_49 h cs qI_47 fL fA fQ qG_40 fJ) sz) := by
  refine Met.ofW (cc := cX2_solve) (maxL := 7) (ret := none) (by decide) rfl ?_
  intro p e s m args below meth c s₁ B hml hv
  obtain ⟨rfl, hsz, hP, hK, hD0, hN⟩ := hv
  have hx := B.exec
  have hb := B.bytes
  have hr := B.returns
  have hts := atoms_spec (ws := wsX2_solve) B.pre
  have hown : s.vm.findClass RX2 = some m.cls := findClass_of_methodNamed B.named
  have hlocks := B.notSynchronized
  subst hsz
  have hD := hD0.self (sz := s.heap.size)
  generalize hAe : va_A (wD_49 h cs qI_47 fL fA fQ qG_40 fJ) s.heap.size = A0 at hD ⊢
  have hA : ∀ q : Nat, s.heap.size ≤ q → A0 q := fun q h => by rw [← hAe]; exact Or.inr h
  have hl := lv_entry ([.ref (h 106), .ref (h 200), .ref (h 211), .int (nI 2), .int (nI 2)]) (n := 7) (Nat.le_of_ble_eq_true rfl)
  rw [lg_entry_eq]
  generalize (lg_sl ([.ref (h 106), .ref (h 200), .ref (h 211), .int (nI 2), .int (nI 2)]) ++ List.replicate (7 - (lg_sl ([.ref (h 106), .ref (h 200), .ref (h 211), .int (nI 2), .int (nI 2)])).length) Slot.unset).toArray = ls at hl ⊢
  have hl : lv_has ls 7 [(0, .ref (h 106)), (1, .ref (h 200)), (2, .ref (h 211)), (3, .int (nI 2)), (4, .int (nI 2))] := hl
  generalize hH : s.heap = H at hP ⊢
  have hS : va_S A0 s.heap H [] := by rw [← hH]; exact va_S.rf
  have hinX2 : ∀ w ∈ wsX20, w ∈ wsX2_solve := by decide +kernel
  refine lv_iconst (v := nI 0) hx hb dX2_solve_0 (by decide) ?_
  refine lv_istore (lv' := [(5, .int (nI 0)), (0, .ref (h 106)), (1, .ref (h 200)), (2, .ref (h 211)), (3, .int (nI 2)), (4, .int (nI 2))]) hx hb dX2_solve_1 hl (by decide) rfl (fun ls hl => ?_)
  refine lv_iload hx hb dX2_solve_3 (lv_at hl 0 rfl) ?_
  refine lv_iload hx hb dX2_solve_5 (lv_at hl 5 rfl) ?_
  refine lv_icmp_ge (tgt := 98) hx hb dX2_solve_7 (by decide) (fun c9 => False.elim (by revert c9; decide +kernel)) (fun _ => ?_)
  refine lv_aload_n hx hb dX2_solve_10 rfl (lv_at hl 1 rfl) ?_
  refine va_get (D := (dC, dI)) (ci := 2) (v := .ref (h 185)) (C := RX2) (T := TX2) (N := 5) hx hb hts hinX2 hown hK hP 0 rfl rfl 1 (by decide) (hts (.fieldLink RX2 16 "MixedWords$Least" "right" "[J") (by decide +kernel)) (fun _ h9 => h9) rfl dX2_solve_11 ?_
  refine lv_iload hx hb dX2_solve_14 (lv_at hl 0 rfl) ?_
  refine lv_lconst (v := 0) hx hb dX2_solve_16 rfl ?_
  refine xa_lastS hx hb hK hP hD hS 6 1 rfl rfl (by omega) (by decide) (by decide +kernel) dX2_solve_17 (fun H locs hP hD hS => ?_)
  refine lv_iconst (v := nI 0) hx hb dX2_solve_18 (by decide) ?_
  refine lv_istore (lv' := [(6, .int (nI 0)), (5, .int (nI 0)), (0, .ref (h 106)), (1, .ref (h 200)), (2, .ref (h 211)), (3, .int (nI 2)), (4, .int (nI 2))]) hx hb dX2_solve_19 hl (by decide) rfl (fun ls hl => ?_)
  refine lv_iload hx hb dX2_solve_21 (lv_at hl 0 rfl) ?_
  refine lv_iload_n hx hb dX2_solve_23 rfl (lv_at hl 5 rfl) ?_
  refine lv_icmp_ge (tgt := 56) hx hb dX2_solve_24 (by decide) (fun c9 => False.elim (by revert c9; decide +kernel)) (fun _ => ?_)
  refine lv_aload_n hx hb dX2_solve_27 rfl (lv_at hl 2 rfl) ?_
  refine va_get (D := (dC, dI)) (ci := 2) (v := .ref (h 185)) (C := RX2) (T := TX2) (N := 5) hx hb hts hinX2 hown hK hP 0 rfl rfl 1 (by decide) (hts (.fieldLink RX2 16 "MixedWords$Least" "right" "[J") (by decide +kernel)) (fun _ h9 => h9) rfl dX2_solve_28 ?_
  refine lv_iload hx hb dX2_solve_31 (lv_at hl 1 rfl) ?_
  refine lv_dup2_11 hx hb dX2_solve_33 rfl rfl ?_
  refine xa_lald hx hb hK hP 6 1 rfl rfl (by omega) (by decide) dX2_solve_34 ?_
  refine xt_l (y := (0 : Int64)) (by decide +kernel) ?_
  refine lv_aload_n hx hb dX2_solve_35 rfl (lv_at hl 3 rfl) ?_
  refine lv_iload hx hb dX2_solve_36 (lv_at hl 0 rfl) ?_
  refine xa_aald (b := h 201) hx hb hK hP 9 3 rfl rfl rfl (by omega) (by decide) (if_pos (by omega)) dX2_solve_38 ?_
  refine lv_iload hx hb dX2_solve_39 (lv_at hl 1 rfl) ?_
  refine xa_iald hx hb hK hP 10 0 rfl rfl (by omega) (by decide) dX2_solve_41 ?_
  refine xt_i (y := nI 0) (by decide +kernel) ?_
  refine lv_aload_n hx hb dX2_solve_42 rfl (lv_at hl 4 rfl) ?_
  refine lv_iload hx hb dX2_solve_43 (lv_at hl 0 rfl) ?_
  refine xa_iald hx hb hK hP 15 0 rfl rfl (by omega) (by decide) dX2_solve_45 ?_
  refine xt_i (y := nI 0) (by decide +kernel) ?_
  refine lv_imul hx hb dX2_solve_46 ?_
  refine xt_i (y := nI 0) (by decide +kernel) ?_
  refine lv_i2l (v := (0 : Int64)) hx hb dX2_solve_47 (by decide +kernel) ?_
  refine lv_ladd hx hb dX2_solve_48 ?_
  refine xt_l (y := (0 : Int64)) (by decide +kernel) ?_
  refine xa_lastS hx hb hK hP hD hS 6 1 rfl rfl (by omega) (by decide) (by decide +kernel) dX2_solve_49 (fun H locs hP hD hS => ?_)
  refine lv_iinc (v := nI 1) (lv' := [(6, .int (nI 1)), (5, .int (nI 0)), (0, .ref (h 106)), (1, .ref (h 200)), (2, .ref (h 211)), (3, .int (nI 2)), (4, .int (nI 2))]) hx hb dX2_solve_50 hl (k := 0) rfl (by decide +kernel) (by decide) rfl (fun ls hl => ?_)
  refine lv_goto (tgt := 21) hx hb dX2_solve_53 (by decide) ?_
  refine lv_iload hx hb dX2_solve_21 (lv_at hl 0 rfl) ?_
  refine lv_iload_n hx hb dX2_solve_23 rfl (lv_at hl 5 rfl) ?_
  refine lv_icmp_ge (tgt := 56) hx hb dX2_solve_24 (by decide) (fun c9 => False.elim (by revert c9; decide +kernel)) (fun _ => ?_)
  refine lv_aload_n hx hb dX2_solve_27 rfl (lv_at hl 2 rfl) ?_
  refine va_get (D := (dC, dI)) (ci := 2) (v := .ref (h 185)) (C := RX2) (T := TX2) (N := 5) hx hb hts hinX2 hown hK hP 0 rfl rfl 1 (by decide) (hts (.fieldLink RX2 16 "MixedWords$Least" "right" "[J") (by decide +kernel)) (fun _ h9 => h9) rfl dX2_solve_28 ?_
  refine lv_iload hx hb dX2_solve_31 (lv_at hl 1 rfl) ?_
  refine lv_dup2_11 hx hb dX2_solve_33 rfl rfl ?_
  refine xa_lald hx hb hK hP 6 1 rfl rfl (by omega) (by decide) dX2_solve_34 ?_
  refine xt_l (y := (0 : Int64)) (by decide +kernel) ?_
  refine lv_aload_n hx hb dX2_solve_35 rfl (lv_at hl 3 rfl) ?_
  refine lv_iload hx hb dX2_solve_36 (lv_at hl 0 rfl) ?_
  refine xa_aald (b := h 202) hx hb hK hP 9 3 rfl rfl rfl (by omega) (by decide) (if_pos (by omega)) dX2_solve_38 ?_
  refine lv_iload hx hb dX2_solve_39 (lv_at hl 1 rfl) ?_
  refine xa_iald hx hb hK hP 11 0 rfl rfl (by omega) (by decide) dX2_solve_41 ?_
  refine xt_i (y := nI 0) (by decide +kernel) ?_
  refine lv_aload_n hx hb dX2_solve_42 rfl (lv_at hl 4 rfl) ?_
  refine lv_iload hx hb dX2_solve_43 (lv_at hl 0 rfl) ?_
  refine xa_iald hx hb hK hP 15 0 rfl rfl (by omega) (by decide) dX2_solve_45 ?_
  refine xt_i (y := nI 0) (by decide +kernel) ?_
  refine lv_imul hx hb dX2_solve_46 ?_
  refine xt_i (y := nI 0) (by decide +kernel) ?_
  refine lv_i2l (v := (0 : Int64)) hx hb dX2_solve_47 (by decide +kernel) ?_
  refine lv_ladd hx hb dX2_solve_48 ?_
  refine xt_l (y := (0 : Int64)) (by decide +kernel) ?_
  refine xa_lastS hx hb hK hP hD hS 6 1 rfl rfl (by omega) (by decide) (by decide +kernel) dX2_solve_49 (fun H locs hP hD hS => ?_)
  refine lv_iinc (v := nI 2) (lv' := [(6, .int (nI 2)), (5, .int (nI 0)), (0, .ref (h 106)), (1, .ref (h 200)), (2, .ref (h 211)), (3, .int (nI 2)), (4, .int (nI 2))]) hx hb dX2_solve_50 hl (k := 0) rfl (by decide +kernel) (by decide) rfl (fun ls hl => ?_)
  refine lv_goto (tgt := 21) hx hb dX2_solve_53 (by decide) ?_
  refine lv_iload hx hb dX2_solve_21 (lv_at hl 0 rfl) ?_
  refine lv_iload_n hx hb dX2_solve_23 rfl (lv_at hl 5 rfl) ?_
  refine lv_icmp_ge (tgt := 56) hx hb dX2_solve_24 (by decide) (fun _ => ?_) (fun c9 => False.elim (by revert c9; decide +kernel))
  refine lv_iconst (v := nI 0) hx hb dX2_solve_56 (by decide) ?_
  refine lv_istore (lv' := [(6, .int (nI 0)), (5, .int (nI 0)), (0, .ref (h 106)), (1, .ref (h 200)), (2, .ref (h 211)), (3, .int (nI 2)), (4, .int (nI 2))]) hx hb dX2_solve_57 hl (by decide) rfl (fun ls hl => ?_)
  refine lv_iload hx hb dX2_solve_59 (lv_at hl 0 rfl) ?_
  refine lv_iload hx hb dX2_solve_61 (lv_at hl 6 rfl) ?_
  refine lv_icmp_ge (tgt := 92) hx hb dX2_solve_63 (by decide) (fun c9 => False.elim (by revert c9; decide +kernel)) (fun _ => ?_)
  refine lv_aload_n hx hb dX2_solve_66 rfl (lv_at hl 2 rfl) ?_
  refine va_get (D := (dC, dI)) (ci := 2) (v := .ref (h 180)) (C := RX2) (T := TX2) (N := 5) hx hb hts hinX2 hown hK hP 0 rfl rfl 0 (by decide) (hts (.fieldLink RX2 11 "MixedWords$Least" "square" "[[J") (by decide +kernel)) (fun _ h9 => h9) rfl dX2_solve_67 ?_
  refine lv_iload hx hb dX2_solve_70 (lv_at hl 1 rfl) ?_
  refine xa_aald (b := h 181) hx hb hK hP 1 4 rfl rfl rfl (by omega) (by decide) (if_pos (by omega)) dX2_solve_72 ?_
  refine lv_iload hx hb dX2_solve_73 (lv_at hl 0 rfl) ?_
  refine lv_aload_n hx hb dX2_solve_75 rfl (lv_at hl 3 rfl) ?_
  refine lv_iload_n hx hb dX2_solve_76 rfl (lv_at hl 5 rfl) ?_
  refine lv_iload hx hb dX2_solve_77 (lv_at hl 1 rfl) ?_
  refine lv_iload hx hb dX2_solve_79 (lv_at hl 0 rfl) ?_
  refine xj_i (wc := (wD_43 h cs qI_47 fL fA fQ qG_40 fJ)) (wr := [(h 106, .inr (2, [.ref (h 180), .ref (h 185), .ref (h 186), .ref (h 187), .long (fL 188)])), (h 180, .inl (cs 4, 4, .inr (.inr (.inr (.inr (fun i => if i < 4 then some (h (i + 181)) else none)))))), (h 181, .inl (cs 1, 4, .inr (.inl ((fJ 0) 0)))), (h 182, .inl (cs 1, 4, .inr (.inl ((fJ 0) 1)))), (h 183, .inl (cs 1, 4, .inr (.inl ((fJ 0) 2)))), (h 184, .inl (cs 1, 4, .inr (.inl ((fJ 0) 3)))), (h 185, .inl (cs 1, 4, .inr (.inl (fQ 185)))), (h 186, .inl (cs 0, 4, .inl (fA 186))), (h 187, .inl (cs 1, 4, .inr (.inl (fQ 187)))), (h 211, .inl (cs 0, 5, .inl (fA 211)))]) hP hD hS hA [9, 10, 11, 12, 13, 14] [0, 1, 2, 3, 4, 5, 6, 7, 8, 15] rfl rfl (by decide) (by decide) (va_runSN (As := [.ref (h 200), .int (nI 2), .int (nI 0), .int (nI 0)]) (rest := [.int (nI 0), .ref (h 181)]) ⟨hx, hb, hml, hown, hts⟩ (a_X9_product_51 l dC dI h cs H.size qI_47 fL fA fQ qG_40 fJ ) ⟨va_cnB (host := "MixedWords") 4 hts gX2_solve_X9_product_n40 rfl rfl rfl hN.2.2.2.2.2.1 (hts (.initialized RX9) (by decide +kernel)) (by decide +kernel) ⟨Nat.le_of_ble_eq_true rfl, Nat.le_of_ble_eq_true rfl⟩, hts (.static yX9_product) (by decide +kernel), trivial⟩ (xpS (wc := (wD_43 h cs qI_47 fL fA fQ qG_40 fJ)) hP hD hK hN [9, 10, 11, 12, 13, 14] rfl (by decide) _) rfl rfl hl.1 rfl (lv_room (Nat.le_of_ble_eq_true rfl)) dX2_solve_81 ⟨Nat.zero_le _, Nat.zero_le _⟩) (fun r_2 u_1 H locs hw hP hD hS => ?_)
  obtain ⟨hf_3, rfl⟩ := hw
  have hP : va_P (dC, dI) vwCl (wD_49 h cs qI_47 fL fA fQ qG_40 fJ) H := xP_sub hP [0, 1, 2, 3, 4, 5, 6, 7, 8, 10, 11, 12, 13, 14, 15, 9] rfl
  have hD : va_D A0 (wD_49 h cs qI_47 fL fA fQ qG_40 fJ) := hD.sub [0, 1, 2, 3, 4, 5, 6, 7, 8, 10, 11, 12, 13, 14, 15, 9] (by decide) rfl
  obtain rfl := hf_3
  refine lv_i2l (v := (0 : Int64)) hx hb dX2_solve_84 (by decide +kernel) ?_
  refine xa_lastS hx hb hK hP hD hS 2 1 rfl rfl (by omega) (by decide) (by decide +kernel) dX2_solve_85 (fun H locs hP hD hS => ?_)
  refine lv_iinc (v := nI 1) (lv' := [(6, .int (nI 1)), (5, .int (nI 0)), (0, .ref (h 106)), (1, .ref (h 200)), (2, .ref (h 211)), (3, .int (nI 2)), (4, .int (nI 2))]) hx hb dX2_solve_86 hl (k := 0) rfl (by decide +kernel) (by decide) rfl (fun ls hl => ?_)
  refine lv_goto (tgt := 59) hx hb dX2_solve_89 (by decide) ?_
  refine lv_iload hx hb dX2_solve_59 (lv_at hl 0 rfl) ?_
  refine lv_iload hx hb dX2_solve_61 (lv_at hl 6 rfl) ?_
  refine lv_icmp_ge (tgt := 92) hx hb dX2_solve_63 (by decide) (fun c9 => False.elim (by revert c9; decide +kernel)) (fun _ => ?_)
  refine lv_aload_n hx hb dX2_solve_66 rfl (lv_at hl 2 rfl) ?_
  refine va_get (D := (dC, dI)) (ci := 2) (v := .ref (h 180)) (C := RX2) (T := TX2) (N := 5) hx hb hts hinX2 hown hK hP 0 rfl rfl 0 (by decide) (hts (.fieldLink RX2 11 "MixedWords$Least" "square" "[[J") (by decide +kernel)) (fun _ h9 => h9) rfl dX2_solve_67 ?_
  refine lv_iload hx hb dX2_solve_70 (lv_at hl 1 rfl) ?_
  refine xa_aald (b := h 181) hx hb hK hP 1 4 rfl rfl rfl (by omega) (by decide) (if_pos (by omega)) dX2_solve_72 ?_
  refine lv_iload hx hb dX2_solve_73 (lv_at hl 0 rfl) ?_
  refine lv_aload_n hx hb dX2_solve_75 rfl (lv_at hl 3 rfl) ?_
  refine lv_iload_n hx hb dX2_solve_76 rfl (lv_at hl 5 rfl) ?_
  refine lv_iload hx hb dX2_solve_77 (lv_at hl 1 rfl) ?_
  refine lv_iload hx hb dX2_solve_79 (lv_at hl 0 rfl) ?_
  refine xj_i (wc := (wD_43 h cs qI_47 fL fA fQ qG_40 fJ)) (wr := [(h 106, .inr (2, [.ref (h 180), .ref (h 185), .ref (h 186), .ref (h 187), .long (fL 188)])), (h 180, .inl (cs 4, 4, .inr (.inr (.inr (.inr (fun i => if i < 4 then some (h (i + 181)) else none)))))), (h 181, .inl (cs 1, 4, .inr (.inl ((fJ 0) 0)))), (h 182, .inl (cs 1, 4, .inr (.inl ((fJ 0) 1)))), (h 183, .inl (cs 1, 4, .inr (.inl ((fJ 0) 2)))), (h 184, .inl (cs 1, 4, .inr (.inl ((fJ 0) 3)))), (h 185, .inl (cs 1, 4, .inr (.inl (fQ 185)))), (h 186, .inl (cs 0, 4, .inl (fA 186))), (h 187, .inl (cs 1, 4, .inr (.inl (fQ 187)))), (h 211, .inl (cs 0, 5, .inl (fA 211)))]) hP hD hS hA [9, 10, 11, 12, 13, 14] [0, 1, 2, 3, 4, 5, 6, 7, 8, 15] rfl rfl (by decide) (by decide) (va_runSN (As := [.ref (h 200), .int (nI 2), .int (nI 0), .int (nI 1)]) (rest := [.int (nI 1), .ref (h 181)]) ⟨hx, hb, hml, hown, hts⟩ (a_X9_product_52 l dC dI h cs H.size qI_47 fL fA fQ qG_40 fJ ) ⟨va_cnB (host := "MixedWords") 4 hts gX2_solve_X9_product_n40 rfl rfl rfl hN.2.2.2.2.2.1 (hts (.initialized RX9) (by decide +kernel)) (by decide +kernel) ⟨Nat.le_of_ble_eq_true rfl, Nat.le_of_ble_eq_true rfl⟩, hts (.static yX9_product) (by decide +kernel), trivial⟩ (xpS (wc := (wD_43 h cs qI_47 fL fA fQ qG_40 fJ)) hP hD hK hN [9, 10, 11, 12, 13, 14] rfl (by decide) _) rfl rfl hl.1 rfl (lv_room (Nat.le_of_ble_eq_true rfl)) dX2_solve_81 ⟨Nat.zero_le _, Nat.zero_le _⟩) (fun r_5 u_4 H locs hw hP hD hS => ?_)
  obtain ⟨hf_6, rfl⟩ := hw
  have hP : va_P (dC, dI) vwCl (wD_49 h cs qI_47 fL fA fQ qG_40 fJ) H := xP_sub hP [0, 1, 2, 3, 4, 5, 6, 7, 8, 10, 11, 12, 13, 14, 15, 9] rfl
  have hD : va_D A0 (wD_49 h cs qI_47 fL fA fQ qG_40 fJ) := hD.sub [0, 1, 2, 3, 4, 5, 6, 7, 8, 10, 11, 12, 13, 14, 15, 9] (by decide) rfl
  obtain rfl := hf_6
  refine lv_i2l (v := (0 : Int64)) hx hb dX2_solve_84 (by decide +kernel) ?_
  refine xa_lastS hx hb hK hP hD hS 2 1 rfl rfl (by omega) (by decide) (by decide +kernel) dX2_solve_85 (fun H locs hP hD hS => ?_)
  refine lv_iinc (v := nI 2) (lv' := [(6, .int (nI 2)), (5, .int (nI 0)), (0, .ref (h 106)), (1, .ref (h 200)), (2, .ref (h 211)), (3, .int (nI 2)), (4, .int (nI 2))]) hx hb dX2_solve_86 hl (k := 0) rfl (by decide +kernel) (by decide) rfl (fun ls hl => ?_)
  refine lv_goto (tgt := 59) hx hb dX2_solve_89 (by decide) ?_
  refine lv_iload hx hb dX2_solve_59 (lv_at hl 0 rfl) ?_
  refine lv_iload hx hb dX2_solve_61 (lv_at hl 6 rfl) ?_
  refine lv_icmp_ge (tgt := 92) hx hb dX2_solve_63 (by decide) (fun _ => ?_) (fun c9 => False.elim (by revert c9; decide +kernel))
  refine lv_iinc (v := nI 1) (lv' := [(5, .int (nI 1)), (6, .int (nI 2)), (0, .ref (h 106)), (1, .ref (h 200)), (2, .ref (h 211)), (3, .int (nI 2)), (4, .int (nI 2))]) hx hb dX2_solve_92 hl (k := 1) rfl (by decide +kernel) (by decide) rfl (fun ls hl => ?_)
  refine lv_goto (tgt := 3) hx hb dX2_solve_95 (by decide) ?_
  refine lv_iload hx hb dX2_solve_3 (lv_at hl 0 rfl) ?_
  refine lv_iload hx hb dX2_solve_5 (lv_at hl 6 rfl) ?_
  refine lv_icmp_ge (tgt := 98) hx hb dX2_solve_7 (by decide) (fun c9 => False.elim (by revert c9; decide +kernel)) (fun _ => ?_)
  refine lv_aload_n hx hb dX2_solve_10 rfl (lv_at hl 2 rfl) ?_
  refine va_get (D := (dC, dI)) (ci := 2) (v := .ref (h 185)) (C := RX2) (T := TX2) (N := 5) hx hb hts hinX2 hown hK hP 0 rfl rfl 1 (by decide) (hts (.fieldLink RX2 16 "MixedWords$Least" "right" "[J") (by decide +kernel)) (fun _ h9 => h9) rfl dX2_solve_11 ?_
  refine lv_iload hx hb dX2_solve_14 (lv_at hl 0 rfl) ?_
  refine lv_lconst (v := 0) hx hb dX2_solve_16 rfl ?_
  refine xa_lastS hx hb hK hP hD hS 6 1 rfl rfl (by omega) (by decide) (by decide +kernel) dX2_solve_17 (fun H locs hP hD hS => ?_)
  refine lv_iconst (v := nI 0) hx hb dX2_solve_18 (by decide) ?_
  refine lv_istore (lv' := [(6, .int (nI 0)), (5, .int (nI 1)), (0, .ref (h 106)), (1, .ref (h 200)), (2, .ref (h 211)), (3, .int (nI 2)), (4, .int (nI 2))]) hx hb dX2_solve_19 hl (by decide) rfl (fun ls hl => ?_)
  refine lv_iload hx hb dX2_solve_21 (lv_at hl 0 rfl) ?_
  refine lv_iload_n hx hb dX2_solve_23 rfl (lv_at hl 5 rfl) ?_
  refine lv_icmp_ge (tgt := 56) hx hb dX2_solve_24 (by decide) (fun c9 => False.elim (by revert c9; decide +kernel)) (fun _ => ?_)
  refine lv_aload_n hx hb dX2_solve_27 rfl (lv_at hl 2 rfl) ?_
  refine va_get (D := (dC, dI)) (ci := 2) (v := .ref (h 185)) (C := RX2) (T := TX2) (N := 5) hx hb hts hinX2 hown hK hP 0 rfl rfl 1 (by decide) (hts (.fieldLink RX2 16 "MixedWords$Least" "right" "[J") (by decide +kernel)) (fun _ h9 => h9) rfl dX2_solve_28 ?_
  refine lv_iload hx hb dX2_solve_31 (lv_at hl 1 rfl) ?_
  refine lv_dup2_11 hx hb dX2_solve_33 rfl rfl ?_
  refine xa_lald hx hb hK hP 6 1 rfl rfl (by omega) (by decide) dX2_solve_34 ?_
  refine xt_l (y := (0 : Int64)) (by decide +kernel) ?_
  refine lv_aload_n hx hb dX2_solve_35 rfl (lv_at hl 3 rfl) ?_
  refine lv_iload hx hb dX2_solve_36 (lv_at hl 0 rfl) ?_
  refine xa_aald (b := h 201) hx hb hK hP 9 3 rfl rfl rfl (by omega) (by decide) (if_pos (by omega)) dX2_solve_38 ?_
  refine lv_iload hx hb dX2_solve_39 (lv_at hl 1 rfl) ?_
  refine xa_iald hx hb hK hP 10 0 rfl rfl (by omega) (by decide) dX2_solve_41 ?_
  refine xt_i (y := nI 0) (by decide +kernel) ?_
  refine lv_aload_n hx hb dX2_solve_42 rfl (lv_at hl 4 rfl) ?_
  refine lv_iload hx hb dX2_solve_43 (lv_at hl 0 rfl) ?_
  refine xa_iald hx hb hK hP 15 0 rfl rfl (by omega) (by decide) dX2_solve_45 ?_
  refine xt_i (y := nI 0) (by decide +kernel) ?_
  refine lv_imul hx hb dX2_solve_46 ?_
  refine xt_i (y := nI 0) (by decide +kernel) ?_
  refine lv_i2l (v := (0 : Int64)) hx hb dX2_solve_47 (by decide +kernel) ?_
  refine lv_ladd hx hb dX2_solve_48 ?_
  refine xt_l (y := (0 : Int64)) (by decide +kernel) ?_
  refine xa_lastS hx hb hK hP hD hS 6 1 rfl rfl (by omega) (by decide) (by decide +kernel) dX2_solve_49 (fun H locs hP hD hS => ?_)
  refine lv_iinc (v := nI 1) (lv' := [(6, .int (nI 1)), (5, .int (nI 1)), (0, .ref (h 106)), (1, .ref (h 200)), (2, .ref (h 211)), (3, .int (nI 2)), (4, .int (nI 2))]) hx hb dX2_solve_50 hl (k := 0) rfl (by decide +kernel) (by decide) rfl (fun ls hl => ?_)
  refine lv_goto (tgt := 21) hx hb dX2_solve_53 (by decide) ?_
  refine lv_iload hx hb dX2_solve_21 (lv_at hl 0 rfl) ?_
  refine lv_iload_n hx hb dX2_solve_23 rfl (lv_at hl 5 rfl) ?_
  refine lv_icmp_ge (tgt := 56) hx hb dX2_solve_24 (by decide) (fun c9 => False.elim (by revert c9; decide +kernel)) (fun _ => ?_)
  refine lv_aload_n hx hb dX2_solve_27 rfl (lv_at hl 2 rfl) ?_
  refine va_get (D := (dC, dI)) (ci := 2) (v := .ref (h 185)) (C := RX2) (T := TX2) (N := 5) hx hb hts hinX2 hown hK hP 0 rfl rfl 1 (by decide) (hts (.fieldLink RX2 16 "MixedWords$Least" "right" "[J") (by decide +kernel)) (fun _ h9 => h9) rfl dX2_solve_28 ?_
  refine lv_iload hx hb dX2_solve_31 (lv_at hl 1 rfl) ?_
  refine lv_dup2_11 hx hb dX2_solve_33 rfl rfl ?_
  refine xa_lald hx hb hK hP 6 1 rfl rfl (by omega) (by decide) dX2_solve_34 ?_
  refine xt_l (y := (0 : Int64)) (by decide +kernel) ?_
  refine lv_aload_n hx hb dX2_solve_35 rfl (lv_at hl 3 rfl) ?_
  refine lv_iload hx hb dX2_solve_36 (lv_at hl 0 rfl) ?_
  refine xa_aald (b := h 202) hx hb hK hP 9 3 rfl rfl rfl (by omega) (by decide) (if_pos (by omega)) dX2_solve_38 ?_
  refine lv_iload hx hb dX2_solve_39 (lv_at hl 1 rfl) ?_
  refine xa_iald hx hb hK hP 11 0 rfl rfl (by omega) (by decide) dX2_solve_41 ?_
  refine xt_i (y := nI 0) (by decide +kernel) ?_
  refine lv_aload_n hx hb dX2_solve_42 rfl (lv_at hl 4 rfl) ?_
  refine lv_iload hx hb dX2_solve_43 (lv_at hl 0 rfl) ?_
  refine xa_iald hx hb hK hP 15 0 rfl rfl (by omega) (by decide) dX2_solve_45 ?_
  refine xt_i (y := nI 0) (by decide +kernel) ?_
  refine lv_imul hx hb dX2_solve_46 ?_
  refine xt_i (y := nI 0) (by decide +kernel) ?_
  refine lv_i2l (v := (0 : Int64)) hx hb dX2_solve_47 (by decide +kernel) ?_
  refine lv_ladd hx hb dX2_solve_48 ?_
  refine xt_l (y := (0 : Int64)) (by decide +kernel) ?_
  refine xa_lastS hx hb hK hP hD hS 6 1 rfl rfl (by omega) (by decide) (by decide +kernel) dX2_solve_49 (fun H locs hP hD hS => ?_)
  refine lv_iinc (v := nI 2) (lv' := [(6, .int (nI 2)), (5, .int (nI 1)), (0, .ref (h 106)), (1, .ref (h 200)), (2, .ref (h 211)), (3, .int (nI 2)), (4, .int (nI 2))]) hx hb dX2_solve_50 hl (k := 0) rfl (by decide +kernel) (by decide) rfl (fun ls hl => ?_)
  refine lv_goto (tgt := 21) hx hb dX2_solve_53 (by decide) ?_
  refine lv_iload hx hb dX2_solve_21 (lv_at hl 0 rfl) ?_
  refine lv_iload_n hx hb dX2_solve_23 rfl (lv_at hl 5 rfl) ?_
  refine lv_icmp_ge (tgt := 56) hx hb dX2_solve_24 (by decide) (fun _ => ?_) (fun c9 => False.elim (by revert c9; decide +kernel))
  refine lv_iconst (v := nI 0) hx hb dX2_solve_56 (by decide) ?_
  refine lv_istore (lv' := [(6, .int (nI 0)), (5, .int (nI 1)), (0, .ref (h 106)), (1, .ref (h 200)), (2, .ref (h 211)), (3, .int (nI 2)), (4, .int (nI 2))]) hx hb dX2_solve_57 hl (by decide) rfl (fun ls hl => ?_)
  refine lv_iload hx hb dX2_solve_59 (lv_at hl 0 rfl) ?_
  refine lv_iload hx hb dX2_solve_61 (lv_at hl 6 rfl) ?_
  refine lv_icmp_ge (tgt := 92) hx hb dX2_solve_63 (by decide) (fun c9 => False.elim (by revert c9; decide +kernel)) (fun _ => ?_)
  refine lv_aload_n hx hb dX2_solve_66 rfl (lv_at hl 2 rfl) ?_
  refine va_get (D := (dC, dI)) (ci := 2) (v := .ref (h 180)) (C := RX2) (T := TX2) (N := 5) hx hb hts hinX2 hown hK hP 0 rfl rfl 0 (by decide) (hts (.fieldLink RX2 11 "MixedWords$Least" "square" "[[J") (by decide +kernel)) (fun _ h9 => h9) rfl dX2_solve_67 ?_
  refine lv_iload hx hb dX2_solve_70 (lv_at hl 1 rfl) ?_
  refine xa_aald (b := h 182) hx hb hK hP 1 4 rfl rfl rfl (by omega) (by decide) (if_pos (by omega)) dX2_solve_72 ?_
  refine lv_iload hx hb dX2_solve_73 (lv_at hl 0 rfl) ?_
  refine lv_aload_n hx hb dX2_solve_75 rfl (lv_at hl 3 rfl) ?_
  refine lv_iload_n hx hb dX2_solve_76 rfl (lv_at hl 5 rfl) ?_
  refine lv_iload hx hb dX2_solve_77 (lv_at hl 1 rfl) ?_
  refine lv_iload hx hb dX2_solve_79 (lv_at hl 0 rfl) ?_
  refine xj_i (wc := (wD_43 h cs qI_47 fL fA fQ qG_40 fJ)) (wr := [(h 106, .inr (2, [.ref (h 180), .ref (h 185), .ref (h 186), .ref (h 187), .long (fL 188)])), (h 180, .inl (cs 4, 4, .inr (.inr (.inr (.inr (fun i => if i < 4 then some (h (i + 181)) else none)))))), (h 181, .inl (cs 1, 4, .inr (.inl ((fJ 0) 0)))), (h 182, .inl (cs 1, 4, .inr (.inl ((fJ 0) 1)))), (h 183, .inl (cs 1, 4, .inr (.inl ((fJ 0) 2)))), (h 184, .inl (cs 1, 4, .inr (.inl ((fJ 0) 3)))), (h 185, .inl (cs 1, 4, .inr (.inl (fQ 185)))), (h 186, .inl (cs 0, 4, .inl (fA 186))), (h 187, .inl (cs 1, 4, .inr (.inl (fQ 187)))), (h 211, .inl (cs 0, 5, .inl (fA 211)))]) hP hD hS hA [9, 10, 11, 12, 13, 14] [0, 1, 2, 3, 4, 5, 6, 7, 8, 15] rfl rfl (by decide) (by decide) (va_runSN (As := [.ref (h 200), .int (nI 2), .int (nI 1), .int (nI 0)]) (rest := [.int (nI 0), .ref (h 182)]) ⟨hx, hb, hml, hown, hts⟩ (a_X9_product_53 l dC dI h cs H.size qI_47 fL fA fQ qG_40 fJ ) ⟨va_cnB (host := "MixedWords") 4 hts gX2_solve_X9_product_n40 rfl rfl rfl hN.2.2.2.2.2.1 (hts (.initialized RX9) (by decide +kernel)) (by decide +kernel) ⟨Nat.le_of_ble_eq_true rfl, Nat.le_of_ble_eq_true rfl⟩, hts (.static yX9_product) (by decide +kernel), trivial⟩ (xpS (wc := (wD_43 h cs qI_47 fL fA fQ qG_40 fJ)) hP hD hK hN [9, 10, 11, 12, 13, 14] rfl (by decide) _) rfl rfl hl.1 rfl (lv_room (Nat.le_of_ble_eq_true rfl)) dX2_solve_81 ⟨Nat.zero_le _, Nat.zero_le _⟩) (fun r_8 u_7 H locs hw hP hD hS => ?_)
  obtain ⟨hf_9, rfl⟩ := hw
  have hP : va_P (dC, dI) vwCl (wD_49 h cs qI_47 fL fA fQ qG_40 fJ) H := xP_sub hP [0, 1, 2, 3, 4, 5, 6, 7, 8, 10, 11, 12, 13, 14, 15, 9] rfl
  have hD : va_D A0 (wD_49 h cs qI_47 fL fA fQ qG_40 fJ) := hD.sub [0, 1, 2, 3, 4, 5, 6, 7, 8, 10, 11, 12, 13, 14, 15, 9] (by decide) rfl
  obtain rfl := hf_9
  refine lv_i2l (v := (0 : Int64)) hx hb dX2_solve_84 (by decide +kernel) ?_
  refine xa_lastS hx hb hK hP hD hS 3 1 rfl rfl (by omega) (by decide) (by decide +kernel) dX2_solve_85 (fun H locs hP hD hS => ?_)
  refine lv_iinc (v := nI 1) (lv' := [(6, .int (nI 1)), (5, .int (nI 1)), (0, .ref (h 106)), (1, .ref (h 200)), (2, .ref (h 211)), (3, .int (nI 2)), (4, .int (nI 2))]) hx hb dX2_solve_86 hl (k := 0) rfl (by decide +kernel) (by decide) rfl (fun ls hl => ?_)
  refine lv_goto (tgt := 59) hx hb dX2_solve_89 (by decide) ?_
  refine lv_iload hx hb dX2_solve_59 (lv_at hl 0 rfl) ?_
  refine lv_iload hx hb dX2_solve_61 (lv_at hl 6 rfl) ?_
  refine lv_icmp_ge (tgt := 92) hx hb dX2_solve_63 (by decide) (fun c9 => False.elim (by revert c9; decide +kernel)) (fun _ => ?_)
  refine lv_aload_n hx hb dX2_solve_66 rfl (lv_at hl 2 rfl) ?_
  refine va_get (D := (dC, dI)) (ci := 2) (v := .ref (h 180)) (C := RX2) (T := TX2) (N := 5) hx hb hts hinX2 hown hK hP 0 rfl rfl 0 (by decide) (hts (.fieldLink RX2 11 "MixedWords$Least" "square" "[[J") (by decide +kernel)) (fun _ h9 => h9) rfl dX2_solve_67 ?_
  refine lv_iload hx hb dX2_solve_70 (lv_at hl 1 rfl) ?_
  refine xa_aald (b := h 182) hx hb hK hP 1 4 rfl rfl rfl (by omega) (by decide) (if_pos (by omega)) dX2_solve_72 ?_
  refine lv_iload hx hb dX2_solve_73 (lv_at hl 0 rfl) ?_
  refine lv_aload_n hx hb dX2_solve_75 rfl (lv_at hl 3 rfl) ?_
  refine lv_iload_n hx hb dX2_solve_76 rfl (lv_at hl 5 rfl) ?_
  refine lv_iload hx hb dX2_solve_77 (lv_at hl 1 rfl) ?_
  refine lv_iload hx hb dX2_solve_79 (lv_at hl 0 rfl) ?_
  refine xj_i (wc := (wD_43 h cs qI_47 fL fA fQ qG_40 fJ)) (wr := [(h 106, .inr (2, [.ref (h 180), .ref (h 185), .ref (h 186), .ref (h 187), .long (fL 188)])), (h 180, .inl (cs 4, 4, .inr (.inr (.inr (.inr (fun i => if i < 4 then some (h (i + 181)) else none)))))), (h 181, .inl (cs 1, 4, .inr (.inl ((fJ 0) 0)))), (h 182, .inl (cs 1, 4, .inr (.inl ((fJ 0) 1)))), (h 183, .inl (cs 1, 4, .inr (.inl ((fJ 0) 2)))), (h 184, .inl (cs 1, 4, .inr (.inl ((fJ 0) 3)))), (h 185, .inl (cs 1, 4, .inr (.inl (fQ 185)))), (h 186, .inl (cs 0, 4, .inl (fA 186))), (h 187, .inl (cs 1, 4, .inr (.inl (fQ 187)))), (h 211, .inl (cs 0, 5, .inl (fA 211)))]) hP hD hS hA [9, 10, 11, 12, 13, 14] [0, 1, 2, 3, 4, 5, 6, 7, 8, 15] rfl rfl (by decide) (by decide) (va_runSN (As := [.ref (h 200), .int (nI 2), .int (nI 1), .int (nI 1)]) (rest := [.int (nI 1), .ref (h 182)]) ⟨hx, hb, hml, hown, hts⟩ (a_X9_product_54 l dC dI h cs H.size qI_47 fL fA fQ qG_40 fJ ) ⟨va_cnB (host := "MixedWords") 4 hts gX2_solve_X9_product_n40 rfl rfl rfl hN.2.2.2.2.2.1 (hts (.initialized RX9) (by decide +kernel)) (by decide +kernel) ⟨Nat.le_of_ble_eq_true rfl, Nat.le_of_ble_eq_true rfl⟩, hts (.static yX9_product) (by decide +kernel), trivial⟩ (xpS (wc := (wD_43 h cs qI_47 fL fA fQ qG_40 fJ)) hP hD hK hN [9, 10, 11, 12, 13, 14] rfl (by decide) _) rfl rfl hl.1 rfl (lv_room (Nat.le_of_ble_eq_true rfl)) dX2_solve_81 ⟨Nat.zero_le _, Nat.zero_le _⟩) (fun r_11 u_10 H locs hw hP hD hS => ?_)
  obtain ⟨hf_12, rfl⟩ := hw
  have hP : va_P (dC, dI) vwCl (wD_49 h cs qI_47 fL fA fQ qG_40 fJ) H := xP_sub hP [0, 1, 2, 3, 4, 5, 6, 7, 8, 10, 11, 12, 13, 14, 15, 9] rfl
  have hD : va_D A0 (wD_49 h cs qI_47 fL fA fQ qG_40 fJ) := hD.sub [0, 1, 2, 3, 4, 5, 6, 7, 8, 10, 11, 12, 13, 14, 15, 9] (by decide) rfl
  obtain rfl := hf_12
  refine lv_i2l (v := (0 : Int64)) hx hb dX2_solve_84 (by decide +kernel) ?_
  refine xa_lastS hx hb hK hP hD hS 3 1 rfl rfl (by omega) (by decide) (by decide +kernel) dX2_solve_85 (fun H locs hP hD hS => ?_)
  refine lv_iinc (v := nI 2) (lv' := [(6, .int (nI 2)), (5, .int (nI 1)), (0, .ref (h 106)), (1, .ref (h 200)), (2, .ref (h 211)), (3, .int (nI 2)), (4, .int (nI 2))]) hx hb dX2_solve_86 hl (k := 0) rfl (by decide +kernel) (by decide) rfl (fun ls hl => ?_)
  refine lv_goto (tgt := 59) hx hb dX2_solve_89 (by decide) ?_
  refine lv_iload hx hb dX2_solve_59 (lv_at hl 0 rfl) ?_
  refine lv_iload hx hb dX2_solve_61 (lv_at hl 6 rfl) ?_
  refine lv_icmp_ge (tgt := 92) hx hb dX2_solve_63 (by decide) (fun _ => ?_) (fun c9 => False.elim (by revert c9; decide +kernel))
  refine lv_iinc (v := nI 2) (lv' := [(5, .int (nI 2)), (6, .int (nI 2)), (0, .ref (h 106)), (1, .ref (h 200)), (2, .ref (h 211)), (3, .int (nI 2)), (4, .int (nI 2))]) hx hb dX2_solve_92 hl (k := 1) rfl (by decide +kernel) (by decide) rfl (fun ls hl => ?_)
  refine lv_goto (tgt := 3) hx hb dX2_solve_95 (by decide) ?_
  refine lv_iload hx hb dX2_solve_3 (lv_at hl 0 rfl) ?_
  refine lv_iload hx hb dX2_solve_5 (lv_at hl 6 rfl) ?_
  refine lv_icmp_ge (tgt := 98) hx hb dX2_solve_7 (by decide) (fun _ => ?_) (fun c9 => False.elim (by revert c9; decide +kernel))
  refine lv_aload_n hx hb dX2_solve_98 rfl (lv_at hl 2 rfl) ?_
  refine lv_aload_n hx hb dX2_solve_99 rfl (lv_at hl 2 rfl) ?_
  refine va_get (D := (dC, dI)) (ci := 2) (v := .ref (h 180)) (C := RX2) (T := TX2) (N := 5) hx hb hts hinX2 hown hK hP 0 rfl rfl 0 (by decide) (hts (.fieldLink RX2 11 "MixedWords$Least" "square" "[[J") (by decide +kernel)) (fun _ h9 => h9) rfl dX2_solve_100 ?_
  refine lv_iload hx hb dX2_solve_103 (lv_at hl 6 rfl) ?_
  refine lv_iconst (v := nI 0) hx hb dX2_solve_105 (by decide) ?_
  refine lv_iconst (v := nI 1) hx hb dX2_solve_106 (by decide) ?_
  refine lv_iload hx hb dX2_solve_107 (lv_at hl 6 rfl) ?_
  refine lv_ishl hx hb dX2_solve_109 ?_
  refine xt_i (y := nI 4) (by decide +kernel) ?_
  refine lv_iconst (v := nI 1) hx hb dX2_solve_110 (by decide) ?_
  refine lv_isub hx hb dX2_solve_111 ?_
  refine xt_i (y := nI 3) (by decide +kernel) ?_
  refine xj_l (wc := (wD_16 h cs qI_47 fL fA fQ qG_40 fJ)) (wr := [(h 106, .inr (2, [.ref (h 180), .ref (h 185), .ref (h 186), .ref (h 187), .long (fL 188)])), (h 185, .inl (cs 1, 4, .inr (.inl (fQ 185)))), (h 186, .inl (cs 0, 4, .inl (fA 186))), (h 187, .inl (cs 1, 4, .inr (.inl (fQ 187)))), (h 200, .inl (cs 3, 5, .inr (.inr (.inr (.inr (fun i => if i < 5 then some (h (i + 201)) else none)))))), (h 201, .inl (cs 0, 4, .inl ((qG_40 2) 0))), (h 202, .inl (cs 0, 4, .inl ((qG_40 2) 1))), (h 203, .inl (cs 0, 4, .inl ((qG_40 2) 2))), (h 204, .inl (cs 0, 4, .inl ((qG_40 2) 3))), (h 205, .inl (cs 0, 4, .inl ((qG_40 2) 4))), (h 211, .inl (cs 0, 5, .inl (fA 211)))]) hP hD hS hA [1, 2, 3, 4, 5] [0, 6, 7, 8, 9, 10, 11, 12, 13, 14, 15] rfl rfl (by decide) (by decide) (va_runS (As := [.ref (h 180), .int (nI 2), .int (nI 0), .int (nI 3)]) (rest := [.ref (h 106)]) ⟨hx, hb, hml, hown, hts⟩ (a_X2_determinant_55 l dC dI h cs H.size qI_47 fL fA fQ qG_40 fJ ) (va_cwS 4 hts gX2_solve_X2_determinant rfl rfl rfl (by decide +kernel) ⟨Nat.le_of_ble_eq_true rfl, Nat.le_of_ble_eq_true rfl⟩) (xpS (wc := (wD_16 h cs qI_47 fL fA fQ qG_40 fJ)) hP hD hK hN [1, 2, 3, 4, 5] rfl (by decide) _) rfl rfl hl.1 rfl (lv_room (Nat.le_of_ble_eq_true rfl)) dX2_solve_112 ⟨Nat.zero_le _, Nat.zero_le _⟩) (fun r_14 u_13 H locs hw hP hD hS => ?_)
  obtain ⟨hf_15, rfl⟩ := hw
  have hP : va_P (dC, dI) vwCl (wD_49 h cs qI_47 fL fA fQ qG_40 fJ) H := xP_sub hP [0, 11, 12, 13, 14, 15, 1, 2, 3, 4, 5, 6, 7, 8, 9, 10] rfl
  have hD : va_D A0 (wD_49 h cs qI_47 fL fA fQ qG_40 fJ) := hD.sub [0, 11, 12, 13, 14, 15, 1, 2, 3, 4, 5, 6, 7, 8, 9, 10] (by decide) rfl
  obtain rfl := hf_15
  refine va_put (D := (dC, dI)) (ci := 2) (v := .long (0 : Int64)) (ty := .long) (C := RX2) (T := TX2) (N := 5) hx hb hts hinX2 tyX2 tyX2_ok nmX2 hown hK hP hD hS 0 rfl rfl 4 (by decide) (hts (.fieldLink RX2 48 "MixedWords$Least" "below" "J") (by decide +kernel)) (fun _ h9 => h9) rfl (by decide +kernel) rfl rfl (Nat.le_of_ble_eq_true rfl) dX2_solve_115 (fun H locs hP hD hS => ?_)
  have hP : va_P (dC, dI) vwCl (wD_49 h cs qI_47 fL fA fQ qG_40 fJ) H := hP
  have hD : va_D A0 (wD_49 h cs qI_47 fL fA fQ qG_40 fJ) := hD
  refine lv_iconst (v := nI 0) hx hb dX2_solve_118 (by decide) ?_
  refine lv_istore (lv' := [(5, .int (nI 0)), (6, .int (nI 2)), (0, .ref (h 106)), (1, .ref (h 200)), (2, .ref (h 211)), (3, .int (nI 2)), (4, .int (nI 2))]) hx hb dX2_solve_119 hl (by decide) rfl (fun ls hl => ?_)
  refine lv_iload hx hb dX2_solve_121 (lv_at hl 0 rfl) ?_
  refine lv_iload hx hb dX2_solve_123 (lv_at hl 6 rfl) ?_
  refine lv_icmp_ge (tgt := 173) hx hb dX2_solve_125 (by decide) (fun c9 => False.elim (by revert c9; decide +kernel)) (fun _ => ?_)
  refine lv_aload_n hx hb dX2_solve_128 rfl (lv_at hl 2 rfl) ?_
  refine lv_iload hx hb dX2_solve_129 (lv_at hl 0 rfl) ?_
  refine lv_iload hx hb dX2_solve_131 (lv_at hl 6 rfl) ?_
  refine xj_v (wc := (wD_18 h cs qI_47 fL fA fQ qG_40 fJ)) (wr := [(h 200, .inl (cs 3, 5, .inr (.inr (.inr (.inr (fun i => if i < 5 then some (h (i + 201)) else none)))))), (h 201, .inl (cs 0, 4, .inl ((qG_40 2) 0))), (h 202, .inl (cs 0, 4, .inl ((qG_40 2) 1))), (h 203, .inl (cs 0, 4, .inl ((qG_40 2) 2))), (h 204, .inl (cs 0, 4, .inl ((qG_40 2) 3))), (h 205, .inl (cs 0, 4, .inl ((qG_40 2) 4))), (h 211, .inl (cs 0, 5, .inl (fA 211)))]) hP hD hS hA [0, 1, 2, 3, 4, 5, 6, 7, 8] [9, 10, 11, 12, 13, 14, 15] rfl rfl (by decide) (by decide) (va_runV (As := [.int (nI 0), .int (nI 2)]) (rest := []) ⟨hx, hb, hml, hown, hts⟩ (a_X2_swapRight_56 l dC dI h cs H.size qI_47 fL fA fQ qG_40 fJ ) (cwV 2 hts gX2_solve_X2_swapRight rfl rfl rfl (by decide +kernel) ⟨Nat.le_of_ble_eq_true rfl, Nat.le_of_ble_eq_true rfl⟩) (xpV (wc := (wD_18 h cs qI_47 fL fA fQ qG_40 fJ)) hP hD hK hN [0, 1, 2, 3, 4, 5, 6, 7, 8] rfl (by decide) 0 (ci := 2) rfl rfl _) rfl rfl hl.1 rfl (lv_room (Nat.le_of_ble_eq_true rfl)) dX2_solve_133 ⟨Nat.zero_le _, Nat.zero_le _⟩) (fun u_16 H locs hw hP hD hS => ?_)
  obtain ⟨hf_18, rfl⟩ := hw
  have hP : va_P (dC, dI) vwCl (wD_49 h cs qI_47 fL fA fQ qG_40 fJ) H := xP_sub hP [7, 8, 9, 10, 11, 12, 13, 14, 15, 0, 1, 2, 3, 4, 5, 6] rfl
  have hD : va_D A0 (wD_49 h cs qI_47 fL fA fQ qG_40 fJ) := hD.sub [7, 8, 9, 10, 11, 12, 13, 14, 15, 0, 1, 2, 3, 4, 5, 6] (by decide) rfl
  refine lv_aload_n hx hb dX2_solve_136 rfl (lv_at hl 2 rfl) ?_
  refine va_get (D := (dC, dI)) (ci := 2) (v := .ref (h 187)) (C := RX2) (T := TX2) (N := 5) hx hb hts hinX2 hown hK hP 0 rfl rfl 3 (by decide) (hts (.fieldLink RX2 24 "MixedWords$Least" "above" "[J") (by decide +kernel)) (fun _ h9 => h9) rfl dX2_solve_137 ?_
  refine lv_iload hx hb dX2_solve_140 (lv_at hl 0 rfl) ?_
  refine lv_aload_n hx hb dX2_solve_142 rfl (lv_at hl 2 rfl) ?_
  refine va_get (D := (dC, dI)) (ci := 2) (v := .ref (h 180)) (C := RX2) (T := TX2) (N := 5) hx hb hts hinX2 hown hK hP 0 rfl rfl 0 (by decide) (hts (.fieldLink RX2 11 "MixedWords$Least" "square" "[[J") (by decide +kernel)) (fun _ h9 => h9) rfl dX2_solve_143 ?_
  refine lv_iload hx hb dX2_solve_146 (lv_at hl 6 rfl) ?_
  refine lv_iconst (v := nI 0) hx hb dX2_solve_148 (by decide) ?_
  refine lv_iconst (v := nI 1) hx hb dX2_solve_149 (by decide) ?_
  refine lv_iload hx hb dX2_solve_150 (lv_at hl 6 rfl) ?_
  refine lv_ishl hx hb dX2_solve_152 ?_
  refine xt_i (y := nI 4) (by decide +kernel) ?_
  refine lv_iconst (v := nI 1) hx hb dX2_solve_153 (by decide) ?_
  refine lv_isub hx hb dX2_solve_154 ?_
  refine xt_i (y := nI 3) (by decide +kernel) ?_
  refine xj_l (wc := (wD_16 h cs qI_47 fL fA fQ qG_40 fJ)) (wr := [(h 106, .inr (2, [.ref (h 180), .ref (h 185), .ref (h 186), .ref (h 187), .long (fL 188)])), (h 185, .inl (cs 1, 4, .inr (.inl (fQ 185)))), (h 186, .inl (cs 0, 4, .inl (fA 186))), (h 187, .inl (cs 1, 4, .inr (.inl (fQ 187)))), (h 200, .inl (cs 3, 5, .inr (.inr (.inr (.inr (fun i => if i < 5 then some (h (i + 201)) else none)))))), (h 201, .inl (cs 0, 4, .inl ((qG_40 2) 0))), (h 202, .inl (cs 0, 4, .inl ((qG_40 2) 1))), (h 203, .inl (cs 0, 4, .inl ((qG_40 2) 2))), (h 204, .inl (cs 0, 4, .inl ((qG_40 2) 3))), (h 205, .inl (cs 0, 4, .inl ((qG_40 2) 4))), (h 211, .inl (cs 0, 5, .inl (fA 211)))]) hP hD hS hA [1, 2, 3, 4, 5] [0, 6, 7, 8, 9, 10, 11, 12, 13, 14, 15] rfl rfl (by decide) (by decide) (va_runS (As := [.ref (h 180), .int (nI 2), .int (nI 0), .int (nI 3)]) (rest := [.int (nI 0), .ref (h 187)]) ⟨hx, hb, hml, hown, hts⟩ (a_X2_determinant_55 l dC dI h cs H.size qI_47 fL fA fQ qG_40 fJ ) (va_cwS 4 hts gX2_solve_X2_determinant rfl rfl rfl (by decide +kernel) ⟨Nat.le_of_ble_eq_true rfl, Nat.le_of_ble_eq_true rfl⟩) (xpS (wc := (wD_16 h cs qI_47 fL fA fQ qG_40 fJ)) hP hD hK hN [1, 2, 3, 4, 5] rfl (by decide) _) rfl rfl hl.1 rfl (lv_room (Nat.le_of_ble_eq_true rfl)) dX2_solve_155 ⟨Nat.zero_le _, Nat.zero_le _⟩) (fun r_20 u_19 H locs hw hP hD hS => ?_)
  obtain ⟨hf_21, rfl⟩ := hw
  have hP : va_P (dC, dI) vwCl (wD_49 h cs qI_47 fL fA fQ qG_40 fJ) H := xP_sub hP [0, 11, 12, 13, 14, 15, 1, 2, 3, 4, 5, 6, 7, 8, 9, 10] rfl
  have hD : va_D A0 (wD_49 h cs qI_47 fL fA fQ qG_40 fJ) := hD.sub [0, 11, 12, 13, 14, 15, 1, 2, 3, 4, 5, 6, 7, 8, 9, 10] (by decide) rfl
  obtain rfl := hf_21
  refine xa_lastS hx hb hK hP hD hS 8 1 rfl rfl (by omega) (by decide) (by decide +kernel) dX2_solve_158 (fun H locs hP hD hS => ?_)
  refine lv_aload_n hx hb dX2_solve_159 rfl (lv_at hl 2 rfl) ?_
  refine lv_iload hx hb dX2_solve_160 (lv_at hl 0 rfl) ?_
  refine lv_iload hx hb dX2_solve_162 (lv_at hl 6 rfl) ?_
  refine xj_v (wc := (wD_18 h cs qI_47 fL fA fQ qG_40 fJ)) (wr := [(h 200, .inl (cs 3, 5, .inr (.inr (.inr (.inr (fun i => if i < 5 then some (h (i + 201)) else none)))))), (h 201, .inl (cs 0, 4, .inl ((qG_40 2) 0))), (h 202, .inl (cs 0, 4, .inl ((qG_40 2) 1))), (h 203, .inl (cs 0, 4, .inl ((qG_40 2) 2))), (h 204, .inl (cs 0, 4, .inl ((qG_40 2) 3))), (h 205, .inl (cs 0, 4, .inl ((qG_40 2) 4))), (h 211, .inl (cs 0, 5, .inl (fA 211)))]) hP hD hS hA [0, 1, 2, 3, 4, 5, 6, 7, 8] [9, 10, 11, 12, 13, 14, 15] rfl rfl (by decide) (by decide) (va_runV (As := [.int (nI 0), .int (nI 2)]) (rest := []) ⟨hx, hb, hml, hown, hts⟩ (a_X2_swapRight_56 l dC dI h cs H.size qI_47 fL fA fQ qG_40 fJ ) (cwV 2 hts gX2_solve_X2_swapRight rfl rfl rfl (by decide +kernel) ⟨Nat.le_of_ble_eq_true rfl, Nat.le_of_ble_eq_true rfl⟩) (xpV (wc := (wD_18 h cs qI_47 fL fA fQ qG_40 fJ)) hP hD hK hN [0, 1, 2, 3, 4, 5, 6, 7, 8] rfl (by decide) 0 (ci := 2) rfl rfl _) rfl rfl hl.1 rfl (lv_room (Nat.le_of_ble_eq_true rfl)) dX2_solve_164 ⟨Nat.zero_le _, Nat.zero_le _⟩) (fun u_22 H locs hw hP hD hS => ?_)
  obtain ⟨hf_24, rfl⟩ := hw
  have hP : va_P (dC, dI) vwCl (wD_49 h cs qI_47 fL fA fQ qG_40 fJ) H := xP_sub hP [7, 8, 9, 10, 11, 12, 13, 14, 15, 0, 1, 2, 3, 4, 5, 6] rfl
  have hD : va_D A0 (wD_49 h cs qI_47 fL fA fQ qG_40 fJ) := hD.sub [7, 8, 9, 10, 11, 12, 13, 14, 15, 0, 1, 2, 3, 4, 5, 6] (by decide) rfl
  refine lv_iinc (v := nI 1) (lv' := [(5, .int (nI 1)), (6, .int (nI 2)), (0, .ref (h 106)), (1, .ref (h 200)), (2, .ref (h 211)), (3, .int (nI 2)), (4, .int (nI 2))]) hx hb dX2_solve_167 hl (k := 0) rfl (by decide +kernel) (by decide) rfl (fun ls hl => ?_)
  refine lv_goto (tgt := 121) hx hb dX2_solve_170 (by decide) ?_
  refine lv_iload hx hb dX2_solve_121 (lv_at hl 0 rfl) ?_
  refine lv_iload hx hb dX2_solve_123 (lv_at hl 6 rfl) ?_
  refine lv_icmp_ge (tgt := 173) hx hb dX2_solve_125 (by decide) (fun c9 => False.elim (by revert c9; decide +kernel)) (fun _ => ?_)
  refine lv_aload_n hx hb dX2_solve_128 rfl (lv_at hl 2 rfl) ?_
  refine lv_iload hx hb dX2_solve_129 (lv_at hl 0 rfl) ?_
  refine lv_iload hx hb dX2_solve_131 (lv_at hl 6 rfl) ?_
  refine xj_v (wc := (wD_18 h cs qI_47 fL fA fQ qG_40 fJ)) (wr := [(h 200, .inl (cs 3, 5, .inr (.inr (.inr (.inr (fun i => if i < 5 then some (h (i + 201)) else none)))))), (h 201, .inl (cs 0, 4, .inl ((qG_40 2) 0))), (h 202, .inl (cs 0, 4, .inl ((qG_40 2) 1))), (h 203, .inl (cs 0, 4, .inl ((qG_40 2) 2))), (h 204, .inl (cs 0, 4, .inl ((qG_40 2) 3))), (h 205, .inl (cs 0, 4, .inl ((qG_40 2) 4))), (h 211, .inl (cs 0, 5, .inl (fA 211)))]) hP hD hS hA [0, 1, 2, 3, 4, 5, 6, 7, 8] [9, 10, 11, 12, 13, 14, 15] rfl rfl (by decide) (by decide) (va_runV (As := [.int (nI 1), .int (nI 2)]) (rest := []) ⟨hx, hb, hml, hown, hts⟩ (a_X2_swapRight_57 l dC dI h cs H.size qI_47 fL fA fQ qG_40 fJ ) (cwV 2 hts gX2_solve_X2_swapRight rfl rfl rfl (by decide +kernel) ⟨Nat.le_of_ble_eq_true rfl, Nat.le_of_ble_eq_true rfl⟩) (xpV (wc := (wD_18 h cs qI_47 fL fA fQ qG_40 fJ)) hP hD hK hN [0, 1, 2, 3, 4, 5, 6, 7, 8] rfl (by decide) 0 (ci := 2) rfl rfl _) rfl rfl hl.1 rfl (lv_room (Nat.le_of_ble_eq_true rfl)) dX2_solve_133 ⟨Nat.zero_le _, Nat.zero_le _⟩) (fun u_25 H locs hw hP hD hS => ?_)
  obtain ⟨hf_27, rfl⟩ := hw
  have hP : va_P (dC, dI) vwCl (wD_49 h cs qI_47 fL fA fQ qG_40 fJ) H := xP_sub hP [7, 8, 9, 10, 11, 12, 13, 14, 15, 0, 1, 2, 3, 4, 5, 6] rfl
  have hD : va_D A0 (wD_49 h cs qI_47 fL fA fQ qG_40 fJ) := hD.sub [7, 8, 9, 10, 11, 12, 13, 14, 15, 0, 1, 2, 3, 4, 5, 6] (by decide) rfl
  refine lv_aload_n hx hb dX2_solve_136 rfl (lv_at hl 2 rfl) ?_
  refine va_get (D := (dC, dI)) (ci := 2) (v := .ref (h 187)) (C := RX2) (T := TX2) (N := 5) hx hb hts hinX2 hown hK hP 0 rfl rfl 3 (by decide) (hts (.fieldLink RX2 24 "MixedWords$Least" "above" "[J") (by decide +kernel)) (fun _ h9 => h9) rfl dX2_solve_137 ?_
  refine lv_iload hx hb dX2_solve_140 (lv_at hl 0 rfl) ?_
  refine lv_aload_n hx hb dX2_solve_142 rfl (lv_at hl 2 rfl) ?_
  refine va_get (D := (dC, dI)) (ci := 2) (v := .ref (h 180)) (C := RX2) (T := TX2) (N := 5) hx hb hts hinX2 hown hK hP 0 rfl rfl 0 (by decide) (hts (.fieldLink RX2 11 "MixedWords$Least" "square" "[[J") (by decide +kernel)) (fun _ h9 => h9) rfl dX2_solve_143 ?_
  refine lv_iload hx hb dX2_solve_146 (lv_at hl 6 rfl) ?_
  refine lv_iconst (v := nI 0) hx hb dX2_solve_148 (by decide) ?_
  refine lv_iconst (v := nI 1) hx hb dX2_solve_149 (by decide) ?_
  refine lv_iload hx hb dX2_solve_150 (lv_at hl 6 rfl) ?_
  refine lv_ishl hx hb dX2_solve_152 ?_
  refine xt_i (y := nI 4) (by decide +kernel) ?_
  refine lv_iconst (v := nI 1) hx hb dX2_solve_153 (by decide) ?_
  refine lv_isub hx hb dX2_solve_154 ?_
  refine xt_i (y := nI 3) (by decide +kernel) ?_
  refine xj_l (wc := (wD_16 h cs qI_47 fL fA fQ qG_40 fJ)) (wr := [(h 106, .inr (2, [.ref (h 180), .ref (h 185), .ref (h 186), .ref (h 187), .long (fL 188)])), (h 185, .inl (cs 1, 4, .inr (.inl (fQ 185)))), (h 186, .inl (cs 0, 4, .inl (fA 186))), (h 187, .inl (cs 1, 4, .inr (.inl (fQ 187)))), (h 200, .inl (cs 3, 5, .inr (.inr (.inr (.inr (fun i => if i < 5 then some (h (i + 201)) else none)))))), (h 201, .inl (cs 0, 4, .inl ((qG_40 2) 0))), (h 202, .inl (cs 0, 4, .inl ((qG_40 2) 1))), (h 203, .inl (cs 0, 4, .inl ((qG_40 2) 2))), (h 204, .inl (cs 0, 4, .inl ((qG_40 2) 3))), (h 205, .inl (cs 0, 4, .inl ((qG_40 2) 4))), (h 211, .inl (cs 0, 5, .inl (fA 211)))]) hP hD hS hA [1, 2, 3, 4, 5] [0, 6, 7, 8, 9, 10, 11, 12, 13, 14, 15] rfl rfl (by decide) (by decide) (va_runS (As := [.ref (h 180), .int (nI 2), .int (nI 0), .int (nI 3)]) (rest := [.int (nI 1), .ref (h 187)]) ⟨hx, hb, hml, hown, hts⟩ (a_X2_determinant_55 l dC dI h cs H.size qI_47 fL fA fQ qG_40 fJ ) (va_cwS 4 hts gX2_solve_X2_determinant rfl rfl rfl (by decide +kernel) ⟨Nat.le_of_ble_eq_true rfl, Nat.le_of_ble_eq_true rfl⟩) (xpS (wc := (wD_16 h cs qI_47 fL fA fQ qG_40 fJ)) hP hD hK hN [1, 2, 3, 4, 5] rfl (by decide) _) rfl rfl hl.1 rfl (lv_room (Nat.le_of_ble_eq_true rfl)) dX2_solve_155 ⟨Nat.zero_le _, Nat.zero_le _⟩) (fun r_29 u_28 H locs hw hP hD hS => ?_)
  obtain ⟨hf_30, rfl⟩ := hw
  have hP : va_P (dC, dI) vwCl (wD_49 h cs qI_47 fL fA fQ qG_40 fJ) H := xP_sub hP [0, 11, 12, 13, 14, 15, 1, 2, 3, 4, 5, 6, 7, 8, 9, 10] rfl
  have hD : va_D A0 (wD_49 h cs qI_47 fL fA fQ qG_40 fJ) := hD.sub [0, 11, 12, 13, 14, 15, 1, 2, 3, 4, 5, 6, 7, 8, 9, 10] (by decide) rfl
  obtain rfl := hf_30
  refine xa_lastS hx hb hK hP hD hS 8 1 rfl rfl (by omega) (by decide) (by decide +kernel) dX2_solve_158 (fun H locs hP hD hS => ?_)
  refine lv_aload_n hx hb dX2_solve_159 rfl (lv_at hl 2 rfl) ?_
  refine lv_iload hx hb dX2_solve_160 (lv_at hl 0 rfl) ?_
  refine lv_iload hx hb dX2_solve_162 (lv_at hl 6 rfl) ?_
  refine xj_v (wc := (wD_18 h cs qI_47 fL fA fQ qG_40 fJ)) (wr := [(h 200, .inl (cs 3, 5, .inr (.inr (.inr (.inr (fun i => if i < 5 then some (h (i + 201)) else none)))))), (h 201, .inl (cs 0, 4, .inl ((qG_40 2) 0))), (h 202, .inl (cs 0, 4, .inl ((qG_40 2) 1))), (h 203, .inl (cs 0, 4, .inl ((qG_40 2) 2))), (h 204, .inl (cs 0, 4, .inl ((qG_40 2) 3))), (h 205, .inl (cs 0, 4, .inl ((qG_40 2) 4))), (h 211, .inl (cs 0, 5, .inl (fA 211)))]) hP hD hS hA [0, 1, 2, 3, 4, 5, 6, 7, 8] [9, 10, 11, 12, 13, 14, 15] rfl rfl (by decide) (by decide) (va_runV (As := [.int (nI 1), .int (nI 2)]) (rest := []) ⟨hx, hb, hml, hown, hts⟩ (a_X2_swapRight_57 l dC dI h cs H.size qI_47 fL fA fQ qG_40 fJ ) (cwV 2 hts gX2_solve_X2_swapRight rfl rfl rfl (by decide +kernel) ⟨Nat.le_of_ble_eq_true rfl, Nat.le_of_ble_eq_true rfl⟩) (xpV (wc := (wD_18 h cs qI_47 fL fA fQ qG_40 fJ)) hP hD hK hN [0, 1, 2, 3, 4, 5, 6, 7, 8] rfl (by decide) 0 (ci := 2) rfl rfl _) rfl rfl hl.1 rfl (lv_room (Nat.le_of_ble_eq_true rfl)) dX2_solve_164 ⟨Nat.zero_le _, Nat.zero_le _⟩) (fun u_31 H locs hw hP hD hS => ?_)
  obtain ⟨hf_33, rfl⟩ := hw
  have hP : va_P (dC, dI) vwCl (wD_49 h cs qI_47 fL fA fQ qG_40 fJ) H := xP_sub hP [7, 8, 9, 10, 11, 12, 13, 14, 15, 0, 1, 2, 3, 4, 5, 6] rfl
  have hD : va_D A0 (wD_49 h cs qI_47 fL fA fQ qG_40 fJ) := hD.sub [7, 8, 9, 10, 11, 12, 13, 14, 15, 0, 1, 2, 3, 4, 5, 6] (by decide) rfl
  refine lv_iinc (v := nI 2) (lv' := [(5, .int (nI 2)), (6, .int (nI 2)), (0, .ref (h 106)), (1, .ref (h 200)), (2, .ref (h 211)), (3, .int (nI 2)), (4, .int (nI 2))]) hx hb dX2_solve_167 hl (k := 0) rfl (by decide +kernel) (by decide) rfl (fun ls hl => ?_)
  refine lv_goto (tgt := 121) hx hb dX2_solve_170 (by decide) ?_
  refine lv_iload hx hb dX2_solve_121 (lv_at hl 0 rfl) ?_
  refine lv_iload hx hb dX2_solve_123 (lv_at hl 6 rfl) ?_
  refine lv_icmp_ge (tgt := 173) hx hb dX2_solve_125 (by decide) (fun _ => ?_) (fun c9 => False.elim (by revert c9; decide +kernel))
  exact xr_v hx hb hr hlocks hK hS dX2_solve_173 (qI_47, fL, fA, fQ, qG_40, fJ) ⟨trivial, rfl⟩ hP hD
set_option maxRecDepth 20000 in
theorem ggX9_ledWord_X1_lead : GoodIn wsX9_ledWord wsX1_lead := goodIn_r _ [16, 17, 18, 19, 20, 21, 22, 23, 15, 24, 25, 26, 27, 28, 29, 30, 31, 32, 33, 34, 35, 36, 37, 38, 39, 40, 41, 42, 43, 44, 45, 46, 47, 48, 49, 50, 51, 52, 111, 112, 113, 114, 115, 116, 117, 118, 119, 120, 121, 122] (by decide +kernel) (by decide +kernel)
set_option maxRecDepth 20000 in
theorem gX9_ledWord_X1_lead : GoodIn wsX9_ledWord (wsV RX9 233 RX1 yX1_lead wsX1_lead) := goodIn_app (goodIn_of _ (by decide +kernel)) ggX9_ledWord_X1_lead
set_option maxRecDepth 20000 in
theorem ggX9_ledWord_X1_aim : GoodIn wsX9_ledWord wsX1_aim := goodIn_r _ [56, 18, 41, 36, 25, 57, 58, 59, 111, 112, 113, 114, 115, 116, 117, 118, 119, 120, 121, 122] (by decide +kernel) (by decide +kernel)
set_option maxRecDepth 20000 in
theorem gX9_ledWord_X1_aim : GoodIn wsX9_ledWord (wsV RX9 246 RX1 yX1_aim wsX1_aim) := goodIn_app (goodIn_of _ (by decide +kernel)) ggX9_ledWord_X1_aim
set_option maxRecDepth 20000 in
theorem ggX9_ledWord_X2_solve : GoodIn wsX9_ledWord wsX2_solve := goodIn_r _ [64, 65, 66, 67, 68, 46, 47, 48, 69, 70, 63, 71, 72, 73, 74, 75, 123, 124, 125, 126, 127] (by decide +kernel) (by decide +kernel)
set_option maxRecDepth 20000 in
theorem gX9_ledWord_X2_solve : GoodIn wsX9_ledWord (wsV RX9 188 RX2 yX2_solve wsX2_solve) := goodIn_app (goodIn_of _ (by decide +kernel)) ggX9_ledWord_X2_solve
set_option maxRecDepth 20000 in
theorem ggX9_ledWord_X9_nearestHalf : GoodIn wsX9_ledWord wsX9_nearestHalf := goodIn_r _ [78, 79, 80, 81, 47, 82, 83, 84, 85, 86] (by decide +kernel) (by decide +kernel)
set_option maxRecDepth 20000 in
theorem gX9_ledWord_X9_nearestHalf : GoodIn wsX9_ledWord (va_wsS RX9 252 yX9_nearestHalf wsX9_nearestHalf) := goodIn_app (goodIn_of _ (by decide +kernel)) ggX9_ledWord_X9_nearestHalf
set_option maxRecDepth 20000 in
theorem ggX9_ledWord_X9_held : GoodIn wsX9_ledWord wsX9_held := goodIn_r _ [89, 90, 91, 44, 92, 93, 94, 95] (by decide +kernel) (by decide +kernel)
set_option maxRecDepth 20000 in
theorem gX9_ledWord_X9_held : GoodIn wsX9_ledWord (va_wsS RX9 255 yX9_held wsX9_held) := goodIn_app (goodIn_of _ (by decide +kernel)) ggX9_ledWord_X9_held
set_option maxRecDepth 20000 in
theorem ggX9_ledWord_X3_follow : GoodIn wsX9_ledWord wsX3_follow := goodIn_r _ [100, 101, 117, 118, 119, 120, 121, 122] (by decide +kernel) (by decide +kernel)
set_option maxRecDepth 20000 in
theorem gX9_ledWord_X3_follow : GoodIn wsX9_ledWord (wsV RX9 204 RX3 yX3_follow wsX3_follow) := goodIn_app (goodIn_of _ (by decide +kernel)) ggX9_ledWord_X3_follow
theorem dX9_ledWord_0 : decode cX9_ledWord 0 = .ok (.aload_n 0, 1) := by decide +kernel
theorem dX9_ledWord_1 : decode cX9_ledWord 1 = .ok (.getfield 65, 3) := by decide +kernel
theorem dX9_ledWord_4 : decode cX9_ledWord 4 = .ok (.invokevirtual 233, 3) := by decide +kernel
theorem dX9_ledWord_7 : decode cX9_ledWord 7 = .ok (.aload_n 0, 1) := by decide +kernel
theorem dX9_ledWord_8 : decode cX9_ledWord 8 = .ok (.getfield 65, 3) := by decide +kernel
theorem dX9_ledWord_11 : decode cX9_ledWord 11 = .ok (.invokevirtual 246, 3) := by decide +kernel
theorem dX9_ledWord_14 : decode cX9_ledWord 14 = .ok (.aload_n 0, 1) := by decide +kernel
theorem dX9_ledWord_15 : decode cX9_ledWord 15 = .ok (.getfield 51, 3) := by decide +kernel
theorem dX9_ledWord_18 : decode cX9_ledWord 18 = .ok (.aload_n 0, 1) := by decide +kernel
theorem dX9_ledWord_19 : decode cX9_ledWord 19 = .ok (.getfield 65, 3) := by decide +kernel
theorem dX9_ledWord_22 : decode cX9_ledWord 22 = .ok (.getfield 240, 3) := by decide +kernel
theorem dX9_ledWord_25 : decode cX9_ledWord 25 = .ok (.aload_n 0, 1) := by decide +kernel
theorem dX9_ledWord_26 : decode cX9_ledWord 26 = .ok (.getfield 65, 3) := by decide +kernel
theorem dX9_ledWord_29 : decode cX9_ledWord 29 = .ok (.getfield 249, 3) := by decide +kernel
theorem dX9_ledWord_32 : decode cX9_ledWord 32 = .ok (.aload_n 0, 1) := by decide +kernel
theorem dX9_ledWord_33 : decode cX9_ledWord 33 = .ok (.getfield 12, 3) := by decide +kernel
theorem dX9_ledWord_36 : decode cX9_ledWord 36 = .ok (.getfield 147, 3) := by decide +kernel
theorem dX9_ledWord_39 : decode cX9_ledWord 39 = .ok (.aload_n 0, 1) := by decide +kernel
theorem dX9_ledWord_40 : decode cX9_ledWord 40 = .ok (.getfield 12, 3) := by decide +kernel
theorem dX9_ledWord_43 : decode cX9_ledWord 43 = .ok (.getfield 106, 3) := by decide +kernel
theorem dX9_ledWord_46 : decode cX9_ledWord 46 = .ok (.invokevirtual 188, 3) := by decide +kernel
theorem dX9_ledWord_49 : decode cX9_ledWord 49 = .ok (.aload_n 0, 1) := by decide +kernel
theorem dX9_ledWord_50 : decode cX9_ledWord 50 = .ok (.getfield 51, 3) := by decide +kernel
theorem dX9_ledWord_53 : decode cX9_ledWord 53 = .ok (.getfield 192, 3) := by decide +kernel
theorem dX9_ledWord_56 : decode cX9_ledWord 56 = .ok (.lconst 0, 1) := by decide +kernel
theorem dX9_ledWord_57 : decode cX9_ledWord 57 = .ok (.lcmp, 1) := by decide +kernel
theorem dX9_ledWord_58 : decode cX9_ledWord 58 = .ok (.ifCond .gt 6, 3) := by decide +kernel
theorem dX9_ledWord_61 : decode cX9_ledWord 61 = .ok (.bipush (-2), 2) := by decide +kernel
theorem dX9_ledWord_63 : decode cX9_ledWord 63 = .ok (.ireturn, 1) := by decide +kernel
theorem dX9_ledWord_64 : decode cX9_ledWord 64 = .ok (.iconst 0, 1) := by decide +kernel
theorem dX9_ledWord_65 : decode cX9_ledWord 65 = .ok (.istore_n 1, 1) := by decide +kernel
theorem dX9_ledWord_66 : decode cX9_ledWord 66 = .ok (.iconst 0, 1) := by decide +kernel
theorem dX9_ledWord_67 : decode cX9_ledWord 67 = .ok (.istore_n 2, 1) := by decide +kernel
theorem dX9_ledWord_68 : decode cX9_ledWord 68 = .ok (.iload_n 2, 1) := by decide +kernel
theorem dX9_ledWord_69 : decode cX9_ledWord 69 = .ok (.aload_n 0, 1) := by decide +kernel
theorem dX9_ledWord_70 : decode cX9_ledWord 70 = .ok (.getfield 12, 3) := by decide +kernel
theorem dX9_ledWord_73 : decode cX9_ledWord 73 = .ok (.getfield 106, 3) := by decide +kernel
theorem dX9_ledWord_76 : decode cX9_ledWord 76 = .ok (.if_icmp .ge 89, 3) := by decide +kernel
theorem dX9_ledWord_79 : decode cX9_ledWord 79 = .ok (.lconst 0, 1) := by decide +kernel
theorem dX9_ledWord_80 : decode cX9_ledWord 80 = .ok (.lstore_n 3, 1) := by decide +kernel
theorem dX9_ledWord_81 : decode cX9_ledWord 81 = .ok (.iconst 0, 1) := by decide +kernel
theorem dX9_ledWord_82 : decode cX9_ledWord 82 = .ok (.istore 5, 2) := by decide +kernel
theorem dX9_ledWord_84 : decode cX9_ledWord 84 = .ok (.iload 5, 2) := by decide +kernel
theorem dX9_ledWord_86 : decode cX9_ledWord 86 = .ok (.aload_n 0, 1) := by decide +kernel
theorem dX9_ledWord_87 : decode cX9_ledWord 87 = .ok (.getfield 12, 3) := by decide +kernel
theorem dX9_ledWord_90 : decode cX9_ledWord 90 = .ok (.getfield 106, 3) := by decide +kernel
theorem dX9_ledWord_93 : decode cX9_ledWord 93 = .ok (.if_icmp .ge 46, 3) := by decide +kernel
theorem dX9_ledWord_96 : decode cX9_ledWord 96 = .ok (.lload_n 3, 1) := by decide +kernel
theorem dX9_ledWord_97 : decode cX9_ledWord 97 = .ok (.aload_n 0, 1) := by decide +kernel
theorem dX9_ledWord_98 : decode cX9_ledWord 98 = .ok (.getfield 65, 3) := by decide +kernel
theorem dX9_ledWord_101 : decode cX9_ledWord 101 = .ok (.getfield 243, 3) := by decide +kernel
theorem dX9_ledWord_104 : decode cX9_ledWord 104 = .ok (.iload_n 2, 1) := by decide +kernel
theorem dX9_ledWord_105 : decode cX9_ledWord 105 = .ok (.aaload, 1) := by decide +kernel
theorem dX9_ledWord_106 : decode cX9_ledWord 106 = .ok (.iload 5, 2) := by decide +kernel
theorem dX9_ledWord_108 : decode cX9_ledWord 108 = .ok (.iaload, 1) := by decide +kernel
theorem dX9_ledWord_109 : decode cX9_ledWord 109 = .ok (.i2l, 1) := by decide +kernel
theorem dX9_ledWord_110 : decode cX9_ledWord 110 = .ok (.aload_n 0, 1) := by decide +kernel
theorem dX9_ledWord_111 : decode cX9_ledWord 111 = .ok (.getfield 51, 3) := by decide +kernel
theorem dX9_ledWord_114 : decode cX9_ledWord 114 = .ok (.getfield 196, 3) := by decide +kernel
theorem dX9_ledWord_117 : decode cX9_ledWord 117 = .ok (.iload 5, 2) := by decide +kernel
theorem dX9_ledWord_119 : decode cX9_ledWord 119 = .ok (.laload, 1) := by decide +kernel
theorem dX9_ledWord_120 : decode cX9_ledWord 120 = .ok (.aload_n 0, 1) := by decide +kernel
theorem dX9_ledWord_121 : decode cX9_ledWord 121 = .ok (.getfield 51, 3) := by decide +kernel
theorem dX9_ledWord_124 : decode cX9_ledWord 124 = .ok (.getfield 192, 3) := by decide +kernel
theorem dX9_ledWord_127 : decode cX9_ledWord 127 = .ok (.invokestatic 252, 3) := by decide +kernel
theorem dX9_ledWord_130 : decode cX9_ledWord 130 = .ok (.lmul, 1) := by decide +kernel
theorem dX9_ledWord_131 : decode cX9_ledWord 131 = .ok (.ladd, 1) := by decide +kernel
theorem dX9_ledWord_132 : decode cX9_ledWord 132 = .ok (.lstore_n 3, 1) := by decide +kernel
theorem dX9_ledWord_133 : decode cX9_ledWord 133 = .ok (.iinc 5 1, 3) := by decide +kernel
theorem dX9_ledWord_136 : decode cX9_ledWord 136 = .ok (.goto (-52), 3) := by decide +kernel
theorem dX9_ledWord_139 : decode cX9_ledWord 139 = .ok (.aload_n 0, 1) := by decide +kernel
theorem dX9_ledWord_140 : decode cX9_ledWord 140 = .ok (.getfield 12, 3) := by decide +kernel
theorem dX9_ledWord_143 : decode cX9_ledWord 143 = .ok (.iload_n 1, 1) := by decide +kernel
theorem dX9_ledWord_144 : decode cX9_ledWord 144 = .ok (.lload_n 3, 1) := by decide +kernel
theorem dX9_ledWord_145 : decode cX9_ledWord 145 = .ok (.aload_n 0, 1) := by decide +kernel
theorem dX9_ledWord_146 : decode cX9_ledWord 146 = .ok (.getfield 12, 3) := by decide +kernel
theorem dX9_ledWord_149 : decode cX9_ledWord 149 = .ok (.getfield 83, 3) := by decide +kernel
theorem dX9_ledWord_152 : decode cX9_ledWord 152 = .ok (.invokestatic 255, 3) := by decide +kernel
theorem dX9_ledWord_155 : decode cX9_ledWord 155 = .ok (.invokevirtual 204, 3) := by decide +kernel
theorem dX9_ledWord_158 : decode cX9_ledWord 158 = .ok (.istore_n 1, 1) := by decide +kernel
theorem dX9_ledWord_159 : decode cX9_ledWord 159 = .ok (.iinc 2 1, 3) := by decide +kernel
theorem dX9_ledWord_162 : decode cX9_ledWord 162 = .ok (.goto (-94), 3) := by decide +kernel
theorem dX9_ledWord_165 : decode cX9_ledWord 165 = .ok (.iload_n 1, 1) := by decide +kernel
theorem dX9_ledWord_166 : decode cX9_ledWord 166 = .ok (.ireturn, 1) := by decide +kernel
set_option maxHeartbeats 4000000 in
set_option maxRecDepth 100000 in
theorem f_X9_ledWord (l : Launch) (dC : Nat → ClassId) (dI : Nat → Nat → Nat) (h : Nat → Nat) (cs : Nat → ClassId) (sz : Nat) (I : Nat → Int32) (L : Nat → Int64) (A : Nat → Nat → Int32) (Q : Nat → Nat → Int64) (G : Nat → Nat → Nat → Int32) (J : Nat → Nat → Nat → Int64) : Met l yX9_ledWord wsX9_ledWord ({ frames := 7, cells := 0, slots := 0, locals := 254 }) (va_Pc [.ref (h 100)] (xPre (dC, dI) (wAll h cs fI fL fA fQ fG fJ) (tysA cs) sz)) (va_Qi (fun (r : Int32) (u : CS) => (r = (-2)) ∧ u = (qI_47, fL, fA, fQ, qG_40, fJ)) (xB (dC, dI) (tysA cs) (va_A (wAll h cs fI fL fA fQ fG fJ) sz) (fun u : CS => wAll h cs u.1 u.2.1 u.2.2.1 u.2.2.2.1 u.2.2.2.2.1 u.2.2.2.2.2)) (va_A (wAll h cs fI fL fA fQ fG fJ) sz)) 0 0 (va_A (wAll h cs fI fL fA fQ fG fJ) sz) := by
  refine Met.ofW (cc := cX9_ledWord) (maxL := 6) (ret := (some .int)) (by decide) rfl ?_
  intro p e s m args below meth c s₁ B hml hv
  obtain ⟨rfl, hsz, hP, hK, hD0, hN⟩ := hv
  have hx := B.exec
  have hb := B.bytes
  have hr := B.returns
  have hts := atoms_spec (ws := wsX9_ledWord) B.pre
  have hown : s.vm.findClass RX9 = some m.cls := findClass_of_methodNamed B.named
  have hlocks := B.notSynchronized
  subst hsz
  have hD := hD0.self (sz := s.heap.size)
  generalize hAe : va_A (wAll h cs fI fL fA fQ fG fJ) s.heap.size = A0 at hD ⊢
  have hA : ∀ q : Nat, s.heap.size ≤ q → A0 q := fun q h => by rw [← hAe]; exact Or.inr h
  have hl := lv_entry ([.ref (h 100)]) (n := 6) (Nat.le_of_ble_eq_true rfl)
  rw [lg_entry_eq]
  generalize (lg_sl ([.ref (h 100)]) ++ List.replicate (6 - (lg_sl ([.ref (h 100)])).length) Slot.unset).toArray = ls at hl ⊢
  have hl : lv_has ls 6 [(0, .ref (h 100))] := hl
  generalize hH : s.heap = H at hP ⊢
  have hS : va_S A0 s.heap H [] := by rw [← hH]; exact va_S.rf
  have hinX9 : ∀ w ∈ wsX90, w ∈ wsX9_ledWord := by decide +kernel
  have hinX1 : ∀ w ∈ wsX10, w ∈ wsX9_ledWord := by decide +kernel
  have hinX3 : ∀ w ∈ wsX30, w ∈ wsX9_ledWord := by decide +kernel
  have hinX2 : ∀ w ∈ wsX20, w ∈ wsX9_ledWord := by decide +kernel
  refine lv_aload_n hx hb dX9_ledWord_0 rfl (lv_at hl 0 rfl) ?_
  refine va_get (D := (dC, dI)) (ci := 9) (v := .ref (h 108)) (C := RX9) (T := TX9) (N := 9) hx hb hts hinX9 hown hK hP 0 rfl rfl 7 (by decide) (hts (.fieldLink RX9 65 "MixedWords" "leader" "LMixedWords$Leader;") (by decide +kernel)) (fun _ h9 => h9) rfl dX9_ledWord_1 ?_
  refine xj_v (wc := (wD_34 h cs fI fL fA fQ fG fJ)) (wr := [(h 100, .inr (9, [.ref (h 101), .ref (h 102), .ref (h 103), .ref (h 104), .ref (h 105), .ref (h 106), .ref (h 107), .ref (h 108), .ref (h 109)])), (h 102, .inr (0, [.ref (h 101), .ref (h 140), .ref (h 141), .ref (h 142), .ref (h 143), .int (fI 144), .int (fI 145), .int (fI 146)])), (h 140, .inl (cs 0, 40, .inl (fA 140))), (h 141, .inl (cs 0, 40, .inl (fA 141))), (h 142, .inl (cs 0, 40, .inl (fA 142))), (h 143, .inl (cs 0, 40, .inl (fA 143))), (h 103, .inr (7, [.ref (h 150), .int (fI 151)])), (h 150, .inl (cs 2, 90, .inl (fA 150))), (h 104, .inr (4, [.ref (h 103), .ref (h 160), .int (fI 166), .int (fI 167), .int (fI 168), .int (fI 169)])), (h 160, .inl (cs 3, 5, .inr (.inr (.inr (.inr (fun i => if i < 5 then some (h (i + 161)) else none)))))), (h 161, .inl (cs 0, 4, .inl ((fG 1) 0))), (h 162, .inl (cs 0, 4, .inl ((fG 1) 1))), (h 163, .inl (cs 0, 4, .inl ((fG 1) 2))), (h 164, .inl (cs 0, 4, .inl ((fG 1) 3))), (h 165, .inl (cs 0, 4, .inl ((fG 1) 4))), (h 105, .inr (8, [.ref (h 101), .ref (h 170), .ref (h 171), .ref (h 172), .int (fI 173), .int (fI 174)])), (h 170, .inl (cs 0, 256, .inl (fA 170))), (h 171, .inl (cs 0, 256, .inl (fA 171))), (h 172, .inl (cs 0, 256, .inl (fA 172))), (h 106, .inr (2, [.ref (h 180), .ref (h 185), .ref (h 186), .ref (h 187), .long (fL 188)])), (h 180, .inl (cs 4, 4, .inr (.inr (.inr (.inr (fun i => if i < 4 then some (h (i + 181)) else none)))))), (h 181, .inl (cs 1, 4, .inr (.inl ((fJ 0) 0)))), (h 182, .inl (cs 1, 4, .inr (.inl ((fJ 0) 1)))), (h 183, .inl (cs 1, 4, .inr (.inl ((fJ 0) 2)))), (h 184, .inl (cs 1, 4, .inr (.inl ((fJ 0) 3)))), (h 185, .inl (cs 1, 4, .inr (.inl (fQ 185)))), (h 186, .inl (cs 0, 4, .inl (fA 186))), (h 187, .inl (cs 1, 4, .inr (.inl (fQ 187)))), (h 107, .inr (6, [.ref (h 101), .ref (h 190), .ref (h 191), .ref (h 192)])), (h 190, .inl (cs 0, 5, .inl (fA 190))), (h 191, .inl (cs 0, 4, .inl (fA 191))), (h 192, .inl (cs 0, 4, .inl (fA 192))), (h 109, .inl (cs 5, 4, .inr (.inr (.inr (.inr (fun i => if i < 4 then some (h (i + 110)) else none)))))), (h 110, .inr (5, [.int (fI 220), .int (fI 224), .ref (h 228)])), (h 228, .inl (cs 1, 25, .inr (.inl (fQ 228)))), (h 111, .inr (5, [.int (fI 221), .int (fI 225), .ref (h 229)])), (h 229, .inl (cs 1, 25, .inr (.inl (fQ 229)))), (h 112, .inr (5, [.int (fI 222), .int (fI 226), .ref (h 230)])), (h 230, .inl (cs 1, 25, .inr (.inl (fQ 230)))), (h 113, .inr (5, [.int (fI 223), .int (fI 227), .ref (h 231)])), (h 231, .inl (cs 1, 25, .inr (.inl (fQ 231))))]) hP hD hS hA [40, 1, 2, 3, 4, 5, 6, 7, 8, 41, 42, 43, 44, 45, 46, 47, 48, 49, 50, 51, 52] [0, 9, 10, 11, 12, 13, 14, 15, 16, 17, 18, 19, 20, 21, 22, 23, 24, 25, 26, 27, 28, 29, 30, 31, 32, 33, 34, 35, 36, 37, 38, 39, 53, 54, 55, 56, 57, 58, 59, 60, 61] rfl rfl (by decide) (by decide) (va_runV (As := []) (rest := []) ⟨hx, hb, hml, hown, hts⟩ (a_X1_lead_35 l dC dI h cs H.size fI fL fA fQ fG fJ ) (cwV 0 hts gX9_ledWord_X1_lead rfl rfl rfl (by decide +kernel) ⟨Nat.le_of_ble_eq_true rfl, Nat.le_of_ble_eq_true rfl⟩) (xpV (wc := (wD_34 h cs fI fL fA fQ fG fJ)) hP hD hK hN [40, 1, 2, 3, 4, 5, 6, 7, 8, 41, 42, 43, 44, 45, 46, 47, 48, 49, 50, 51, 52] rfl (by decide) 40 (ci := 1) rfl rfl _) rfl rfl hl.1 rfl (lv_room (Nat.le_of_ble_eq_true rfl)) dX9_ledWord_4 ⟨Nat.zero_le _, Nat.zero_le _⟩) (fun u_1 H locs hw hP hD hS => ?_)
  obtain ⟨hf_3, rfl⟩ := hw
  have hP : va_P (dC, dI) vwCl (wAll h cs qI_47 fL fA fQ qG_40 fJ) H := xP_sub hP [0, 42, 43, 44, 45, 46, 47, 48, 49, 1, 2, 3, 4, 5, 6, 7, 8, 9, 10, 11, 12, 13, 14, 15, 16, 17, 18, 19, 20, 21, 22, 23, 24, 25, 26, 27, 28, 29, 30, 31, 41, 50, 51, 52, 53, 54, 55, 56, 57, 58, 59, 60, 61, 32, 33, 34, 35, 36, 37, 38, 39, 40] rfl
  have hD : va_D A0 (wAll h cs qI_47 fL fA fQ qG_40 fJ) := hD.sub [0, 42, 43, 44, 45, 46, 47, 48, 49, 1, 2, 3, 4, 5, 6, 7, 8, 9, 10, 11, 12, 13, 14, 15, 16, 17, 18, 19, 20, 21, 22, 23, 24, 25, 26, 27, 28, 29, 30, 31, 41, 50, 51, 52, 53, 54, 55, 56, 57, 58, 59, 60, 61, 32, 33, 34, 35, 36, 37, 38, 39, 40] (by decide) rfl
  refine lv_aload_n hx hb dX9_ledWord_7 rfl (lv_at hl 0 rfl) ?_
  refine va_get (D := (dC, dI)) (ci := 9) (v := .ref (h 108)) (C := RX9) (T := TX9) (N := 9) hx hb hts hinX9 hown hK hP 0 rfl rfl 7 (by decide) (hts (.fieldLink RX9 65 "MixedWords" "leader" "LMixedWords$Leader;") (by decide +kernel)) (fun _ h9 => h9) rfl dX9_ledWord_8 ?_
  refine xj_v (wc := (wD_34 h cs qI_47 fL fA fQ qG_40 fJ)) (wr := [(h 100, .inr (9, [.ref (h 101), .ref (h 102), .ref (h 103), .ref (h 104), .ref (h 105), .ref (h 106), .ref (h 107), .ref (h 108), .ref (h 109)])), (h 102, .inr (0, [.ref (h 101), .ref (h 140), .ref (h 141), .ref (h 142), .ref (h 143), .int (qI_47 144), .int (qI_47 145), .int (qI_47 146)])), (h 140, .inl (cs 0, 40, .inl (fA 140))), (h 141, .inl (cs 0, 40, .inl (fA 141))), (h 142, .inl (cs 0, 40, .inl (fA 142))), (h 143, .inl (cs 0, 40, .inl (fA 143))), (h 103, .inr (7, [.ref (h 150), .int (qI_47 151)])), (h 150, .inl (cs 2, 90, .inl (fA 150))), (h 104, .inr (4, [.ref (h 103), .ref (h 160), .int (qI_47 166), .int (qI_47 167), .int (qI_47 168), .int (qI_47 169)])), (h 160, .inl (cs 3, 5, .inr (.inr (.inr (.inr (fun i => if i < 5 then some (h (i + 161)) else none)))))), (h 161, .inl (cs 0, 4, .inl ((qG_40 1) 0))), (h 162, .inl (cs 0, 4, .inl ((qG_40 1) 1))), (h 163, .inl (cs 0, 4, .inl ((qG_40 1) 2))), (h 164, .inl (cs 0, 4, .inl ((qG_40 1) 3))), (h 165, .inl (cs 0, 4, .inl ((qG_40 1) 4))), (h 105, .inr (8, [.ref (h 101), .ref (h 170), .ref (h 171), .ref (h 172), .int (qI_47 173), .int (qI_47 174)])), (h 170, .inl (cs 0, 256, .inl (fA 170))), (h 171, .inl (cs 0, 256, .inl (fA 171))), (h 172, .inl (cs 0, 256, .inl (fA 172))), (h 106, .inr (2, [.ref (h 180), .ref (h 185), .ref (h 186), .ref (h 187), .long (fL 188)])), (h 180, .inl (cs 4, 4, .inr (.inr (.inr (.inr (fun i => if i < 4 then some (h (i + 181)) else none)))))), (h 181, .inl (cs 1, 4, .inr (.inl ((fJ 0) 0)))), (h 182, .inl (cs 1, 4, .inr (.inl ((fJ 0) 1)))), (h 183, .inl (cs 1, 4, .inr (.inl ((fJ 0) 2)))), (h 184, .inl (cs 1, 4, .inr (.inl ((fJ 0) 3)))), (h 185, .inl (cs 1, 4, .inr (.inl (fQ 185)))), (h 186, .inl (cs 0, 4, .inl (fA 186))), (h 187, .inl (cs 1, 4, .inr (.inl (fQ 187)))), (h 107, .inr (6, [.ref (h 101), .ref (h 190), .ref (h 191), .ref (h 192)])), (h 190, .inl (cs 0, 5, .inl (fA 190))), (h 191, .inl (cs 0, 4, .inl (fA 191))), (h 192, .inl (cs 0, 4, .inl (fA 192))), (h 109, .inl (cs 5, 4, .inr (.inr (.inr (.inr (fun i => if i < 4 then some (h (i + 110)) else none)))))), (h 110, .inr (5, [.int (qI_47 220), .int (qI_47 224), .ref (h 228)])), (h 228, .inl (cs 1, 25, .inr (.inl (fQ 228)))), (h 111, .inr (5, [.int (qI_47 221), .int (qI_47 225), .ref (h 229)])), (h 229, .inl (cs 1, 25, .inr (.inl (fQ 229)))), (h 112, .inr (5, [.int (qI_47 222), .int (qI_47 226), .ref (h 230)])), (h 230, .inl (cs 1, 25, .inr (.inl (fQ 230)))), (h 113, .inr (5, [.int (qI_47 223), .int (qI_47 227), .ref (h 231)])), (h 231, .inl (cs 1, 25, .inr (.inl (fQ 231))))]) hP hD hS hA [40, 1, 2, 3, 4, 5, 6, 7, 8, 41, 42, 43, 44, 45, 46, 47, 48, 49, 50, 51, 52] [0, 9, 10, 11, 12, 13, 14, 15, 16, 17, 18, 19, 20, 21, 22, 23, 24, 25, 26, 27, 28, 29, 30, 31, 32, 33, 34, 35, 36, 37, 38, 39, 53, 54, 55, 56, 57, 58, 59, 60, 61] rfl rfl (by decide) (by decide) (va_runV (As := []) (rest := []) ⟨hx, hb, hml, hown, hts⟩ (a_X1_aim_48 l dC dI h cs H.size qI_47 fL fA fQ qG_40 fJ ) (cwV 0 hts gX9_ledWord_X1_aim rfl rfl rfl (by decide +kernel) ⟨Nat.le_of_ble_eq_true rfl, Nat.le_of_ble_eq_true rfl⟩) (xpV (wc := (wD_34 h cs qI_47 fL fA fQ qG_40 fJ)) hP hD hK hN [40, 1, 2, 3, 4, 5, 6, 7, 8, 41, 42, 43, 44, 45, 46, 47, 48, 49, 50, 51, 52] rfl (by decide) 40 (ci := 1) rfl rfl _) rfl rfl hl.1 rfl (lv_room (Nat.le_of_ble_eq_true rfl)) dX9_ledWord_11 ⟨Nat.zero_le _, Nat.zero_le _⟩) (fun u_4 H locs hw hP hD hS => ?_)
  obtain ⟨hf_6, rfl⟩ := hw
  have hP : va_P (dC, dI) vwCl (wAll h cs qI_47 fL fA fQ qG_40 fJ) H := xP_sub hP [0, 42, 43, 44, 45, 46, 47, 48, 49, 1, 2, 3, 4, 5, 6, 7, 8, 9, 10, 11, 12, 13, 14, 15, 16, 17, 18, 19, 20, 21, 22, 23, 24, 25, 26, 27, 28, 29, 30, 31, 41, 50, 51, 52, 53, 54, 55, 56, 57, 58, 59, 60, 61, 32, 33, 34, 35, 36, 37, 38, 39, 40] rfl
  have hD : va_D A0 (wAll h cs qI_47 fL fA fQ qG_40 fJ) := hD.sub [0, 42, 43, 44, 45, 46, 47, 48, 49, 1, 2, 3, 4, 5, 6, 7, 8, 9, 10, 11, 12, 13, 14, 15, 16, 17, 18, 19, 20, 21, 22, 23, 24, 25, 26, 27, 28, 29, 30, 31, 41, 50, 51, 52, 53, 54, 55, 56, 57, 58, 59, 60, 61, 32, 33, 34, 35, 36, 37, 38, 39, 40] (by decide) rfl
  refine lv_aload_n hx hb dX9_ledWord_14 rfl (lv_at hl 0 rfl) ?_
  refine va_get (D := (dC, dI)) (ci := 9) (v := .ref (h 106)) (C := RX9) (T := TX9) (N := 9) hx hb hts hinX9 hown hK hP 0 rfl rfl 5 (by decide) (hts (.fieldLink RX9 51 "MixedWords" "least" "LMixedWords$Least;") (by decide +kernel)) (fun _ h9 => h9) rfl dX9_ledWord_15 ?_
  refine lv_aload_n hx hb dX9_ledWord_18 rfl (lv_at hl 0 rfl) ?_
  refine va_get (D := (dC, dI)) (ci := 9) (v := .ref (h 108)) (C := RX9) (T := TX9) (N := 9) hx hb hts hinX9 hown hK hP 0 rfl rfl 7 (by decide) (hts (.fieldLink RX9 65 "MixedWords" "leader" "LMixedWords$Leader;") (by decide +kernel)) (fun _ h9 => h9) rfl dX9_ledWord_19 ?_
  refine va_get (D := (dC, dI)) (ci := 1) (v := .ref (h 200)) (C := RX1) (T := TX1) (N := 6) hx hb hts hinX1 hown hK hP 40 rfl rfl 1 (by decide) (hts (.fieldLink RX9 240 "MixedWords$Leader" "columns" "[[I") (by decide +kernel)) (fun _ h9 => h9) rfl dX9_ledWord_22 ?_
  refine lv_aload_n hx hb dX9_ledWord_25 rfl (lv_at hl 0 rfl) ?_
  refine va_get (D := (dC, dI)) (ci := 9) (v := .ref (h 108)) (C := RX9) (T := TX9) (N := 9) hx hb hts hinX9 hown hK hP 0 rfl rfl 7 (by decide) (hts (.fieldLink RX9 65 "MixedWords" "leader" "LMixedWords$Leader;") (by decide +kernel)) (fun _ h9 => h9) rfl dX9_ledWord_26 ?_
  refine va_get (D := (dC, dI)) (ci := 1) (v := .ref (h 211)) (C := RX1) (T := TX1) (N := 6) hx hb hts hinX1 hown hK hP 40 rfl rfl 3 (by decide) (hts (.fieldLink RX9 249 "MixedWords$Leader" "target" "[I") (by decide +kernel)) (fun _ h9 => h9) rfl dX9_ledWord_29 ?_
  refine lv_aload_n hx hb dX9_ledWord_32 rfl (lv_at hl 0 rfl) ?_
  refine va_get (D := (dC, dI)) (ci := 9) (v := .ref (h 101)) (C := RX9) (T := TX9) (N := 9) hx hb hts hinX9 hown hK hP 0 rfl rfl 0 (by decide) (hts (.fieldLink RX9 12 "MixedWords" "mix" "LMixedWords$Mix;") (by decide +kernel)) (fun _ h9 => h9) rfl dX9_ledWord_33 ?_
  refine va_get (D := (dC, dI)) (ci := 3) (v := .int (qI_47 120)) (C := RX3) (T := TX3) (N := 6) hx hb hts hinX3 hown hK hP 1 rfl rfl 0 (by decide) (hts (.fieldLink RX9 147 "MixedWords$Mix" "height" "I") (by decide +kernel)) (fun _ h9 => h9) rfl dX9_ledWord_36 ?_
  refine xt_i (y := nI 2) (by decide +kernel) ?_
  refine lv_aload_n hx hb dX9_ledWord_39 rfl (lv_at hl 0 rfl) ?_
  refine va_get (D := (dC, dI)) (ci := 9) (v := .ref (h 101)) (C := RX9) (T := TX9) (N := 9) hx hb hts hinX9 hown hK hP 0 rfl rfl 0 (by decide) (hts (.fieldLink RX9 12 "MixedWords" "mix" "LMixedWords$Mix;") (by decide +kernel)) (fun _ h9 => h9) rfl dX9_ledWord_40 ?_
  refine va_get (D := (dC, dI)) (ci := 3) (v := .int (qI_47 121)) (C := RX3) (T := TX3) (N := 6) hx hb hts hinX3 hown hK hP 1 rfl rfl 1 (by decide) (hts (.fieldLink RX9 106 "MixedWords$Mix" "width" "I") (by decide +kernel)) (fun _ h9 => h9) rfl dX9_ledWord_43 ?_
  refine xt_i (y := nI 2) (by decide +kernel) ?_
  refine xj_v (wc := (wD_49 h cs qI_47 fL fA fQ qG_40 fJ)) (wr := [(h 100, .inr (9, [.ref (h 101), .ref (h 102), .ref (h 103), .ref (h 104), .ref (h 105), .ref (h 106), .ref (h 107), .ref (h 108), .ref (h 109)])), (h 101, .inr (3, [.int (qI_47 120), .int (qI_47 121), .int (qI_47 122), .int (qI_47 123), .ref (h 130), .ref (h 136)])), (h 130, .inl (cs 3, 5, .inr (.inr (.inr (.inr (fun i => if i < 5 then some (h (i + 131)) else none)))))), (h 131, .inl (cs 0, 4, .inl ((qG_40 0) 0))), (h 132, .inl (cs 0, 4, .inl ((qG_40 0) 1))), (h 133, .inl (cs 0, 4, .inl ((qG_40 0) 2))), (h 134, .inl (cs 0, 4, .inl ((qG_40 0) 3))), (h 135, .inl (cs 0, 4, .inl ((qG_40 0) 4))), (h 136, .inl (cs 0, 5, .inl (fA 136))), (h 102, .inr (0, [.ref (h 101), .ref (h 140), .ref (h 141), .ref (h 142), .ref (h 143), .int (qI_47 144), .int (qI_47 145), .int (qI_47 146)])), (h 140, .inl (cs 0, 40, .inl (fA 140))), (h 141, .inl (cs 0, 40, .inl (fA 141))), (h 142, .inl (cs 0, 40, .inl (fA 142))), (h 143, .inl (cs 0, 40, .inl (fA 143))), (h 103, .inr (7, [.ref (h 150), .int (qI_47 151)])), (h 150, .inl (cs 2, 90, .inl (fA 150))), (h 104, .inr (4, [.ref (h 103), .ref (h 160), .int (qI_47 166), .int (qI_47 167), .int (qI_47 168), .int (qI_47 169)])), (h 160, .inl (cs 3, 5, .inr (.inr (.inr (.inr (fun i => if i < 5 then some (h (i + 161)) else none)))))), (h 161, .inl (cs 0, 4, .inl ((qG_40 1) 0))), (h 162, .inl (cs 0, 4, .inl ((qG_40 1) 1))), (h 163, .inl (cs 0, 4, .inl ((qG_40 1) 2))), (h 164, .inl (cs 0, 4, .inl ((qG_40 1) 3))), (h 165, .inl (cs 0, 4, .inl ((qG_40 1) 4))), (h 105, .inr (8, [.ref (h 101), .ref (h 170), .ref (h 171), .ref (h 172), .int (qI_47 173), .int (qI_47 174)])), (h 170, .inl (cs 0, 256, .inl (fA 170))), (h 171, .inl (cs 0, 256, .inl (fA 171))), (h 172, .inl (cs 0, 256, .inl (fA 172))), (h 107, .inr (6, [.ref (h 101), .ref (h 190), .ref (h 191), .ref (h 192)])), (h 190, .inl (cs 0, 5, .inl (fA 190))), (h 191, .inl (cs 0, 4, .inl (fA 191))), (h 192, .inl (cs 0, 4, .inl (fA 192))), (h 108, .inr (1, [.ref (h 101), .ref (h 200), .ref (h 206), .ref (h 211), .int (qI_47 212), .int (qI_47 213)])), (h 206, .inl (cs 3, 4, .inr (.inr (.inr (.inr (fun i => if i < 4 then some (h (i + 207)) else none)))))), (h 207, .inl (cs 0, 4, .inl ((qG_40 3) 0))), (h 208, .inl (cs 0, 4, .inl ((qG_40 3) 1))), (h 209, .inl (cs 0, 4, .inl ((qG_40 3) 2))), (h 210, .inl (cs 0, 4, .inl ((qG_40 3) 3))), (h 109, .inl (cs 5, 4, .inr (.inr (.inr (.inr (fun i => if i < 4 then some (h (i + 110)) else none)))))), (h 110, .inr (5, [.int (qI_47 220), .int (qI_47 224), .ref (h 228)])), (h 228, .inl (cs 1, 25, .inr (.inl (fQ 228)))), (h 111, .inr (5, [.int (qI_47 221), .int (qI_47 225), .ref (h 229)])), (h 229, .inl (cs 1, 25, .inr (.inl (fQ 229)))), (h 112, .inr (5, [.int (qI_47 222), .int (qI_47 226), .ref (h 230)])), (h 230, .inl (cs 1, 25, .inr (.inl (fQ 230)))), (h 113, .inr (5, [.int (qI_47 223), .int (qI_47 227), .ref (h 231)])), (h 231, .inl (cs 1, 25, .inr (.inl (fQ 231))))]) hP hD hS hA [27, 28, 29, 30, 31, 32, 33, 34, 35, 41, 42, 43, 44, 45, 46, 52] [0, 1, 2, 3, 4, 5, 6, 7, 8, 9, 10, 11, 12, 13, 14, 15, 16, 17, 18, 19, 20, 21, 22, 23, 24, 25, 26, 36, 37, 38, 39, 40, 47, 48, 49, 50, 51, 53, 54, 55, 56, 57, 58, 59, 60, 61] rfl rfl (by decide) (by decide) (va_runV (As := [.ref (h 200), .ref (h 211), .int (nI 2), .int (nI 2)]) (rest := []) ⟨hx, hb, hml, hown, hts⟩ (a_X2_solve_50 l dC dI h cs H.size qI_47 fL fA fQ qG_40 fJ ) (cwV 4 hts gX9_ledWord_X2_solve rfl rfl rfl (by decide +kernel) ⟨Nat.le_of_ble_eq_true rfl, Nat.le_of_ble_eq_true rfl⟩) (xpV (wc := (wD_49 h cs qI_47 fL fA fQ qG_40 fJ)) hP hD hK hN [27, 28, 29, 30, 31, 32, 33, 34, 35, 41, 42, 43, 44, 45, 46, 52] rfl (by decide) 27 (ci := 2) rfl rfl _) rfl rfl hl.1 rfl (lv_room (Nat.le_of_ble_eq_true rfl)) dX9_ledWord_46 ⟨Nat.zero_le _, Nat.zero_le _⟩) (fun u_7 H locs hw hP hD hS => ?_)
  obtain ⟨hf_9, rfl⟩ := hw
  have hP : va_P (dC, dI) vwCl (wAll h cs qI_47 fL fA fQ qG_40 fJ) H := xP_sub hP [0, 1, 2, 3, 4, 5, 6, 7, 8, 9, 10, 11, 12, 13, 14, 15, 16, 17, 18, 19, 20, 21, 22, 23, 24, 25, 26, 46, 47, 48, 49, 50, 51, 52, 53, 54, 27, 28, 29, 30, 31, 55, 56, 57, 58, 59, 60, 32, 33, 34, 35, 36, 61, 37, 38, 39, 40, 41, 42, 43, 44, 45] rfl
  have hD : va_D A0 (wAll h cs qI_47 fL fA fQ qG_40 fJ) := hD.sub [0, 1, 2, 3, 4, 5, 6, 7, 8, 9, 10, 11, 12, 13, 14, 15, 16, 17, 18, 19, 20, 21, 22, 23, 24, 25, 26, 46, 47, 48, 49, 50, 51, 52, 53, 54, 27, 28, 29, 30, 31, 55, 56, 57, 58, 59, 60, 32, 33, 34, 35, 36, 61, 37, 38, 39, 40, 41, 42, 43, 44, 45] (by decide) rfl
  refine lv_aload_n hx hb dX9_ledWord_49 rfl (lv_at hl 0 rfl) ?_
  refine va_get (D := (dC, dI)) (ci := 9) (v := .ref (h 106)) (C := RX9) (T := TX9) (N := 9) hx hb hts hinX9 hown hK hP 0 rfl rfl 5 (by decide) (hts (.fieldLink RX9 51 "MixedWords" "least" "LMixedWords$Least;") (by decide +kernel)) (fun _ h9 => h9) rfl dX9_ledWord_50 ?_
  refine va_get (D := (dC, dI)) (ci := 2) (v := .long (fL 188)) (C := RX2) (T := TX2) (N := 5) hx hb hts hinX2 hown hK hP 27 rfl rfl 4 (by decide) (hts (.fieldLink RX9 192 "MixedWords$Least" "below" "J") (by decide +kernel)) (fun _ h9 => h9) rfl dX9_ledWord_53 ?_
  refine xt_l (y := (0 : Int64)) (by decide +kernel) ?_
  refine lv_lconst (v := 0) hx hb dX9_ledWord_56 rfl ?_
  refine xl_gt (tgt := 64) hx hb dX9_ledWord_57 dX9_ledWord_58 (by decide) (fun c9 => False.elim (by revert c9; decide +kernel)) (fun _ => ?_)
  refine lv_bipush (v := (-2)) hx hb dX9_ledWord_61 (by decide) ?_
  exact xr_i (v := (-2)) hx hb hr hlocks hK hS dX9_ledWord_63 (qI_47, fL, fA, fQ, qG_40, fJ) ⟨rfl, rfl⟩ hP hD
