def qI_75 : Nat → Int32 := (va_up fI 173 (nI 1))
set_option maxHeartbeats 4000000 in
set_option maxRecDepth 100000 in
theorem a_X8_workOutOffs_74 (l : Launch) (dC : Nat → ClassId) (dI : Nat → Nat → Nat) (h : Nat → Nat) (cs : Nat → ClassId) (sz : Nat) (I : Nat → Int32) (L : Nat → Int64) (A : Nat → Nat → Int32) (Q : Nat → Nat → Int64) (G : Nat → Nat → Nat → Int32) (J : Nat → Nat → Nat → Int64) : Met l yX8_workOutOffs wsX8_workOutOffs ({ frames := 3, cells := 0, slots := 0, locals := 67 }) (va_Pc [.ref (h 105)] (xPre (dC, dI) (wD_60 h cs fI fL fA fQ fG fJ) (tysA cs) sz)) (va_Qv (fun (u : CS) => (True) ∧ u = (qI_75, fL, fA, fQ, fG, fJ)) (xB (dC, dI) (tysA cs) (va_A (wD_60 h cs fI fL fA fQ fG fJ) sz) (fun u : CS => wD_60 h cs u.1 u.2.1 u.2.2.1 u.2.2.2.1 u.2.2.2.2.1 u.2.2.2.2.2)) (va_A (wD_60 h cs fI fL fA fQ fG fJ) sz)) 0 0 (va_A (wD_60 h cs fI fL fA fQ fG fJ) sz) := by
  refine Met.ofW (cc := cX8_workOutOffs) (maxL := 2) (ret := none) (by decide) rfl ?_
  intro p e s m args below meth c s₁ B hml hv
  obtain ⟨rfl, hsz, hP, hK, hD0, hN⟩ := hv
  have hx := B.exec
  have hb := B.bytes
  have hr := B.returns
  have hts := atoms_spec (ws := wsX8_workOutOffs) B.pre
  have hown : s.vm.findClass RX8 = some m.cls := findClass_of_methodNamed B.named
  have hlocks := B.notSynchronized
  subst hsz
  have hD := hD0.self (sz := s.heap.size)
  generalize hAe : va_A (wD_60 h cs fI fL fA fQ fG fJ) s.heap.size = A0 at hD ⊢
  have hA : ∀ q : Nat, s.heap.size ≤ q → A0 q := fun q h => by rw [← hAe]; exact Or.inr h
  have hl := lv_entry ([.ref (h 105)]) (n := 2) (Nat.le_of_ble_eq_true rfl)
  rw [lg_entry_eq]
  generalize (lg_sl ([.ref (h 105)]) ++ List.replicate (2 - (lg_sl ([.ref (h 105)])).length) Slot.unset).toArray = ls at hl ⊢
  have hl : lv_has ls 2 [(0, .ref (h 105))] := hl
  generalize hH : s.heap = H at hP ⊢
  have hS : va_S A0 s.heap H [] := by rw [← hH]; exact va_S.rf
  have hinX8 : ∀ w ∈ wsX80, w ∈ wsX8_workOutOffs := by decide +kernel
  have hinX3 : ∀ w ∈ wsX30, w ∈ wsX8_workOutOffs := by decide +kernel
  refine lv_aload_n hx hb dX8_workOutOffs_0 rfl (lv_at hl 0 rfl) ?_
  refine va_get (D := (dC, dI)) (ci := 8) (v := .int (fI 173)) (C := RX8) (T := TX8) (N := 6) hx hb hts hinX8 hown hK hP 0 rfl rfl 4 (by decide) (hts (.fieldLink RX8 21 "MixedWords$Words" "offsStamp" "I") (by decide +kernel)) (fun _ h9 => h9) rfl dX8_workOutOffs_1 ?_
  refine xt_i (y := nI 0) (by decide +kernel) ?_
  refine lv_aload_n hx hb dX8_workOutOffs_4 rfl (lv_at hl 0 rfl) ?_
  refine va_get (D := (dC, dI)) (ci := 8) (v := .ref (h 101)) (C := RX8) (T := TX8) (N := 6) hx hb hts hinX8 hown hK hP 0 rfl rfl 0 (by decide) (hts (.fieldLink RX8 28 "MixedWords$Words" "mix" "LMixedWords$Mix;") (by decide +kernel)) (fun _ h9 => h9) rfl dX8_workOutOffs_5 ?_
  refine va_get (D := (dC, dI)) (ci := 3) (v := .int (fI 123)) (C := RX3) (T := TX3) (N := 6) hx hb hts hinX3 hown hK hP 1 rfl rfl 3 (by decide) (hts (.fieldLink RX8 77 "MixedWords$Mix" "stamp" "I") (by decide +kernel)) (fun _ h9 => h9) rfl dX8_workOutOffs_8 ?_
  refine xt_i (y := nI 1) (by decide +kernel) ?_
  refine lv_icmp_ne (tgt := 15) hx hb dX8_workOutOffs_11 (by decide) (fun _ => ?_) (fun c9 => False.elim (by revert c9; decide +kernel))
  refine lv_iconst (v := nI 0) hx hb dX8_workOutOffs_15 (by decide) ?_
  refine lv_istore_n (lv' := [(1, .int (nI 0)), (0, .ref (h 105))]) hx hb dX8_workOutOffs_16 rfl hl (by decide) rfl (fun ls hl => ?_)
  refine lv_iload_n hx hb dX8_workOutOffs_17 rfl (lv_at hl 0 rfl) ?_
  refine lv_aload_n hx hb dX8_workOutOffs_18 rfl (lv_at hl 1 rfl) ?_
  refine va_get (D := (dC, dI)) (ci := 8) (v := .ref (h 101)) (C := RX8) (T := TX8) (N := 6) hx hb hts hinX8 hown hK hP 0 rfl rfl 0 (by decide) (hts (.fieldLink RX8 28 "MixedWords$Words" "mix" "LMixedWords$Mix;") (by decide +kernel)) (fun _ h9 => h9) rfl dX8_workOutOffs_19 ?_
  refine xj_i (wc := (wD_32 h cs fI fL fA fQ fG fJ)) (wr := [(h 105, .inr (8, [.ref (h 101), .ref (h 170), .ref (h 171), .ref (h 172), .int (fI 173), .int (fI 174)])), (h 170, .inl (cs 0, 256, .inl (fA 170))), (h 171, .inl (cs 0, 256, .inl (fA 171))), (h 172, .inl (cs 0, 256, .inl (fA 172)))]) hP hD hS hA [1, 2, 3, 4, 5, 6, 7, 8] [0, 9, 10, 11] rfl rfl (by decide) (by decide) (va_runV (As := []) (rest := [.int (nI 0)]) ⟨hx, hb, hml, hown, hts⟩ (a_X3_wordCount_58 l dC dI h cs H.size fI fL fA fQ fG fJ ) (cwV 0 hts gX8_workOutOffs_X3_wordCount rfl rfl rfl (by decide +kernel) ⟨Nat.le_of_ble_eq_true rfl, Nat.le_of_ble_eq_true rfl⟩) (xpV (wc := (wD_32 h cs fI fL fA fQ fG fJ)) hP hD hK hN [1, 2, 3, 4, 5, 6, 7, 8] rfl (by decide) 1 (ci := 3) rfl rfl _) rfl rfl hl.1 rfl (lv_room (Nat.le_of_ble_eq_true rfl)) dX8_workOutOffs_22 ⟨Nat.zero_le _, Nat.zero_le _⟩) (fun r_2 u_1 H locs hw hP hD hS => ?_)
  obtain ⟨hf_3, rfl⟩ := hw
  have hP : va_P (dC, dI) vwCl (wD_60 h cs fI fL fA fQ fG fJ) H := xP_sub hP [0, 4, 5, 6, 7, 8, 9, 10, 11, 1, 2, 3] rfl
  have hD : va_D A0 (wD_60 h cs fI fL fA fQ fG fJ) := hD.sub [0, 4, 5, 6, 7, 8, 9, 10, 11, 1, 2, 3] (by decide) rfl
  obtain rfl := hf_3
  refine lv_icmp_ge (tgt := 45) hx hb dX8_workOutOffs_25 (by decide) (fun c9 => False.elim (by revert c9; decide +kernel)) (fun _ => ?_)
  refine lv_aload_n hx hb dX8_workOutOffs_28 rfl (lv_at hl 1 rfl) ?_
  refine va_get (D := (dC, dI)) (ci := 8) (v := .ref (h 170)) (C := RX8) (T := TX8) (N := 6) hx hb hts hinX8 hown hK hP 0 rfl rfl 1 (by decide) (hts (.fieldLink RX8 9 "MixedWords$Words" "offs" "[I") (by decide +kernel)) (fun _ h9 => h9) rfl dX8_workOutOffs_29 ?_
  refine lv_iload_n hx hb dX8_workOutOffs_32 rfl (lv_at hl 0 rfl) ?_
  refine lv_aload_n hx hb dX8_workOutOffs_33 rfl (lv_at hl 1 rfl) ?_
  refine lv_iload_n hx hb dX8_workOutOffs_34 rfl (lv_at hl 0 rfl) ?_
  refine xj_i (wc := (wD_60 h cs fI fL fA fQ fG fJ)) (wr := ([] : va_W)) hP hD hS hA [0, 1, 2, 3, 4, 5, 6, 7, 8, 9, 10, 11] [] rfl rfl (by decide) (by decide) (va_runV (As := [.int (nI 0)]) (rest := [.int (nI 0), .ref (h 170)]) ⟨hx, hb, hml, hown, hts⟩ (a_X8_offOf_61 l dC dI h cs H.size fI fL fA fQ fG fJ ) (cwV 1 hts gX8_workOutOffs_X8_offOf rfl rfl rfl (by decide +kernel) ⟨Nat.le_of_ble_eq_true rfl, Nat.le_of_ble_eq_true rfl⟩) (xpV (wc := (wD_60 h cs fI fL fA fQ fG fJ)) hP hD hK hN [0, 1, 2, 3, 4, 5, 6, 7, 8, 9, 10, 11] rfl (by decide) 0 (ci := 8) rfl rfl _) rfl rfl hl.1 rfl (lv_room (Nat.le_of_ble_eq_true rfl)) dX8_workOutOffs_35 ⟨Nat.zero_le _, Nat.zero_le _⟩) (fun r_5 u_4 H locs hw hP hD hS => ?_)
  obtain ⟨hf_6, rfl⟩ := hw
  have hP : va_P (dC, dI) vwCl (wD_60 h cs fI fL fA fQ fG fJ) H := hP
  have hD : va_D A0 (wD_60 h cs fI fL fA fQ fG fJ) := hD
  obtain rfl := hf_6
  refine xa_iastS hx hb hK hP hD hS 9 0 rfl rfl (by omega) (by decide) (by decide +kernel) dX8_workOutOffs_38 (fun H locs hP hD hS => ?_)
  refine lv_iinc (v := nI 1) (lv' := [(1, .int (nI 1)), (0, .ref (h 105))]) hx hb dX8_workOutOffs_39 hl (k := 0) rfl (by decide +kernel) (by decide) rfl (fun ls hl => ?_)
  refine lv_goto (tgt := 17) hx hb dX8_workOutOffs_42 (by decide) ?_
  refine lv_iload_n hx hb dX8_workOutOffs_17 rfl (lv_at hl 0 rfl) ?_
  refine lv_aload_n hx hb dX8_workOutOffs_18 rfl (lv_at hl 1 rfl) ?_
  refine va_get (D := (dC, dI)) (ci := 8) (v := .ref (h 101)) (C := RX8) (T := TX8) (N := 6) hx hb hts hinX8 hown hK hP 0 rfl rfl 0 (by decide) (hts (.fieldLink RX8 28 "MixedWords$Words" "mix" "LMixedWords$Mix;") (by decide +kernel)) (fun _ h9 => h9) rfl dX8_workOutOffs_19 ?_
  refine xj_i (wc := (wD_32 h cs fI fL fA fQ fG fJ)) (wr := [(h 105, .inr (8, [.ref (h 101), .ref (h 170), .ref (h 171), .ref (h 172), .int (fI 173), .int (fI 174)])), (h 170, .inl (cs 0, 256, .inl (fA 170))), (h 171, .inl (cs 0, 256, .inl (fA 171))), (h 172, .inl (cs 0, 256, .inl (fA 172)))]) hP hD hS hA [1, 2, 3, 4, 5, 6, 7, 8] [0, 9, 10, 11] rfl rfl (by decide) (by decide) (va_runV (As := []) (rest := [.int (nI 1)]) ⟨hx, hb, hml, hown, hts⟩ (a_X3_wordCount_58 l dC dI h cs H.size fI fL fA fQ fG fJ ) (cwV 0 hts gX8_workOutOffs_X3_wordCount rfl rfl rfl (by decide +kernel) ⟨Nat.le_of_ble_eq_true rfl, Nat.le_of_ble_eq_true rfl⟩) (xpV (wc := (wD_32 h cs fI fL fA fQ fG fJ)) hP hD hK hN [1, 2, 3, 4, 5, 6, 7, 8] rfl (by decide) 1 (ci := 3) rfl rfl _) rfl rfl hl.1 rfl (lv_room (Nat.le_of_ble_eq_true rfl)) dX8_workOutOffs_22 ⟨Nat.zero_le _, Nat.zero_le _⟩) (fun r_8 u_7 H locs hw hP hD hS => ?_)
  obtain ⟨hf_9, rfl⟩ := hw
  have hP : va_P (dC, dI) vwCl (wD_60 h cs fI fL fA fQ fG fJ) H := xP_sub hP [0, 4, 5, 6, 7, 8, 9, 10, 11, 1, 2, 3] rfl
  have hD : va_D A0 (wD_60 h cs fI fL fA fQ fG fJ) := hD.sub [0, 4, 5, 6, 7, 8, 9, 10, 11, 1, 2, 3] (by decide) rfl
  obtain rfl := hf_9
  refine lv_icmp_ge (tgt := 45) hx hb dX8_workOutOffs_25 (by decide) (fun c9 => False.elim (by revert c9; decide +kernel)) (fun _ => ?_)
  refine lv_aload_n hx hb dX8_workOutOffs_28 rfl (lv_at hl 1 rfl) ?_
  refine va_get (D := (dC, dI)) (ci := 8) (v := .ref (h 170)) (C := RX8) (T := TX8) (N := 6) hx hb hts hinX8 hown hK hP 0 rfl rfl 1 (by decide) (hts (.fieldLink RX8 9 "MixedWords$Words" "offs" "[I") (by decide +kernel)) (fun _ h9 => h9) rfl dX8_workOutOffs_29 ?_
  refine lv_iload_n hx hb dX8_workOutOffs_32 rfl (lv_at hl 0 rfl) ?_
  refine lv_aload_n hx hb dX8_workOutOffs_33 rfl (lv_at hl 1 rfl) ?_
  refine lv_iload_n hx hb dX8_workOutOffs_34 rfl (lv_at hl 0 rfl) ?_
  refine xj_i (wc := (wD_60 h cs fI fL fA fQ fG fJ)) (wr := ([] : va_W)) hP hD hS hA [0, 1, 2, 3, 4, 5, 6, 7, 8, 9, 10, 11] [] rfl rfl (by decide) (by decide) (va_runV (As := [.int (nI 1)]) (rest := [.int (nI 1), .ref (h 170)]) ⟨hx, hb, hml, hown, hts⟩ (a_X8_offOf_64 l dC dI h cs H.size fI fL fA fQ fG fJ ) (cwV 1 hts gX8_workOutOffs_X8_offOf rfl rfl rfl (by decide +kernel) ⟨Nat.le_of_ble_eq_true rfl, Nat.le_of_ble_eq_true rfl⟩) (xpV (wc := (wD_60 h cs fI fL fA fQ fG fJ)) hP hD hK hN [0, 1, 2, 3, 4, 5, 6, 7, 8, 9, 10, 11] rfl (by decide) 0 (ci := 8) rfl rfl _) rfl rfl hl.1 rfl (lv_room (Nat.le_of_ble_eq_true rfl)) dX8_workOutOffs_35 ⟨Nat.zero_le _, Nat.zero_le _⟩) (fun r_11 u_10 H locs hw hP hD hS => ?_)
  obtain ⟨hf_12, rfl⟩ := hw
  have hP : va_P (dC, dI) vwCl (wD_60 h cs fI fL fA fQ fG fJ) H := hP
  have hD : va_D A0 (wD_60 h cs fI fL fA fQ fG fJ) := hD
  obtain rfl := hf_12
  refine xa_iastS hx hb hK hP hD hS 9 0 rfl rfl (by omega) (by decide) (by decide +kernel) dX8_workOutOffs_38 (fun H locs hP hD hS => ?_)
  refine lv_iinc (v := nI 2) (lv' := [(1, .int (nI 2)), (0, .ref (h 105))]) hx hb dX8_workOutOffs_39 hl (k := 0) rfl (by decide +kernel) (by decide) rfl (fun ls hl => ?_)
  refine lv_goto (tgt := 17) hx hb dX8_workOutOffs_42 (by decide) ?_
  refine lv_iload_n hx hb dX8_workOutOffs_17 rfl (lv_at hl 0 rfl) ?_
  refine lv_aload_n hx hb dX8_workOutOffs_18 rfl (lv_at hl 1 rfl) ?_
  refine va_get (D := (dC, dI)) (ci := 8) (v := .ref (h 101)) (C := RX8) (T := TX8) (N := 6) hx hb hts hinX8 hown hK hP 0 rfl rfl 0 (by decide) (hts (.fieldLink RX8 28 "MixedWords$Words" "mix" "LMixedWords$Mix;") (by decide +kernel)) (fun _ h9 => h9) rfl dX8_workOutOffs_19 ?_
  refine xj_i (wc := (wD_32 h cs fI fL fA fQ fG fJ)) (wr := [(h 105, .inr (8, [.ref (h 101), .ref (h 170), .ref (h 171), .ref (h 172), .int (fI 173), .int (fI 174)])), (h 170, .inl (cs 0, 256, .inl (fA 170))), (h 171, .inl (cs 0, 256, .inl (fA 171))), (h 172, .inl (cs 0, 256, .inl (fA 172)))]) hP hD hS hA [1, 2, 3, 4, 5, 6, 7, 8] [0, 9, 10, 11] rfl rfl (by decide) (by decide) (va_runV (As := []) (rest := [.int (nI 2)]) ⟨hx, hb, hml, hown, hts⟩ (a_X3_wordCount_58 l dC dI h cs H.size fI fL fA fQ fG fJ ) (cwV 0 hts gX8_workOutOffs_X3_wordCount rfl rfl rfl (by decide +kernel) ⟨Nat.le_of_ble_eq_true rfl, Nat.le_of_ble_eq_true rfl⟩) (xpV (wc := (wD_32 h cs fI fL fA fQ fG fJ)) hP hD hK hN [1, 2, 3, 4, 5, 6, 7, 8] rfl (by decide) 1 (ci := 3) rfl rfl _) rfl rfl hl.1 rfl (lv_room (Nat.le_of_ble_eq_true rfl)) dX8_workOutOffs_22 ⟨Nat.zero_le _, Nat.zero_le _⟩) (fun r_14 u_13 H locs hw hP hD hS => ?_)
  obtain ⟨hf_15, rfl⟩ := hw
  have hP : va_P (dC, dI) vwCl (wD_60 h cs fI fL fA fQ fG fJ) H := xP_sub hP [0, 4, 5, 6, 7, 8, 9, 10, 11, 1, 2, 3] rfl
  have hD : va_D A0 (wD_60 h cs fI fL fA fQ fG fJ) := hD.sub [0, 4, 5, 6, 7, 8, 9, 10, 11, 1, 2, 3] (by decide) rfl
  obtain rfl := hf_15
  refine lv_icmp_ge (tgt := 45) hx hb dX8_workOutOffs_25 (by decide) (fun c9 => False.elim (by revert c9; decide +kernel)) (fun _ => ?_)
  refine lv_aload_n hx hb dX8_workOutOffs_28 rfl (lv_at hl 1 rfl) ?_
  refine va_get (D := (dC, dI)) (ci := 8) (v := .ref (h 170)) (C := RX8) (T := TX8) (N := 6) hx hb hts hinX8 hown hK hP 0 rfl rfl 1 (by decide) (hts (.fieldLink RX8 9 "MixedWords$Words" "offs" "[I") (by decide +kernel)) (fun _ h9 => h9) rfl dX8_workOutOffs_29 ?_
  refine lv_iload_n hx hb dX8_workOutOffs_32 rfl (lv_at hl 0 rfl) ?_
  refine lv_aload_n hx hb dX8_workOutOffs_33 rfl (lv_at hl 1 rfl) ?_
  refine lv_iload_n hx hb dX8_workOutOffs_34 rfl (lv_at hl 0 rfl) ?_
  refine xj_i (wc := (wD_60 h cs fI fL fA fQ fG fJ)) (wr := ([] : va_W)) hP hD hS hA [0, 1, 2, 3, 4, 5, 6, 7, 8, 9, 10, 11] [] rfl rfl (by decide) (by decide) (va_runV (As := [.int (nI 2)]) (rest := [.int (nI 2), .ref (h 170)]) ⟨hx, hb, hml, hown, hts⟩ (a_X8_offOf_67 l dC dI h cs H.size fI fL fA fQ fG fJ ) (cwV 1 hts gX8_workOutOffs_X8_offOf rfl rfl rfl (by decide +kernel) ⟨Nat.le_of_ble_eq_true rfl, Nat.le_of_ble_eq_true rfl⟩) (xpV (wc := (wD_60 h cs fI fL fA fQ fG fJ)) hP hD hK hN [0, 1, 2, 3, 4, 5, 6, 7, 8, 9, 10, 11] rfl (by decide) 0 (ci := 8) rfl rfl _) rfl rfl hl.1 rfl (lv_room (Nat.le_of_ble_eq_true rfl)) dX8_workOutOffs_35 ⟨Nat.zero_le _, Nat.zero_le _⟩) (fun r_17 u_16 H locs hw hP hD hS => ?_)
  obtain ⟨hf_18, rfl⟩ := hw
  have hP : va_P (dC, dI) vwCl (wD_60 h cs fI fL fA fQ fG fJ) H := hP
  have hD : va_D A0 (wD_60 h cs fI fL fA fQ fG fJ) := hD
  obtain rfl := hf_18
  refine xa_iastS hx hb hK hP hD hS 9 0 rfl rfl (by omega) (by decide) (by decide +kernel) dX8_workOutOffs_38 (fun H locs hP hD hS => ?_)
  refine lv_iinc (v := nI 3) (lv' := [(1, .int (nI 3)), (0, .ref (h 105))]) hx hb dX8_workOutOffs_39 hl (k := 0) rfl (by decide +kernel) (by decide) rfl (fun ls hl => ?_)
  refine lv_goto (tgt := 17) hx hb dX8_workOutOffs_42 (by decide) ?_
  refine lv_iload_n hx hb dX8_workOutOffs_17 rfl (lv_at hl 0 rfl) ?_
  refine lv_aload_n hx hb dX8_workOutOffs_18 rfl (lv_at hl 1 rfl) ?_
  refine va_get (D := (dC, dI)) (ci := 8) (v := .ref (h 101)) (C := RX8) (T := TX8) (N := 6) hx hb hts hinX8 hown hK hP 0 rfl rfl 0 (by decide) (hts (.fieldLink RX8 28 "MixedWords$Words" "mix" "LMixedWords$Mix;") (by decide +kernel)) (fun _ h9 => h9) rfl dX8_workOutOffs_19 ?_
  refine xj_i (wc := (wD_32 h cs fI fL fA fQ fG fJ)) (wr := [(h 105, .inr (8, [.ref (h 101), .ref (h 170), .ref (h 171), .ref (h 172), .int (fI 173), .int (fI 174)])), (h 170, .inl (cs 0, 256, .inl (fA 170))), (h 171, .inl (cs 0, 256, .inl (fA 171))), (h 172, .inl (cs 0, 256, .inl (fA 172)))]) hP hD hS hA [1, 2, 3, 4, 5, 6, 7, 8] [0, 9, 10, 11] rfl rfl (by decide) (by decide) (va_runV (As := []) (rest := [.int (nI 3)]) ⟨hx, hb, hml, hown, hts⟩ (a_X3_wordCount_58 l dC dI h cs H.size fI fL fA fQ fG fJ ) (cwV 0 hts gX8_workOutOffs_X3_wordCount rfl rfl rfl (by decide +kernel) ⟨Nat.le_of_ble_eq_true rfl, Nat.le_of_ble_eq_true rfl⟩) (xpV (wc := (wD_32 h cs fI fL fA fQ fG fJ)) hP hD hK hN [1, 2, 3, 4, 5, 6, 7, 8] rfl (by decide) 1 (ci := 3) rfl rfl _) rfl rfl hl.1 rfl (lv_room (Nat.le_of_ble_eq_true rfl)) dX8_workOutOffs_22 ⟨Nat.zero_le _, Nat.zero_le _⟩) (fun r_20 u_19 H locs hw hP hD hS => ?_)
  obtain ⟨hf_21, rfl⟩ := hw
  have hP : va_P (dC, dI) vwCl (wD_60 h cs fI fL fA fQ fG fJ) H := xP_sub hP [0, 4, 5, 6, 7, 8, 9, 10, 11, 1, 2, 3] rfl
  have hD : va_D A0 (wD_60 h cs fI fL fA fQ fG fJ) := hD.sub [0, 4, 5, 6, 7, 8, 9, 10, 11, 1, 2, 3] (by decide) rfl
  obtain rfl := hf_21
  refine lv_icmp_ge (tgt := 45) hx hb dX8_workOutOffs_25 (by decide) (fun c9 => False.elim (by revert c9; decide +kernel)) (fun _ => ?_)
  refine lv_aload_n hx hb dX8_workOutOffs_28 rfl (lv_at hl 1 rfl) ?_
  refine va_get (D := (dC, dI)) (ci := 8) (v := .ref (h 170)) (C := RX8) (T := TX8) (N := 6) hx hb hts hinX8 hown hK hP 0 rfl rfl 1 (by decide) (hts (.fieldLink RX8 9 "MixedWords$Words" "offs" "[I") (by decide +kernel)) (fun _ h9 => h9) rfl dX8_workOutOffs_29 ?_
  refine lv_iload_n hx hb dX8_workOutOffs_32 rfl (lv_at hl 0 rfl) ?_
  refine lv_aload_n hx hb dX8_workOutOffs_33 rfl (lv_at hl 1 rfl) ?_
  refine lv_iload_n hx hb dX8_workOutOffs_34 rfl (lv_at hl 0 rfl) ?_
  refine xj_i (wc := (wD_60 h cs fI fL fA fQ fG fJ)) (wr := ([] : va_W)) hP hD hS hA [0, 1, 2, 3, 4, 5, 6, 7, 8, 9, 10, 11] [] rfl rfl (by decide) (by decide) (va_runV (As := [.int (nI 3)]) (rest := [.int (nI 3), .ref (h 170)]) ⟨hx, hb, hml, hown, hts⟩ (a_X8_offOf_70 l dC dI h cs H.size fI fL fA fQ fG fJ ) (cwV 1 hts gX8_workOutOffs_X8_offOf rfl rfl rfl (by decide +kernel) ⟨Nat.le_of_ble_eq_true rfl, Nat.le_of_ble_eq_true rfl⟩) (xpV (wc := (wD_60 h cs fI fL fA fQ fG fJ)) hP hD hK hN [0, 1, 2, 3, 4, 5, 6, 7, 8, 9, 10, 11] rfl (by decide) 0 (ci := 8) rfl rfl _) rfl rfl hl.1 rfl (lv_room (Nat.le_of_ble_eq_true rfl)) dX8_workOutOffs_35 ⟨Nat.zero_le _, Nat.zero_le _⟩) (fun r_23 u_22 H locs hw hP hD hS => ?_)
  obtain ⟨hf_24, rfl⟩ := hw
  have hP : va_P (dC, dI) vwCl (wD_60 h cs fI fL fA fQ fG fJ) H := hP
  have hD : va_D A0 (wD_60 h cs fI fL fA fQ fG fJ) := hD
  obtain rfl := hf_24
  refine xa_iastS hx hb hK hP hD hS 9 0 rfl rfl (by omega) (by decide) (by decide +kernel) dX8_workOutOffs_38 (fun H locs hP hD hS => ?_)
  refine lv_iinc (v := nI 4) (lv' := [(1, .int (nI 4)), (0, .ref (h 105))]) hx hb dX8_workOutOffs_39 hl (k := 0) rfl (by decide +kernel) (by decide) rfl (fun ls hl => ?_)
  refine lv_goto (tgt := 17) hx hb dX8_workOutOffs_42 (by decide) ?_
  refine lv_iload_n hx hb dX8_workOutOffs_17 rfl (lv_at hl 0 rfl) ?_
  refine lv_aload_n hx hb dX8_workOutOffs_18 rfl (lv_at hl 1 rfl) ?_
  refine va_get (D := (dC, dI)) (ci := 8) (v := .ref (h 101)) (C := RX8) (T := TX8) (N := 6) hx hb hts hinX8 hown hK hP 0 rfl rfl 0 (by decide) (hts (.fieldLink RX8 28 "MixedWords$Words" "mix" "LMixedWords$Mix;") (by decide +kernel)) (fun _ h9 => h9) rfl dX8_workOutOffs_19 ?_
  refine xj_i (wc := (wD_32 h cs fI fL fA fQ fG fJ)) (wr := [(h 105, .inr (8, [.ref (h 101), .ref (h 170), .ref (h 171), .ref (h 172), .int (fI 173), .int (fI 174)])), (h 170, .inl (cs 0, 256, .inl (fA 170))), (h 171, .inl (cs 0, 256, .inl (fA 171))), (h 172, .inl (cs 0, 256, .inl (fA 172)))]) hP hD hS hA [1, 2, 3, 4, 5, 6, 7, 8] [0, 9, 10, 11] rfl rfl (by decide) (by decide) (va_runV (As := []) (rest := [.int (nI 4)]) ⟨hx, hb, hml, hown, hts⟩ (a_X3_wordCount_58 l dC dI h cs H.size fI fL fA fQ fG fJ ) (cwV 0 hts gX8_workOutOffs_X3_wordCount rfl rfl rfl (by decide +kernel) ⟨Nat.le_of_ble_eq_true rfl, Nat.le_of_ble_eq_true rfl⟩) (xpV (wc := (wD_32 h cs fI fL fA fQ fG fJ)) hP hD hK hN [1, 2, 3, 4, 5, 6, 7, 8] rfl (by decide) 1 (ci := 3) rfl rfl _) rfl rfl hl.1 rfl (lv_room (Nat.le_of_ble_eq_true rfl)) dX8_workOutOffs_22 ⟨Nat.zero_le _, Nat.zero_le _⟩) (fun r_26 u_25 H locs hw hP hD hS => ?_)
  obtain ⟨hf_27, rfl⟩ := hw
  have hP : va_P (dC, dI) vwCl (wD_60 h cs fI fL fA fQ fG fJ) H := xP_sub hP [0, 4, 5, 6, 7, 8, 9, 10, 11, 1, 2, 3] rfl
  have hD : va_D A0 (wD_60 h cs fI fL fA fQ fG fJ) := hD.sub [0, 4, 5, 6, 7, 8, 9, 10, 11, 1, 2, 3] (by decide) rfl
  obtain rfl := hf_27
  refine lv_icmp_ge (tgt := 45) hx hb dX8_workOutOffs_25 (by decide) (fun _ => ?_) (fun c9 => False.elim (by revert c9; decide +kernel))
  refine lv_aload_n hx hb dX8_workOutOffs_45 rfl (lv_at hl 1 rfl) ?_
  refine lv_aload_n hx hb dX8_workOutOffs_46 rfl (lv_at hl 1 rfl) ?_
  refine va_get (D := (dC, dI)) (ci := 8) (v := .ref (h 101)) (C := RX8) (T := TX8) (N := 6) hx hb hts hinX8 hown hK hP 0 rfl rfl 0 (by decide) (hts (.fieldLink RX8 28 "MixedWords$Words" "mix" "LMixedWords$Mix;") (by decide +kernel)) (fun _ h9 => h9) rfl dX8_workOutOffs_47 ?_
  refine va_get (D := (dC, dI)) (ci := 3) (v := .int (fI 123)) (C := RX3) (T := TX3) (N := 6) hx hb hts hinX3 hown hK hP 1 rfl rfl 3 (by decide) (hts (.fieldLink RX8 77 "MixedWords$Mix" "stamp" "I") (by decide +kernel)) (fun _ h9 => h9) rfl dX8_workOutOffs_50 ?_
  refine xt_i (y := nI 1) (by decide +kernel) ?_
  refine va_put (D := (dC, dI)) (ci := 8) (v := .int (nI 1)) (ty := .int) (C := RX8) (T := TX8) (N := 6) hx hb hts hinX8 tyX8 tyX8_ok nmX8 hown hK hP hD hS 0 rfl rfl 4 (by decide) (hts (.fieldLink RX8 21 "MixedWords$Words" "offsStamp" "I") (by decide +kernel)) (fun _ h9 => h9) rfl (by decide +kernel) rfl rfl (Nat.le_of_ble_eq_true rfl) dX8_workOutOffs_53 (fun H locs hP hD hS => ?_)
  have hP : va_P (dC, dI) vwCl (wD_60 h cs (va_up fI 173 (nI 1)) fL fA fQ fG fJ) H := hP
  have hD : va_D A0 (wD_60 h cs (va_up fI 173 (nI 1)) fL fA fQ fG fJ) := hD
  have hP : va_P (dC, dI) vwCl (wD_60 h cs qI_75 fL fA fQ fG fJ) H := hP
  have hD : va_D A0 (wD_60 h cs qI_75 fL fA fQ fG fJ) := hD
  exact xr_v hx hb hr hlocks hK hS dX8_workOutOffs_56 (qI_75, fL, fA, fQ, fG, fJ) ⟨trivial, rfl⟩ hP hD
set_option maxHeartbeats 4000000 in
set_option maxRecDepth 100000 in
theorem a_X3_bitsOfLetter_78 (l : Launch) (dC : Nat → ClassId) (dI : Nat → Nat → Nat) (h : Nat → Nat) (cs : Nat → ClassId) (sz : Nat) (I : Nat → Int32) (L : Nat → Int64) (A : Nat → Nat → Int32) (Q : Nat → Nat → Int64) (G : Nat → Nat → Nat → Int32) (J : Nat → Nat → Nat → Int64) : Met l yX3_bitsOfLetter wsX3_bitsOfLetter ({ frames := 0, cells := 0, slots := 0, locals := 0 }) (va_Pc [.ref (h 101)] (xPre (dC, dI) (wD_32 h cs qI_75 fL fA fQ fG fJ) (tysA cs) sz)) (va_Qi (fun (r : Int32) (u : CS) => (r = nI 1) ∧ u = (qI_75, fL, fA, fQ, fG, fJ)) (xB (dC, dI) (tysA cs) (va_A (wD_32 h cs qI_75 fL fA fQ fG fJ) sz) (fun u : CS => wD_32 h cs u.1 u.2.1 u.2.2.1 u.2.2.2.1 u.2.2.2.2.1 u.2.2.2.2.2)) (va_A (wD_32 h cs qI_75 fL fA fQ fG fJ) sz)) 0 0 (va_A (wD_32 h cs qI_75 fL fA fQ fG fJ) sz) := by
  refine Met.ofW (cc := cX3_bitsOfLetter) (maxL := 1) (ret := (some .int)) (by decide) rfl ?_
  intro p e s m args below meth c s₁ B hml hv
  obtain ⟨rfl, hsz, hP, hK, hD0, hN⟩ := hv
  have hx := B.exec
  have hb := B.bytes
  have hr := B.returns
  have hts := atoms_spec (ws := wsX3_bitsOfLetter) B.pre
  have hown : s.vm.findClass RX3 = some m.cls := findClass_of_methodNamed B.named
  have hlocks := B.notSynchronized
  subst hsz
  have hD := hD0.self (sz := s.heap.size)
  generalize hAe : va_A (wD_32 h cs qI_75 fL fA fQ fG fJ) s.heap.size = A0 at hD ⊢
  have hA : ∀ q : Nat, s.heap.size ≤ q → A0 q := fun q h => by rw [← hAe]; exact Or.inr h
  have hl := lv_entry ([.ref (h 101)]) (n := 1) (Nat.le_of_ble_eq_true rfl)
  rw [lg_entry_eq]
  generalize (lg_sl ([.ref (h 101)]) ++ List.replicate (1 - (lg_sl ([.ref (h 101)])).length) Slot.unset).toArray = ls at hl ⊢
  have hl : lv_has ls 1 [(0, .ref (h 101))] := hl
  generalize hH : s.heap = H at hP ⊢
  have hS : va_S A0 s.heap H [] := by rw [← hH]; exact va_S.rf
  have hinX3 : ∀ w ∈ wsX30, w ∈ wsX3_bitsOfLetter := by decide +kernel
  refine lv_aload_n hx hb dX3_bitsOfLetter_0 rfl (lv_at hl 0 rfl) ?_
  refine va_get (D := (dC, dI)) (ci := 3) (v := .int (qI_75 122)) (C := RX3) (T := TX3) (N := 6) hx hb hts hinX3 hown hK hP 0 rfl rfl 2 (by decide) (hts (.fieldLink RX3 18 "MixedWords$Mix" "letterCount" "I") (by decide +kernel)) (fun _ h9 => h9) rfl dX3_bitsOfLetter_1 ?_
  refine xt_i (y := nI 2) (by decide +kernel) ?_
  refine lv_iconst (v := nI 4) hx hb dX3_bitsOfLetter_4 (by decide) ?_
  refine lv_icmp_ne (tgt := 12) hx hb dX3_bitsOfLetter_5 (by decide) (fun _ => ?_) (fun c9 => False.elim (by revert c9; decide +kernel))
  refine lv_iconst (v := nI 1) hx hb dX3_bitsOfLetter_12 (by decide) ?_
  exact xr_i (v := (nI 1)) hx hb hr hlocks hK hS dX3_bitsOfLetter_13 (qI_75, fL, fA, fQ, fG, fJ) ⟨rfl, rfl⟩ hP hD
set_option maxHeartbeats 4000000 in
set_option maxRecDepth 100000 in
theorem a_X3_wordCount_77 (l : Launch) (dC : Nat → ClassId) (dI : Nat → Nat → Nat) (h : Nat → Nat) (cs : Nat → ClassId) (sz : Nat) (I : Nat → Int32) (L : Nat → Int64) (A : Nat → Nat → Int32) (Q : Nat → Nat → Int64) (G : Nat → Nat → Nat → Int32) (J : Nat → Nat → Nat → Int64) : Met l yX3_wordCount wsX3_wordCount ({ frames := 1, cells := 0, slots := 0, locals := 20 }) (va_Pc [.ref (h 101)] (xPre (dC, dI) (wD_32 h cs qI_75 fL fA fQ fG fJ) (tysA cs) sz)) (va_Qi (fun (r : Int32) (u : CS) => (r = nI 4) ∧ u = (qI_75, fL, fA, fQ, fG, fJ)) (xB (dC, dI) (tysA cs) (va_A (wD_32 h cs qI_75 fL fA fQ fG fJ) sz) (fun u : CS => wD_32 h cs u.1 u.2.1 u.2.2.1 u.2.2.2.1 u.2.2.2.2.1 u.2.2.2.2.2)) (va_A (wD_32 h cs qI_75 fL fA fQ fG fJ) sz)) 0 0 (va_A (wD_32 h cs qI_75 fL fA fQ fG fJ) sz) := by
  refine Met.ofW (cc := cX3_wordCount) (maxL := 1) (ret := (some .int)) (by decide) rfl ?_
  intro p e s m args below meth c s₁ B hml hv
  obtain ⟨rfl, hsz, hP, hK, hD0, hN⟩ := hv
  have hx := B.exec
  have hb := B.bytes
  have hr := B.returns
  have hts := atoms_spec (ws := wsX3_wordCount) B.pre
  have hown : s.vm.findClass RX3 = some m.cls := findClass_of_methodNamed B.named
  have hlocks := B.notSynchronized
  subst hsz
  have hD := hD0.self (sz := s.heap.size)
  generalize hAe : va_A (wD_32 h cs qI_75 fL fA fQ fG fJ) s.heap.size = A0 at hD ⊢
  have hA : ∀ q : Nat, s.heap.size ≤ q → A0 q := fun q h => by rw [← hAe]; exact Or.inr h
  have hl := lv_entry ([.ref (h 101)]) (n := 1) (Nat.le_of_ble_eq_true rfl)
  rw [lg_entry_eq]
  generalize (lg_sl ([.ref (h 101)]) ++ List.replicate (1 - (lg_sl ([.ref (h 101)])).length) Slot.unset).toArray = ls at hl ⊢
  have hl : lv_has ls 1 [(0, .ref (h 101))] := hl
  generalize hH : s.heap = H at hP ⊢
  have hS : va_S A0 s.heap H [] := by rw [← hH]; exact va_S.rf
  have hinX3 : ∀ w ∈ wsX30, w ∈ wsX3_wordCount := by decide +kernel
  refine lv_iconst (v := nI 1) hx hb dX3_wordCount_0 (by decide) ?_
  refine lv_aload_n hx hb dX3_wordCount_1 rfl (lv_at hl 0 rfl) ?_
  refine xj_i (wc := (wD_32 h cs qI_75 fL fA fQ fG fJ)) (wr := ([] : va_W)) hP hD hS hA [0, 1, 2, 3, 4, 5, 6, 7] [] rfl rfl (by decide) (by decide) (va_runV (As := []) (rest := [.int (nI 1)]) ⟨hx, hb, hml, hown, hts⟩ (a_X3_bitsOfLetter_78 l dC dI h cs H.size qI_75 fL fA fQ fG fJ ) (cwV 0 hts gX3_wordCount_X3_bitsOfLetter rfl rfl rfl (by decide +kernel) ⟨Nat.le_of_ble_eq_true rfl, Nat.le_of_ble_eq_true rfl⟩) (xpV (wc := (wD_32 h cs qI_75 fL fA fQ fG fJ)) hP hD hK hN [0, 1, 2, 3, 4, 5, 6, 7] rfl (by decide) 0 (ci := 3) rfl rfl _) rfl rfl hl.1 rfl (lv_room (Nat.le_of_ble_eq_true rfl)) dX3_wordCount_2 ⟨Nat.zero_le _, Nat.zero_le _⟩) (fun r_2 u_1 H locs hw hP hD hS => ?_)
  obtain ⟨hf_3, rfl⟩ := hw
  have hP : va_P (dC, dI) vwCl (wD_32 h cs qI_75 fL fA fQ fG fJ) H := hP
  have hD : va_D A0 (wD_32 h cs qI_75 fL fA fQ fG fJ) := hD
  obtain rfl := hf_3
  refine lv_aload_n hx hb dX3_wordCount_5 rfl (lv_at hl 0 rfl) ?_
  refine va_get (D := (dC, dI)) (ci := 3) (v := .int (qI_75 121)) (C := RX3) (T := TX3) (N := 6) hx hb hts hinX3 hown hK hP 0 rfl rfl 1 (by decide) (hts (.fieldLink RX3 15 "MixedWords$Mix" "width" "I") (by decide +kernel)) (fun _ h9 => h9) rfl dX3_wordCount_6 ?_
  refine xt_i (y := nI 2) (by decide +kernel) ?_
  refine lv_imul hx hb dX3_wordCount_9 ?_
  refine xt_i (y := nI 2) (by decide +kernel) ?_
  refine lv_ishl hx hb dX3_wordCount_10 ?_
  refine xt_i (y := nI 4) (by decide +kernel) ?_
  exact xr_i (v := (nI 4)) hx hb hr hlocks hK hS dX3_wordCount_11 (qI_75, fL, fA, fQ, fG, fJ) ⟨rfl, rfl⟩ hP hD
def qA_79 : Nat → Nat → Int32 := (va_up fA 171 (upd (upd (upd (fA 171) 1 (nI 1)) 2 (nI 2)) 3 (nI 3)))
def qA_81 : Nat → Nat → Int32 := (va_up qA_79 172 (upd (qA_79 172) 1 (nI 1)))
theorem dX8_mergeRuns_0 : decode cX8_mergeRuns 0 = .ok (.iload_n 1, 1) := by decide +kernel
theorem dX8_mergeRuns_1 : decode cX8_mergeRuns 1 = .ok (.istore 4, 2) := by decide +kernel
theorem dX8_mergeRuns_3 : decode cX8_mergeRuns 3 = .ok (.iload_n 2, 1) := by decide +kernel
theorem dX8_mergeRuns_4 : decode cX8_mergeRuns 4 = .ok (.istore 5, 2) := by decide +kernel
theorem dX8_mergeRuns_6 : decode cX8_mergeRuns 6 = .ok (.iload_n 1, 1) := by decide +kernel
theorem dX8_mergeRuns_7 : decode cX8_mergeRuns 7 = .ok (.istore 6, 2) := by decide +kernel
theorem dX8_mergeRuns_9 : decode cX8_mergeRuns 9 = .ok (.iload 6, 2) := by decide +kernel
theorem dX8_mergeRuns_11 : decode cX8_mergeRuns 11 = .ok (.iload_n 3, 1) := by decide +kernel
theorem dX8_mergeRuns_12 : decode cX8_mergeRuns 12 = .ok (.if_icmp .ge 85, 3) := by decide +kernel
theorem dX8_mergeRuns_15 : decode cX8_mergeRuns 15 = .ok (.iload 4, 2) := by decide +kernel
theorem dX8_mergeRuns_17 : decode cX8_mergeRuns 17 = .ok (.iload_n 2, 1) := by decide +kernel
theorem dX8_mergeRuns_18 : decode cX8_mergeRuns 18 = .ok (.if_icmp .ge 56, 3) := by decide +kernel
theorem dX8_mergeRuns_21 : decode cX8_mergeRuns 21 = .ok (.iload 5, 2) := by decide +kernel
theorem dX8_mergeRuns_23 : decode cX8_mergeRuns 23 = .ok (.iload_n 3, 1) := by decide +kernel
theorem dX8_mergeRuns_24 : decode cX8_mergeRuns 24 = .ok (.if_icmp .ge 30, 3) := by decide +kernel
theorem dX8_mergeRuns_27 : decode cX8_mergeRuns 27 = .ok (.aload_n 0, 1) := by decide +kernel
theorem dX8_mergeRuns_28 : decode cX8_mergeRuns 28 = .ok (.getfield 9, 3) := by decide +kernel
theorem dX8_mergeRuns_31 : decode cX8_mergeRuns 31 = .ok (.aload_n 0, 1) := by decide +kernel
theorem dX8_mergeRuns_32 : decode cX8_mergeRuns 32 = .ok (.getfield 15, 3) := by decide +kernel
theorem dX8_mergeRuns_35 : decode cX8_mergeRuns 35 = .ok (.iload 4, 2) := by decide +kernel
theorem dX8_mergeRuns_37 : decode cX8_mergeRuns 37 = .ok (.iaload, 1) := by decide +kernel
theorem dX8_mergeRuns_38 : decode cX8_mergeRuns 38 = .ok (.iaload, 1) := by decide +kernel
theorem dX8_mergeRuns_39 : decode cX8_mergeRuns 39 = .ok (.aload_n 0, 1) := by decide +kernel
theorem dX8_mergeRuns_40 : decode cX8_mergeRuns 40 = .ok (.getfield 9, 3) := by decide +kernel
theorem dX8_mergeRuns_43 : decode cX8_mergeRuns 43 = .ok (.aload_n 0, 1) := by decide +kernel
theorem dX8_mergeRuns_44 : decode cX8_mergeRuns 44 = .ok (.getfield 15, 3) := by decide +kernel
theorem dX8_mergeRuns_47 : decode cX8_mergeRuns 47 = .ok (.iload 5, 2) := by decide +kernel
theorem dX8_mergeRuns_49 : decode cX8_mergeRuns 49 = .ok (.iaload, 1) := by decide +kernel
theorem dX8_mergeRuns_50 : decode cX8_mergeRuns 50 = .ok (.iaload, 1) := by decide +kernel
theorem dX8_mergeRuns_51 : decode cX8_mergeRuns 51 = .ok (.if_icmp .gt 23, 3) := by decide +kernel
theorem dX8_mergeRuns_54 : decode cX8_mergeRuns 54 = .ok (.aload_n 0, 1) := by decide +kernel
theorem dX8_mergeRuns_55 : decode cX8_mergeRuns 55 = .ok (.getfield 18, 3) := by decide +kernel
theorem dX8_mergeRuns_58 : decode cX8_mergeRuns 58 = .ok (.iload 6, 2) := by decide +kernel
theorem dX8_mergeRuns_60 : decode cX8_mergeRuns 60 = .ok (.aload_n 0, 1) := by decide +kernel
theorem dX8_mergeRuns_61 : decode cX8_mergeRuns 61 = .ok (.getfield 15, 3) := by decide +kernel
theorem dX8_mergeRuns_64 : decode cX8_mergeRuns 64 = .ok (.iload 4, 2) := by decide +kernel
theorem dX8_mergeRuns_66 : decode cX8_mergeRuns 66 = .ok (.iaload, 1) := by decide +kernel
theorem dX8_mergeRuns_67 : decode cX8_mergeRuns 67 = .ok (.iastore, 1) := by decide +kernel
theorem dX8_mergeRuns_68 : decode cX8_mergeRuns 68 = .ok (.iinc 4 1, 3) := by decide +kernel
theorem dX8_mergeRuns_71 : decode cX8_mergeRuns 71 = .ok (.goto 20, 3) := by decide +kernel
theorem dX8_mergeRuns_74 : decode cX8_mergeRuns 74 = .ok (.aload_n 0, 1) := by decide +kernel
theorem dX8_mergeRuns_75 : decode cX8_mergeRuns 75 = .ok (.getfield 18, 3) := by decide +kernel
theorem dX8_mergeRuns_78 : decode cX8_mergeRuns 78 = .ok (.iload 6, 2) := by decide +kernel
theorem dX8_mergeRuns_80 : decode cX8_mergeRuns 80 = .ok (.aload_n 0, 1) := by decide +kernel
theorem dX8_mergeRuns_81 : decode cX8_mergeRuns 81 = .ok (.getfield 15, 3) := by decide +kernel
theorem dX8_mergeRuns_84 : decode cX8_mergeRuns 84 = .ok (.iload 5, 2) := by decide +kernel
theorem dX8_mergeRuns_86 : decode cX8_mergeRuns 86 = .ok (.iaload, 1) := by decide +kernel
theorem dX8_mergeRuns_87 : decode cX8_mergeRuns 87 = .ok (.iastore, 1) := by decide +kernel
theorem dX8_mergeRuns_88 : decode cX8_mergeRuns 88 = .ok (.iinc 5 1, 3) := by decide +kernel
theorem dX8_mergeRuns_91 : decode cX8_mergeRuns 91 = .ok (.iinc 6 1, 3) := by decide +kernel
theorem dX8_mergeRuns_94 : decode cX8_mergeRuns 94 = .ok (.goto (-85), 3) := by decide +kernel
theorem dX8_mergeRuns_97 : decode cX8_mergeRuns 97 = .ok (.return_, 1) := by decide +kernel
set_option maxHeartbeats 4000000 in
set_option maxRecDepth 100000 in
theorem a_X8_mergeRuns_80 (l : Launch) (dC : Nat → ClassId) (dI : Nat → Nat → Nat) (h : Nat → Nat) (cs : Nat → ClassId) (sz : Nat) (I : Nat → Int32) (L : Nat → Int64) (A : Nat → Nat → Int32) (Q : Nat → Nat → Int64) (G : Nat → Nat → Nat → Int32) (J : Nat → Nat → Nat → Int64) : Met l yX8_mergeRuns wsX8_mergeRuns ({ frames := 0, cells := 0, slots := 0, locals := 0 }) (va_Pc [.ref (h 105), .int (nI 0), .int (nI 1), .int (nI 2)] (xPre (dC, dI) (wD_60 h cs qI_75 fL qA_79 fQ fG fJ) (tysA cs) sz)) (va_Qv (fun (u : CS) => (True) ∧ u = (qI_75, fL, qA_81, fQ, fG, fJ)) (xB (dC, dI) (tysA cs) (va_A (wD_60 h cs qI_75 fL qA_79 fQ fG fJ) sz) (fun u : CS => wD_60 h cs u.1 u.2.1 u.2.2.1 u.2.2.2.1 u.2.2.2.2.1 u.2.2.2.2.2)) (va_A (wD_60 h cs qI_75 fL qA_79 fQ fG fJ) sz)) 0 0 (va_A (wD_60 h cs qI_75 fL qA_79 fQ fG fJ) sz) := by
  refine Met.ofW (cc := cX8_mergeRuns) (maxL := 7) (ret := none) (by decide) rfl ?_
  intro p e s m args below meth c s₁ B hml hv
  obtain ⟨rfl, hsz, hP, hK, hD0, hN⟩ := hv
  have hx := B.exec
  have hb := B.bytes
  have hr := B.returns
  have hts := atoms_spec (ws := wsX8_mergeRuns) B.pre
  have hown : s.vm.findClass RX8 = some m.cls := findClass_of_methodNamed B.named
  have hlocks := B.notSynchronized
  subst hsz
  have hD := hD0.self (sz := s.heap.size)
  generalize hAe : va_A (wD_60 h cs qI_75 fL qA_79 fQ fG fJ) s.heap.size = A0 at hD ⊢
  have hA : ∀ q : Nat, s.heap.size ≤ q → A0 q := fun q h => by rw [← hAe]; exact Or.inr h
  have hl := lv_entry ([.ref (h 105), .int (nI 0), .int (nI 1), .int (nI 2)]) (n := 7) (Nat.le_of_ble_eq_true rfl)
  rw [lg_entry_eq]
  generalize (lg_sl ([.ref (h 105), .int (nI 0), .int (nI 1), .int (nI 2)]) ++ List.replicate (7 - (lg_sl ([.ref (h 105), .int (nI 0), .int (nI 1), .int (nI 2)])).length) Slot.unset).toArray = ls at hl ⊢
  have hl : lv_has ls 7 [(0, .ref (h 105)), (1, .int (nI 0)), (2, .int (nI 1)), (3, .int (nI 2))] := hl
  generalize hH : s.heap = H at hP ⊢
  have hS : va_S A0 s.heap H [] := by rw [← hH]; exact va_S.rf
  have hinX8 : ∀ w ∈ wsX80, w ∈ wsX8_mergeRuns := by decide +kernel
  refine lv_iload_n hx hb dX8_mergeRuns_0 rfl (lv_at hl 1 rfl) ?_
  refine lv_istore (lv' := [(4, .int (nI 0)), (0, .ref (h 105)), (1, .int (nI 0)), (2, .int (nI 1)), (3, .int (nI 2))]) hx hb dX8_mergeRuns_1 hl (by decide) rfl (fun ls hl => ?_)
  refine lv_iload_n hx hb dX8_mergeRuns_3 rfl (lv_at hl 3 rfl) ?_
  refine lv_istore (lv' := [(5, .int (nI 1)), (4, .int (nI 0)), (0, .ref (h 105)), (1, .int (nI 0)), (2, .int (nI 1)), (3, .int (nI 2))]) hx hb dX8_mergeRuns_4 hl (by decide) rfl (fun ls hl => ?_)
  refine lv_iload_n hx hb dX8_mergeRuns_6 rfl (lv_at hl 3 rfl) ?_
  refine lv_istore (lv' := [(6, .int (nI 0)), (5, .int (nI 1)), (4, .int (nI 0)), (0, .ref (h 105)), (1, .int (nI 0)), (2, .int (nI 1)), (3, .int (nI 2))]) hx hb dX8_mergeRuns_7 hl (by decide) rfl (fun ls hl => ?_)
  refine lv_iload hx hb dX8_mergeRuns_9 (lv_at hl 0 rfl) ?_
  refine lv_iload_n hx hb dX8_mergeRuns_11 rfl (lv_at hl 6 rfl) ?_
  refine lv_icmp_ge (tgt := 97) hx hb dX8_mergeRuns_12 (by decide) (fun c9 => False.elim (by revert c9; decide +kernel)) (fun _ => ?_)
  refine lv_iload hx hb dX8_mergeRuns_15 (lv_at hl 2 rfl) ?_
  refine lv_iload_n hx hb dX8_mergeRuns_17 rfl (lv_at hl 5 rfl) ?_
  refine lv_icmp_ge (tgt := 74) hx hb dX8_mergeRuns_18 (by decide) (fun c9 => False.elim (by revert c9; decide +kernel)) (fun _ => ?_)
  refine lv_iload hx hb dX8_mergeRuns_21 (lv_at hl 1 rfl) ?_
  refine lv_iload_n hx hb dX8_mergeRuns_23 rfl (lv_at hl 6 rfl) ?_
  refine lv_icmp_ge (tgt := 54) hx hb dX8_mergeRuns_24 (by decide) (fun c9 => False.elim (by revert c9; decide +kernel)) (fun _ => ?_)
  refine lv_aload_n hx hb dX8_mergeRuns_27 rfl (lv_at hl 3 rfl) ?_
  refine va_get (D := (dC, dI)) (ci := 8) (v := .ref (h 170)) (C := RX8) (T := TX8) (N := 6) hx hb hts hinX8 hown hK hP 0 rfl rfl 1 (by decide) (hts (.fieldLink RX8 9 "MixedWords$Words" "offs" "[I") (by decide +kernel)) (fun _ h9 => h9) rfl dX8_mergeRuns_28 ?_
  refine lv_aload_n hx hb dX8_mergeRuns_31 rfl (lv_at hl 3 rfl) ?_
  refine va_get (D := (dC, dI)) (ci := 8) (v := .ref (h 171)) (C := RX8) (T := TX8) (N := 6) hx hb hts hinX8 hown hK hP 0 rfl rfl 2 (by decide) (hts (.fieldLink RX8 15 "MixedWords$Words" "byOff" "[I") (by decide +kernel)) (fun _ h9 => h9) rfl dX8_mergeRuns_32 ?_
  refine lv_iload hx hb dX8_mergeRuns_35 (lv_at hl 2 rfl) ?_
  refine xa_iald hx hb hK hP 10 0 rfl rfl (by omega) (by decide) dX8_mergeRuns_37 ?_
  refine xt_i (y := nI 0) (by decide +kernel) ?_
  refine xa_iald hx hb hK hP 9 0 rfl rfl (by omega) (by decide) dX8_mergeRuns_38 ?_
  refine xt_i (y := nI 0) (by decide +kernel) ?_
  refine lv_aload_n hx hb dX8_mergeRuns_39 rfl (lv_at hl 3 rfl) ?_
  refine va_get (D := (dC, dI)) (ci := 8) (v := .ref (h 170)) (C := RX8) (T := TX8) (N := 6) hx hb hts hinX8 hown hK hP 0 rfl rfl 1 (by decide) (hts (.fieldLink RX8 9 "MixedWords$Words" "offs" "[I") (by decide +kernel)) (fun _ h9 => h9) rfl dX8_mergeRuns_40 ?_
  refine lv_aload_n hx hb dX8_mergeRuns_43 rfl (lv_at hl 3 rfl) ?_
  refine va_get (D := (dC, dI)) (ci := 8) (v := .ref (h 171)) (C := RX8) (T := TX8) (N := 6) hx hb hts hinX8 hown hK hP 0 rfl rfl 2 (by decide) (hts (.fieldLink RX8 15 "MixedWords$Words" "byOff" "[I") (by decide +kernel)) (fun _ h9 => h9) rfl dX8_mergeRuns_44 ?_
  refine lv_iload hx hb dX8_mergeRuns_47 (lv_at hl 1 rfl) ?_
  refine xa_iald hx hb hK hP 10 0 rfl rfl (by omega) (by decide) dX8_mergeRuns_49 ?_
  refine xt_i (y := nI 1) (by decide +kernel) ?_
  refine xa_iald hx hb hK hP 9 0 rfl rfl (by omega) (by decide) dX8_mergeRuns_50 ?_
  refine xt_i (y := nI 0) (by decide +kernel) ?_
  refine lv_icmp_gt (tgt := 74) hx hb dX8_mergeRuns_51 (by decide) (fun c9 => False.elim (by revert c9; decide +kernel)) (fun _ => ?_)
  refine lv_aload_n hx hb dX8_mergeRuns_54 rfl (lv_at hl 3 rfl) ?_
  refine va_get (D := (dC, dI)) (ci := 8) (v := .ref (h 172)) (C := RX8) (T := TX8) (N := 6) hx hb hts hinX8 hown hK hP 0 rfl rfl 3 (by decide) (hts (.fieldLink RX8 18 "MixedWords$Words" "spare" "[I") (by decide +kernel)) (fun _ h9 => h9) rfl dX8_mergeRuns_55 ?_
  refine lv_iload hx hb dX8_mergeRuns_58 (lv_at hl 0 rfl) ?_
  refine lv_aload_n hx hb dX8_mergeRuns_60 rfl (lv_at hl 3 rfl) ?_
  refine va_get (D := (dC, dI)) (ci := 8) (v := .ref (h 171)) (C := RX8) (T := TX8) (N := 6) hx hb hts hinX8 hown hK hP 0 rfl rfl 2 (by decide) (hts (.fieldLink RX8 15 "MixedWords$Words" "byOff" "[I") (by decide +kernel)) (fun _ h9 => h9) rfl dX8_mergeRuns_61 ?_
  refine lv_iload hx hb dX8_mergeRuns_64 (lv_at hl 2 rfl) ?_
  refine xa_iald hx hb hK hP 10 0 rfl rfl (by omega) (by decide) dX8_mergeRuns_66 ?_
  refine xt_i (y := nI 0) (by decide +kernel) ?_
  refine xa_iastS hx hb hK hP hD hS 11 0 rfl rfl (by omega) (by decide) (by decide +kernel) dX8_mergeRuns_67 (fun H locs hP hD hS => ?_)
  refine lv_iinc (v := nI 1) (lv' := [(4, .int (nI 1)), (6, .int (nI 0)), (5, .int (nI 1)), (0, .ref (h 105)), (1, .int (nI 0)), (2, .int (nI 1)), (3, .int (nI 2))]) hx hb dX8_mergeRuns_68 hl (k := 2) rfl (by decide +kernel) (by decide) rfl (fun ls hl => ?_)
  refine lv_goto (tgt := 91) hx hb dX8_mergeRuns_71 (by decide) ?_
  refine lv_iinc (v := nI 1) (lv' := [(6, .int (nI 1)), (4, .int (nI 1)), (5, .int (nI 1)), (0, .ref (h 105)), (1, .int (nI 0)), (2, .int (nI 1)), (3, .int (nI 2))]) hx hb dX8_mergeRuns_91 hl (k := 1) rfl (by decide +kernel) (by decide) rfl (fun ls hl => ?_)
  refine lv_goto (tgt := 9) hx hb dX8_mergeRuns_94 (by decide) ?_
  refine lv_iload hx hb dX8_mergeRuns_9 (lv_at hl 0 rfl) ?_
  refine lv_iload_n hx hb dX8_mergeRuns_11 rfl (lv_at hl 6 rfl) ?_
  refine lv_icmp_ge (tgt := 97) hx hb dX8_mergeRuns_12 (by decide) (fun c9 => False.elim (by revert c9; decide +kernel)) (fun _ => ?_)
  refine lv_iload hx hb dX8_mergeRuns_15 (lv_at hl 1 rfl) ?_
  refine lv_iload_n hx hb dX8_mergeRuns_17 rfl (lv_at hl 5 rfl) ?_
  refine lv_icmp_ge (tgt := 74) hx hb dX8_mergeRuns_18 (by decide) (fun _ => ?_) (fun c9 => False.elim (by revert c9; decide +kernel))
  refine lv_aload_n hx hb dX8_mergeRuns_74 rfl (lv_at hl 3 rfl) ?_
  refine va_get (D := (dC, dI)) (ci := 8) (v := .ref (h 172)) (C := RX8) (T := TX8) (N := 6) hx hb hts hinX8 hown hK hP 0 rfl rfl 3 (by decide) (hts (.fieldLink RX8 18 "MixedWords$Words" "spare" "[I") (by decide +kernel)) (fun _ h9 => h9) rfl dX8_mergeRuns_75 ?_
  refine lv_iload hx hb dX8_mergeRuns_78 (lv_at hl 0 rfl) ?_
  refine lv_aload_n hx hb dX8_mergeRuns_80 rfl (lv_at hl 3 rfl) ?_
  refine va_get (D := (dC, dI)) (ci := 8) (v := .ref (h 171)) (C := RX8) (T := TX8) (N := 6) hx hb hts hinX8 hown hK hP 0 rfl rfl 2 (by decide) (hts (.fieldLink RX8 15 "MixedWords$Words" "byOff" "[I") (by decide +kernel)) (fun _ h9 => h9) rfl dX8_mergeRuns_81 ?_
  refine lv_iload hx hb dX8_mergeRuns_84 (lv_at hl 2 rfl) ?_
  refine xa_iald hx hb hK hP 10 0 rfl rfl (by omega) (by decide) dX8_mergeRuns_86 ?_
  refine xt_i (y := nI 1) (by decide +kernel) ?_
  refine xa_iast hx hb hK hP hD hS 11 0 rfl rfl (by omega) (by decide) dX8_mergeRuns_87 (fun H locs hP hD hS => ?_)
  have hP : va_P (dC, dI) vwCl (wD_60 h cs qI_75 fL (va_up qA_79 172 (upd (qA_79 172) 1 (nI 1))) fQ fG fJ) H := hP
  have hD : va_D A0 (wD_60 h cs qI_75 fL (va_up qA_79 172 (upd (qA_79 172) 1 (nI 1))) fQ fG fJ) := hD
  refine lv_iinc (v := nI 2) (lv' := [(5, .int (nI 2)), (6, .int (nI 1)), (4, .int (nI 1)), (0, .ref (h 105)), (1, .int (nI 0)), (2, .int (nI 1)), (3, .int (nI 2))]) hx hb dX8_mergeRuns_88 hl (k := 2) rfl (by decide +kernel) (by decide) rfl (fun ls hl => ?_)
  refine lv_iinc (v := nI 2) (lv' := [(6, .int (nI 2)), (5, .int (nI 2)), (4, .int (nI 1)), (0, .ref (h 105)), (1, .int (nI 0)), (2, .int (nI 1)), (3, .int (nI 2))]) hx hb dX8_mergeRuns_91 hl (k := 1) rfl (by decide +kernel) (by decide) rfl (fun ls hl => ?_)
  refine lv_goto (tgt := 9) hx hb dX8_mergeRuns_94 (by decide) ?_
  refine lv_iload hx hb dX8_mergeRuns_9 (lv_at hl 0 rfl) ?_
  refine lv_iload_n hx hb dX8_mergeRuns_11 rfl (lv_at hl 6 rfl) ?_
  refine lv_icmp_ge (tgt := 97) hx hb dX8_mergeRuns_12 (by decide) (fun _ => ?_) (fun c9 => False.elim (by revert c9; decide +kernel))
  have hP : va_P (dC, dI) vwCl (wD_60 h cs qI_75 fL qA_81 fQ fG fJ) H := hP
  have hD : va_D A0 (wD_60 h cs qI_75 fL qA_81 fQ fG fJ) := hD
  exact xr_v hx hb hr hlocks hK hS dX8_mergeRuns_97 (qI_75, fL, qA_81, fQ, fG, fJ) ⟨trivial, rfl⟩ hP hD
def qA_83 : Nat → Nat → Int32 := (va_up qA_81 172 (upd (upd (qA_81 172) 2 (nI 2)) 3 (nI 3)))
set_option maxHeartbeats 4000000 in
set_option maxRecDepth 100000 in
theorem a_X8_mergeRuns_82 (l : Launch) (dC : Nat → ClassId) (dI : Nat → Nat → Nat) (h : Nat → Nat) (cs : Nat → ClassId) (sz : Nat) (I : Nat → Int32) (L : Nat → Int64) (A : Nat → Nat → Int32) (Q : Nat → Nat → Int64) (G : Nat → Nat → Nat → Int32) (J : Nat → Nat → Nat → Int64) : Met l yX8_mergeRuns wsX8_mergeRuns ({ frames := 0, cells := 0, slots := 0, locals := 0 }) (va_Pc [.ref (h 105), .int (nI 2), .int (nI 3), .int (nI 4)] (xPre (dC, dI) (wD_60 h cs qI_75 fL qA_81 fQ fG fJ) (tysA cs) sz)) (va_Qv (fun (u : CS) => (True) ∧ u = (qI_75, fL, qA_83, fQ, fG, fJ)) (xB (dC, dI) (tysA cs) (va_A (wD_60 h cs qI_75 fL qA_81 fQ fG fJ) sz) (fun u : CS => wD_60 h cs u.1 u.2.1 u.2.2.1 u.2.2.2.1 u.2.2.2.2.1 u.2.2.2.2.2)) (va_A (wD_60 h cs qI_75 fL qA_81 fQ fG fJ) sz)) 0 0 (va_A (wD_60 h cs qI_75 fL qA_81 fQ fG fJ) sz) := by
  refine Met.ofW (cc := cX8_mergeRuns) (maxL := 7) (ret := none) (by decide) rfl ?_
  intro p e s m args below meth c s₁ B hml hv
  obtain ⟨rfl, hsz, hP, hK, hD0, hN⟩ := hv
  have hx := B.exec
  have hb := B.bytes
  have hr := B.returns
  have hts := atoms_spec (ws := wsX8_mergeRuns) B.pre
  have hown : s.vm.findClass RX8 = some m.cls := findClass_of_methodNamed B.named
  have hlocks := B.notSynchronized
  subst hsz
  have hD := hD0.self (sz := s.heap.size)
  generalize hAe : va_A (wD_60 h cs qI_75 fL qA_81 fQ fG fJ) s.heap.size = A0 at hD ⊢
  have hA : ∀ q : Nat, s.heap.size ≤ q → A0 q := fun q h => by rw [← hAe]; exact Or.inr h
  have hl := lv_entry ([.ref (h 105), .int (nI 2), .int (nI 3), .int (nI 4)]) (n := 7) (Nat.le_of_ble_eq_true rfl)
  rw [lg_entry_eq]
  generalize (lg_sl ([.ref (h 105), .int (nI 2), .int (nI 3), .int (nI 4)]) ++ List.replicate (7 - (lg_sl ([.ref (h 105), .int (nI 2), .int (nI 3), .int (nI 4)])).length) Slot.unset).toArray = ls at hl ⊢
  have hl : lv_has ls 7 [(0, .ref (h 105)), (1, .int (nI 2)), (2, .int (nI 3)), (3, .int (nI 4))] := hl
  generalize hH : s.heap = H at hP ⊢
  have hS : va_S A0 s.heap H [] := by rw [← hH]; exact va_S.rf
  have hinX8 : ∀ w ∈ wsX80, w ∈ wsX8_mergeRuns := by decide +kernel
  refine lv_iload_n hx hb dX8_mergeRuns_0 rfl (lv_at hl 1 rfl) ?_
  refine lv_istore (lv' := [(4, .int (nI 2)), (0, .ref (h 105)), (1, .int (nI 2)), (2, .int (nI 3)), (3, .int (nI 4))]) hx hb dX8_mergeRuns_1 hl (by decide) rfl (fun ls hl => ?_)
  refine lv_iload_n hx hb dX8_mergeRuns_3 rfl (lv_at hl 3 rfl) ?_
  refine lv_istore (lv' := [(5, .int (nI 3)), (4, .int (nI 2)), (0, .ref (h 105)), (1, .int (nI 2)), (2, .int (nI 3)), (3, .int (nI 4))]) hx hb dX8_mergeRuns_4 hl (by decide) rfl (fun ls hl => ?_)
  refine lv_iload_n hx hb dX8_mergeRuns_6 rfl (lv_at hl 3 rfl) ?_
  refine lv_istore (lv' := [(6, .int (nI 2)), (5, .int (nI 3)), (4, .int (nI 2)), (0, .ref (h 105)), (1, .int (nI 2)), (2, .int (nI 3)), (3, .int (nI 4))]) hx hb dX8_mergeRuns_7 hl (by decide) rfl (fun ls hl => ?_)
  refine lv_iload hx hb dX8_mergeRuns_9 (lv_at hl 0 rfl) ?_
  refine lv_iload_n hx hb dX8_mergeRuns_11 rfl (lv_at hl 6 rfl) ?_
  refine lv_icmp_ge (tgt := 97) hx hb dX8_mergeRuns_12 (by decide) (fun c9 => False.elim (by revert c9; decide +kernel)) (fun _ => ?_)
  refine lv_iload hx hb dX8_mergeRuns_15 (lv_at hl 2 rfl) ?_
  refine lv_iload_n hx hb dX8_mergeRuns_17 rfl (lv_at hl 5 rfl) ?_
  refine lv_icmp_ge (tgt := 74) hx hb dX8_mergeRuns_18 (by decide) (fun c9 => False.elim (by revert c9; decide +kernel)) (fun _ => ?_)
  refine lv_iload hx hb dX8_mergeRuns_21 (lv_at hl 1 rfl) ?_
  refine lv_iload_n hx hb dX8_mergeRuns_23 rfl (lv_at hl 6 rfl) ?_
  refine lv_icmp_ge (tgt := 54) hx hb dX8_mergeRuns_24 (by decide) (fun c9 => False.elim (by revert c9; decide +kernel)) (fun _ => ?_)
  refine lv_aload_n hx hb dX8_mergeRuns_27 rfl (lv_at hl 3 rfl) ?_
  refine va_get (D := (dC, dI)) (ci := 8) (v := .ref (h 170)) (C := RX8) (T := TX8) (N := 6) hx hb hts hinX8 hown hK hP 0 rfl rfl 1 (by decide) (hts (.fieldLink RX8 9 "MixedWords$Words" "offs" "[I") (by decide +kernel)) (fun _ h9 => h9) rfl dX8_mergeRuns_28 ?_
  refine lv_aload_n hx hb dX8_mergeRuns_31 rfl (lv_at hl 3 rfl) ?_
  refine va_get (D := (dC, dI)) (ci := 8) (v := .ref (h 171)) (C := RX8) (T := TX8) (N := 6) hx hb hts hinX8 hown hK hP 0 rfl rfl 2 (by decide) (hts (.fieldLink RX8 15 "MixedWords$Words" "byOff" "[I") (by decide +kernel)) (fun _ h9 => h9) rfl dX8_mergeRuns_32 ?_
  refine lv_iload hx hb dX8_mergeRuns_35 (lv_at hl 2 rfl) ?_
  refine xa_iald hx hb hK hP 10 0 rfl rfl (by omega) (by decide) dX8_mergeRuns_37 ?_
  refine xt_i (y := nI 2) (by decide +kernel) ?_
  refine xa_iald hx hb hK hP 9 0 rfl rfl (by omega) (by decide) dX8_mergeRuns_38 ?_
  refine xt_i (y := nI 0) (by decide +kernel) ?_
  refine lv_aload_n hx hb dX8_mergeRuns_39 rfl (lv_at hl 3 rfl) ?_
  refine va_get (D := (dC, dI)) (ci := 8) (v := .ref (h 170)) (C := RX8) (T := TX8) (N := 6) hx hb hts hinX8 hown hK hP 0 rfl rfl 1 (by decide) (hts (.fieldLink RX8 9 "MixedWords$Words" "offs" "[I") (by decide +kernel)) (fun _ h9 => h9) rfl dX8_mergeRuns_40 ?_
  refine lv_aload_n hx hb dX8_mergeRuns_43 rfl (lv_at hl 3 rfl) ?_
  refine va_get (D := (dC, dI)) (ci := 8) (v := .ref (h 171)) (C := RX8) (T := TX8) (N := 6) hx hb hts hinX8 hown hK hP 0 rfl rfl 2 (by decide) (hts (.fieldLink RX8 15 "MixedWords$Words" "byOff" "[I") (by decide +kernel)) (fun _ h9 => h9) rfl dX8_mergeRuns_44 ?_
  refine lv_iload hx hb dX8_mergeRuns_47 (lv_at hl 1 rfl) ?_
  refine xa_iald hx hb hK hP 10 0 rfl rfl (by omega) (by decide) dX8_mergeRuns_49 ?_
  refine xt_i (y := nI 3) (by decide +kernel) ?_
  refine xa_iald hx hb hK hP 9 0 rfl rfl (by omega) (by decide) dX8_mergeRuns_50 ?_
  refine xt_i (y := nI 0) (by decide +kernel) ?_
  refine lv_icmp_gt (tgt := 74) hx hb dX8_mergeRuns_51 (by decide) (fun c9 => False.elim (by revert c9; decide +kernel)) (fun _ => ?_)
  refine lv_aload_n hx hb dX8_mergeRuns_54 rfl (lv_at hl 3 rfl) ?_
  refine va_get (D := (dC, dI)) (ci := 8) (v := .ref (h 172)) (C := RX8) (T := TX8) (N := 6) hx hb hts hinX8 hown hK hP 0 rfl rfl 3 (by decide) (hts (.fieldLink RX8 18 "MixedWords$Words" "spare" "[I") (by decide +kernel)) (fun _ h9 => h9) rfl dX8_mergeRuns_55 ?_
  refine lv_iload hx hb dX8_mergeRuns_58 (lv_at hl 0 rfl) ?_
  refine lv_aload_n hx hb dX8_mergeRuns_60 rfl (lv_at hl 3 rfl) ?_
  refine va_get (D := (dC, dI)) (ci := 8) (v := .ref (h 171)) (C := RX8) (T := TX8) (N := 6) hx hb hts hinX8 hown hK hP 0 rfl rfl 2 (by decide) (hts (.fieldLink RX8 15 "MixedWords$Words" "byOff" "[I") (by decide +kernel)) (fun _ h9 => h9) rfl dX8_mergeRuns_61 ?_
  refine lv_iload hx hb dX8_mergeRuns_64 (lv_at hl 2 rfl) ?_
  refine xa_iald hx hb hK hP 10 0 rfl rfl (by omega) (by decide) dX8_mergeRuns_66 ?_
  refine xt_i (y := nI 2) (by decide +kernel) ?_
  refine xa_iast hx hb hK hP hD hS 11 0 rfl rfl (by omega) (by decide) dX8_mergeRuns_67 (fun H locs hP hD hS => ?_)
  have hP : va_P (dC, dI) vwCl (wD_60 h cs qI_75 fL (va_up qA_81 172 (upd (qA_81 172) 2 (nI 2))) fQ fG fJ) H := hP
  have hD : va_D A0 (wD_60 h cs qI_75 fL (va_up qA_81 172 (upd (qA_81 172) 2 (nI 2))) fQ fG fJ) := hD
  refine lv_iinc (v := nI 3) (lv' := [(4, .int (nI 3)), (6, .int (nI 2)), (5, .int (nI 3)), (0, .ref (h 105)), (1, .int (nI 2)), (2, .int (nI 3)), (3, .int (nI 4))]) hx hb dX8_mergeRuns_68 hl (k := 2) rfl (by decide +kernel) (by decide) rfl (fun ls hl => ?_)
  refine lv_goto (tgt := 91) hx hb dX8_mergeRuns_71 (by decide) ?_
  refine lv_iinc (v := nI 3) (lv' := [(6, .int (nI 3)), (4, .int (nI 3)), (5, .int (nI 3)), (0, .ref (h 105)), (1, .int (nI 2)), (2, .int (nI 3)), (3, .int (nI 4))]) hx hb dX8_mergeRuns_91 hl (k := 1) rfl (by decide +kernel) (by decide) rfl (fun ls hl => ?_)
  refine lv_goto (tgt := 9) hx hb dX8_mergeRuns_94 (by decide) ?_
  refine lv_iload hx hb dX8_mergeRuns_9 (lv_at hl 0 rfl) ?_
  refine lv_iload_n hx hb dX8_mergeRuns_11 rfl (lv_at hl 6 rfl) ?_
  refine lv_icmp_ge (tgt := 97) hx hb dX8_mergeRuns_12 (by decide) (fun c9 => False.elim (by revert c9; decide +kernel)) (fun _ => ?_)
  refine lv_iload hx hb dX8_mergeRuns_15 (lv_at hl 1 rfl) ?_
  refine lv_iload_n hx hb dX8_mergeRuns_17 rfl (lv_at hl 5 rfl) ?_
  refine lv_icmp_ge (tgt := 74) hx hb dX8_mergeRuns_18 (by decide) (fun _ => ?_) (fun c9 => False.elim (by revert c9; decide +kernel))
  refine lv_aload_n hx hb dX8_mergeRuns_74 rfl (lv_at hl 3 rfl) ?_
  refine va_get (D := (dC, dI)) (ci := 8) (v := .ref (h 172)) (C := RX8) (T := TX8) (N := 6) hx hb hts hinX8 hown hK hP 0 rfl rfl 3 (by decide) (hts (.fieldLink RX8 18 "MixedWords$Words" "spare" "[I") (by decide +kernel)) (fun _ h9 => h9) rfl dX8_mergeRuns_75 ?_
  refine lv_iload hx hb dX8_mergeRuns_78 (lv_at hl 0 rfl) ?_
  refine lv_aload_n hx hb dX8_mergeRuns_80 rfl (lv_at hl 3 rfl) ?_
  refine va_get (D := (dC, dI)) (ci := 8) (v := .ref (h 171)) (C := RX8) (T := TX8) (N := 6) hx hb hts hinX8 hown hK hP 0 rfl rfl 2 (by decide) (hts (.fieldLink RX8 15 "MixedWords$Words" "byOff" "[I") (by decide +kernel)) (fun _ h9 => h9) rfl dX8_mergeRuns_81 ?_
  refine lv_iload hx hb dX8_mergeRuns_84 (lv_at hl 2 rfl) ?_
  refine xa_iald hx hb hK hP 10 0 rfl rfl (by omega) (by decide) dX8_mergeRuns_86 ?_
  refine xt_i (y := nI 3) (by decide +kernel) ?_
  refine xa_iast hx hb hK hP hD hS 11 0 rfl rfl (by omega) (by decide) dX8_mergeRuns_87 (fun H locs hP hD hS => ?_)
  have hP : va_P (dC, dI) vwCl (wD_60 h cs qI_75 fL (va_up qA_81 172 (upd (upd (qA_81 172) 2 (nI 2)) 3 (nI 3))) fQ fG fJ) H := hP
  have hD : va_D A0 (wD_60 h cs qI_75 fL (va_up qA_81 172 (upd (upd (qA_81 172) 2 (nI 2)) 3 (nI 3))) fQ fG fJ) := hD
  refine lv_iinc (v := nI 4) (lv' := [(5, .int (nI 4)), (6, .int (nI 3)), (4, .int (nI 3)), (0, .ref (h 105)), (1, .int (nI 2)), (2, .int (nI 3)), (3, .int (nI 4))]) hx hb dX8_mergeRuns_88 hl (k := 2) rfl (by decide +kernel) (by decide) rfl (fun ls hl => ?_)
  refine lv_iinc (v := nI 4) (lv' := [(6, .int (nI 4)), (5, .int (nI 4)), (4, .int (nI 3)), (0, .ref (h 105)), (1, .int (nI 2)), (2, .int (nI 3)), (3, .int (nI 4))]) hx hb dX8_mergeRuns_91 hl (k := 1) rfl (by decide +kernel) (by decide) rfl (fun ls hl => ?_)
  refine lv_goto (tgt := 9) hx hb dX8_mergeRuns_94 (by decide) ?_
  refine lv_iload hx hb dX8_mergeRuns_9 (lv_at hl 0 rfl) ?_
  refine lv_iload_n hx hb dX8_mergeRuns_11 rfl (lv_at hl 6 rfl) ?_
  refine lv_icmp_ge (tgt := 97) hx hb dX8_mergeRuns_12 (by decide) (fun _ => ?_) (fun c9 => False.elim (by revert c9; decide +kernel))
  have hP : va_P (dC, dI) vwCl (wD_60 h cs qI_75 fL qA_83 fQ fG fJ) H := hP
  have hD : va_D A0 (wD_60 h cs qI_75 fL qA_83 fQ fG fJ) := hD
  exact xr_v hx hb hr hlocks hK hS dX8_mergeRuns_97 (qI_75, fL, qA_83, fQ, fG, fJ) ⟨trivial, rfl⟩ hP hD
set_option maxHeartbeats 4000000 in
set_option maxRecDepth 100000 in
theorem a_X8_mergeRuns_84 (l : Launch) (dC : Nat → ClassId) (dI : Nat → Nat → Nat) (h : Nat → Nat) (cs : Nat → ClassId) (sz : Nat) (I : Nat → Int32) (L : Nat → Int64) (A : Nat → Nat → Int32) (Q : Nat → Nat → Int64) (G : Nat → Nat → Nat → Int32) (J : Nat → Nat → Nat → Int64) : Met l yX8_mergeRuns wsX8_mergeRuns ({ frames := 0, cells := 0, slots := 0, locals := 0 }) (va_Pc [.ref (h 105), .int (nI 0), .int (nI 2), .int (nI 4)] (xPre (dC, dI) (wD_60 h cs qI_75 fL qA_83 fQ fG fJ) (tysA cs) sz)) (va_Qv (fun (u : CS) => (True) ∧ u = (qI_75, fL, qA_83, fQ, fG, fJ)) (xB (dC, dI) (tysA cs) (va_A (wD_60 h cs qI_75 fL qA_83 fQ fG fJ) sz) (fun u : CS => wD_60 h cs u.1 u.2.1 u.2.2.1 u.2.2.2.1 u.2.2.2.2.1 u.2.2.2.2.2)) (va_A (wD_60 h cs qI_75 fL qA_83 fQ fG fJ) sz)) 0 0 (va_A (wD_60 h cs qI_75 fL qA_83 fQ fG fJ) sz) := by
  refine Met.ofW (cc := cX8_mergeRuns) (maxL := 7) (ret := none) (by decide) rfl ?_
  intro p e s m args below meth c s₁ B hml hv
  obtain ⟨rfl, hsz, hP, hK, hD0, hN⟩ := hv
  have hx := B.exec
  have hb := B.bytes
  have hr := B.returns
  have hts := atoms_spec (ws := wsX8_mergeRuns) B.pre
  have hown : s.vm.findClass RX8 = some m.cls := findClass_of_methodNamed B.named
  have hlocks := B.notSynchronized
  subst hsz
  have hD := hD0.self (sz := s.heap.size)
  generalize hAe : va_A (wD_60 h cs qI_75 fL qA_83 fQ fG fJ) s.heap.size = A0 at hD ⊢
  have hA : ∀ q : Nat, s.heap.size ≤ q → A0 q := fun q h => by rw [← hAe]; exact Or.inr h
  have hl := lv_entry ([.ref (h 105), .int (nI 0), .int (nI 2), .int (nI 4)]) (n := 7) (Nat.le_of_ble_eq_true rfl)
  rw [lg_entry_eq]
  generalize (lg_sl ([.ref (h 105), .int (nI 0), .int (nI 2), .int (nI 4)]) ++ List.replicate (7 - (lg_sl ([.ref (h 105), .int (nI 0), .int (nI 2), .int (nI 4)])).length) Slot.unset).toArray = ls at hl ⊢
  have hl : lv_has ls 7 [(0, .ref (h 105)), (1, .int (nI 0)), (2, .int (nI 2)), (3, .int (nI 4))] := hl
  generalize hH : s.heap = H at hP ⊢
  have hS : va_S A0 s.heap H [] := by rw [← hH]; exact va_S.rf
  have hinX8 : ∀ w ∈ wsX80, w ∈ wsX8_mergeRuns := by decide +kernel
  refine lv_iload_n hx hb dX8_mergeRuns_0 rfl (lv_at hl 1 rfl) ?_
  refine lv_istore (lv' := [(4, .int (nI 0)), (0, .ref (h 105)), (1, .int (nI 0)), (2, .int (nI 2)), (3, .int (nI 4))]) hx hb dX8_mergeRuns_1 hl (by decide) rfl (fun ls hl => ?_)
  refine lv_iload_n hx hb dX8_mergeRuns_3 rfl (lv_at hl 3 rfl) ?_
  refine lv_istore (lv' := [(5, .int (nI 2)), (4, .int (nI 0)), (0, .ref (h 105)), (1, .int (nI 0)), (2, .int (nI 2)), (3, .int (nI 4))]) hx hb dX8_mergeRuns_4 hl (by decide) rfl (fun ls hl => ?_)
  refine lv_iload_n hx hb dX8_mergeRuns_6 rfl (lv_at hl 3 rfl) ?_
  refine lv_istore (lv' := [(6, .int (nI 0)), (5, .int (nI 2)), (4, .int (nI 0)), (0, .ref (h 105)), (1, .int (nI 0)), (2, .int (nI 2)), (3, .int (nI 4))]) hx hb dX8_mergeRuns_7 hl (by decide) rfl (fun ls hl => ?_)
  refine lv_iload hx hb dX8_mergeRuns_9 (lv_at hl 0 rfl) ?_
  refine lv_iload_n hx hb dX8_mergeRuns_11 rfl (lv_at hl 6 rfl) ?_
  refine lv_icmp_ge (tgt := 97) hx hb dX8_mergeRuns_12 (by decide) (fun c9 => False.elim (by revert c9; decide +kernel)) (fun _ => ?_)
  refine lv_iload hx hb dX8_mergeRuns_15 (lv_at hl 2 rfl) ?_
  refine lv_iload_n hx hb dX8_mergeRuns_17 rfl (lv_at hl 5 rfl) ?_
  refine lv_icmp_ge (tgt := 74) hx hb dX8_mergeRuns_18 (by decide) (fun c9 => False.elim (by revert c9; decide +kernel)) (fun _ => ?_)
  refine lv_iload hx hb dX8_mergeRuns_21 (lv_at hl 1 rfl) ?_
  refine lv_iload_n hx hb dX8_mergeRuns_23 rfl (lv_at hl 6 rfl) ?_
  refine lv_icmp_ge (tgt := 54) hx hb dX8_mergeRuns_24 (by decide) (fun c9 => False.elim (by revert c9; decide +kernel)) (fun _ => ?_)
  refine lv_aload_n hx hb dX8_mergeRuns_27 rfl (lv_at hl 3 rfl) ?_
  refine va_get (D := (dC, dI)) (ci := 8) (v := .ref (h 170)) (C := RX8) (T := TX8) (N := 6) hx hb hts hinX8 hown hK hP 0 rfl rfl 1 (by decide) (hts (.fieldLink RX8 9 "MixedWords$Words" "offs" "[I") (by decide +kernel)) (fun _ h9 => h9) rfl dX8_mergeRuns_28 ?_
  refine lv_aload_n hx hb dX8_mergeRuns_31 rfl (lv_at hl 3 rfl) ?_
  refine va_get (D := (dC, dI)) (ci := 8) (v := .ref (h 171)) (C := RX8) (T := TX8) (N := 6) hx hb hts hinX8 hown hK hP 0 rfl rfl 2 (by decide) (hts (.fieldLink RX8 15 "MixedWords$Words" "byOff" "[I") (by decide +kernel)) (fun _ h9 => h9) rfl dX8_mergeRuns_32 ?_
  refine lv_iload hx hb dX8_mergeRuns_35 (lv_at hl 2 rfl) ?_
  refine xa_iald hx hb hK hP 10 0 rfl rfl (by omega) (by decide) dX8_mergeRuns_37 ?_
  refine xt_i (y := nI 0) (by decide +kernel) ?_
  refine xa_iald hx hb hK hP 9 0 rfl rfl (by omega) (by decide) dX8_mergeRuns_38 ?_
  refine xt_i (y := nI 0) (by decide +kernel) ?_
  refine lv_aload_n hx hb dX8_mergeRuns_39 rfl (lv_at hl 3 rfl) ?_
  refine va_get (D := (dC, dI)) (ci := 8) (v := .ref (h 170)) (C := RX8) (T := TX8) (N := 6) hx hb hts hinX8 hown hK hP 0 rfl rfl 1 (by decide) (hts (.fieldLink RX8 9 "MixedWords$Words" "offs" "[I") (by decide +kernel)) (fun _ h9 => h9) rfl dX8_mergeRuns_40 ?_
  refine lv_aload_n hx hb dX8_mergeRuns_43 rfl (lv_at hl 3 rfl) ?_
  refine va_get (D := (dC, dI)) (ci := 8) (v := .ref (h 171)) (C := RX8) (T := TX8) (N := 6) hx hb hts hinX8 hown hK hP 0 rfl rfl 2 (by decide) (hts (.fieldLink RX8 15 "MixedWords$Words" "byOff" "[I") (by decide +kernel)) (fun _ h9 => h9) rfl dX8_mergeRuns_44 ?_
  refine lv_iload hx hb dX8_mergeRuns_47 (lv_at hl 1 rfl) ?_
  refine xa_iald hx hb hK hP 10 0 rfl rfl (by omega) (by decide) dX8_mergeRuns_49 ?_
  refine xt_i (y := nI 2) (by decide +kernel) ?_
  refine xa_iald hx hb hK hP 9 0 rfl rfl (by omega) (by decide) dX8_mergeRuns_50 ?_
  refine xt_i (y := nI 0) (by decide +kernel) ?_
  refine lv_icmp_gt (tgt := 74) hx hb dX8_mergeRuns_51 (by decide) (fun c9 => False.elim (by revert c9; decide +kernel)) (fun _ => ?_)
  refine lv_aload_n hx hb dX8_mergeRuns_54 rfl (lv_at hl 3 rfl) ?_
  refine va_get (D := (dC, dI)) (ci := 8) (v := .ref (h 172)) (C := RX8) (T := TX8) (N := 6) hx hb hts hinX8 hown hK hP 0 rfl rfl 3 (by decide) (hts (.fieldLink RX8 18 "MixedWords$Words" "spare" "[I") (by decide +kernel)) (fun _ h9 => h9) rfl dX8_mergeRuns_55 ?_
  refine lv_iload hx hb dX8_mergeRuns_58 (lv_at hl 0 rfl) ?_
  refine lv_aload_n hx hb dX8_mergeRuns_60 rfl (lv_at hl 3 rfl) ?_
  refine va_get (D := (dC, dI)) (ci := 8) (v := .ref (h 171)) (C := RX8) (T := TX8) (N := 6) hx hb hts hinX8 hown hK hP 0 rfl rfl 2 (by decide) (hts (.fieldLink RX8 15 "MixedWords$Words" "byOff" "[I") (by decide +kernel)) (fun _ h9 => h9) rfl dX8_mergeRuns_61 ?_
  refine lv_iload hx hb dX8_mergeRuns_64 (lv_at hl 2 rfl) ?_
  refine xa_iald hx hb hK hP 10 0 rfl rfl (by omega) (by decide) dX8_mergeRuns_66 ?_
  refine xt_i (y := nI 0) (by decide +kernel) ?_
  refine xa_iastS hx hb hK hP hD hS 11 0 rfl rfl (by omega) (by decide) (by decide +kernel) dX8_mergeRuns_67 (fun H locs hP hD hS => ?_)
  refine lv_iinc (v := nI 1) (lv' := [(4, .int (nI 1)), (6, .int (nI 0)), (5, .int (nI 2)), (0, .ref (h 105)), (1, .int (nI 0)), (2, .int (nI 2)), (3, .int (nI 4))]) hx hb dX8_mergeRuns_68 hl (k := 2) rfl (by decide +kernel) (by decide) rfl (fun ls hl => ?_)
  refine lv_goto (tgt := 91) hx hb dX8_mergeRuns_71 (by decide) ?_
  refine lv_iinc (v := nI 1) (lv' := [(6, .int (nI 1)), (4, .int (nI 1)), (5, .int (nI 2)), (0, .ref (h 105)), (1, .int (nI 0)), (2, .int (nI 2)), (3, .int (nI 4))]) hx hb dX8_mergeRuns_91 hl (k := 1) rfl (by decide +kernel) (by decide) rfl (fun ls hl => ?_)
  refine lv_goto (tgt := 9) hx hb dX8_mergeRuns_94 (by decide) ?_
  refine lv_iload hx hb dX8_mergeRuns_9 (lv_at hl 0 rfl) ?_
  refine lv_iload_n hx hb dX8_mergeRuns_11 rfl (lv_at hl 6 rfl) ?_
  refine lv_icmp_ge (tgt := 97) hx hb dX8_mergeRuns_12 (by decide) (fun c9 => False.elim (by revert c9; decide +kernel)) (fun _ => ?_)
  refine lv_iload hx hb dX8_mergeRuns_15 (lv_at hl 1 rfl) ?_
  refine lv_iload_n hx hb dX8_mergeRuns_17 rfl (lv_at hl 5 rfl) ?_
  refine lv_icmp_ge (tgt := 74) hx hb dX8_mergeRuns_18 (by decide) (fun c9 => False.elim (by revert c9; decide +kernel)) (fun _ => ?_)
  refine lv_iload hx hb dX8_mergeRuns_21 (lv_at hl 2 rfl) ?_
  refine lv_iload_n hx hb dX8_mergeRuns_23 rfl (lv_at hl 6 rfl) ?_
  refine lv_icmp_ge (tgt := 54) hx hb dX8_mergeRuns_24 (by decide) (fun c9 => False.elim (by revert c9; decide +kernel)) (fun _ => ?_)
  refine lv_aload_n hx hb dX8_mergeRuns_27 rfl (lv_at hl 3 rfl) ?_
  refine va_get (D := (dC, dI)) (ci := 8) (v := .ref (h 170)) (C := RX8) (T := TX8) (N := 6) hx hb hts hinX8 hown hK hP 0 rfl rfl 1 (by decide) (hts (.fieldLink RX8 9 "MixedWords$Words" "offs" "[I") (by decide +kernel)) (fun _ h9 => h9) rfl dX8_mergeRuns_28 ?_
  refine lv_aload_n hx hb dX8_mergeRuns_31 rfl (lv_at hl 3 rfl) ?_
  refine va_get (D := (dC, dI)) (ci := 8) (v := .ref (h 171)) (C := RX8) (T := TX8) (N := 6) hx hb hts hinX8 hown hK hP 0 rfl rfl 2 (by decide) (hts (.fieldLink RX8 15 "MixedWords$Words" "byOff" "[I") (by decide +kernel)) (fun _ h9 => h9) rfl dX8_mergeRuns_32 ?_
  refine lv_iload hx hb dX8_mergeRuns_35 (lv_at hl 1 rfl) ?_
  refine xa_iald hx hb hK hP 10 0 rfl rfl (by omega) (by decide) dX8_mergeRuns_37 ?_
  refine xt_i (y := nI 1) (by decide +kernel) ?_
  refine xa_iald hx hb hK hP 9 0 rfl rfl (by omega) (by decide) dX8_mergeRuns_38 ?_
  refine xt_i (y := nI 0) (by decide +kernel) ?_
  refine lv_aload_n hx hb dX8_mergeRuns_39 rfl (lv_at hl 3 rfl) ?_
  refine va_get (D := (dC, dI)) (ci := 8) (v := .ref (h 170)) (C := RX8) (T := TX8) (N := 6) hx hb hts hinX8 hown hK hP 0 rfl rfl 1 (by decide) (hts (.fieldLink RX8 9 "MixedWords$Words" "offs" "[I") (by decide +kernel)) (fun _ h9 => h9) rfl dX8_mergeRuns_40 ?_
  refine lv_aload_n hx hb dX8_mergeRuns_43 rfl (lv_at hl 3 rfl) ?_
  refine va_get (D := (dC, dI)) (ci := 8) (v := .ref (h 171)) (C := RX8) (T := TX8) (N := 6) hx hb hts hinX8 hown hK hP 0 rfl rfl 2 (by decide) (hts (.fieldLink RX8 15 "MixedWords$Words" "byOff" "[I") (by decide +kernel)) (fun _ h9 => h9) rfl dX8_mergeRuns_44 ?_
  refine lv_iload hx hb dX8_mergeRuns_47 (lv_at hl 2 rfl) ?_
  refine xa_iald hx hb hK hP 10 0 rfl rfl (by omega) (by decide) dX8_mergeRuns_49 ?_
  refine xt_i (y := nI 2) (by decide +kernel) ?_
  refine xa_iald hx hb hK hP 9 0 rfl rfl (by omega) (by decide) dX8_mergeRuns_50 ?_
  refine xt_i (y := nI 0) (by decide +kernel) ?_
  refine lv_icmp_gt (tgt := 74) hx hb dX8_mergeRuns_51 (by decide) (fun c9 => False.elim (by revert c9; decide +kernel)) (fun _ => ?_)
  refine lv_aload_n hx hb dX8_mergeRuns_54 rfl (lv_at hl 3 rfl) ?_
  refine va_get (D := (dC, dI)) (ci := 8) (v := .ref (h 172)) (C := RX8) (T := TX8) (N := 6) hx hb hts hinX8 hown hK hP 0 rfl rfl 3 (by decide) (hts (.fieldLink RX8 18 "MixedWords$Words" "spare" "[I") (by decide +kernel)) (fun _ h9 => h9) rfl dX8_mergeRuns_55 ?_
  refine lv_iload hx hb dX8_mergeRuns_58 (lv_at hl 0 rfl) ?_
  refine lv_aload_n hx hb dX8_mergeRuns_60 rfl (lv_at hl 3 rfl) ?_
  refine va_get (D := (dC, dI)) (ci := 8) (v := .ref (h 171)) (C := RX8) (T := TX8) (N := 6) hx hb hts hinX8 hown hK hP 0 rfl rfl 2 (by decide) (hts (.fieldLink RX8 15 "MixedWords$Words" "byOff" "[I") (by decide +kernel)) (fun _ h9 => h9) rfl dX8_mergeRuns_61 ?_
  refine lv_iload hx hb dX8_mergeRuns_64 (lv_at hl 1 rfl) ?_
  refine xa_iald hx hb hK hP 10 0 rfl rfl (by omega) (by decide) dX8_mergeRuns_66 ?_
  refine xt_i (y := nI 1) (by decide +kernel) ?_
  refine xa_iastS hx hb hK hP hD hS 11 0 rfl rfl (by omega) (by decide) (by decide +kernel) dX8_mergeRuns_67 (fun H locs hP hD hS => ?_)
  refine lv_iinc (v := nI 2) (lv' := [(4, .int (nI 2)), (6, .int (nI 1)), (5, .int (nI 2)), (0, .ref (h 105)), (1, .int (nI 0)), (2, .int (nI 2)), (3, .int (nI 4))]) hx hb dX8_mergeRuns_68 hl (k := 1) rfl (by decide +kernel) (by decide) rfl (fun ls hl => ?_)
  refine lv_goto (tgt := 91) hx hb dX8_mergeRuns_71 (by decide) ?_
  refine lv_iinc (v := nI 2) (lv' := [(6, .int (nI 2)), (4, .int (nI 2)), (5, .int (nI 2)), (0, .ref (h 105)), (1, .int (nI 0)), (2, .int (nI 2)), (3, .int (nI 4))]) hx hb dX8_mergeRuns_91 hl (k := 1) rfl (by decide +kernel) (by decide) rfl (fun ls hl => ?_)
  refine lv_goto (tgt := 9) hx hb dX8_mergeRuns_94 (by decide) ?_
  refine lv_iload hx hb dX8_mergeRuns_9 (lv_at hl 0 rfl) ?_
  refine lv_iload_n hx hb dX8_mergeRuns_11 rfl (lv_at hl 6 rfl) ?_
  refine lv_icmp_ge (tgt := 97) hx hb dX8_mergeRuns_12 (by decide) (fun c9 => False.elim (by revert c9; decide +kernel)) (fun _ => ?_)
  refine lv_iload hx hb dX8_mergeRuns_15 (lv_at hl 1 rfl) ?_
  refine lv_iload_n hx hb dX8_mergeRuns_17 rfl (lv_at hl 5 rfl) ?_
  refine lv_icmp_ge (tgt := 74) hx hb dX8_mergeRuns_18 (by decide) (fun _ => ?_) (fun c9 => False.elim (by revert c9; decide +kernel))
  refine lv_aload_n hx hb dX8_mergeRuns_74 rfl (lv_at hl 3 rfl) ?_
  refine va_get (D := (dC, dI)) (ci := 8) (v := .ref (h 172)) (C := RX8) (T := TX8) (N := 6) hx hb hts hinX8 hown hK hP 0 rfl rfl 3 (by decide) (hts (.fieldLink RX8 18 "MixedWords$Words" "spare" "[I") (by decide +kernel)) (fun _ h9 => h9) rfl dX8_mergeRuns_75 ?_
  refine lv_iload hx hb dX8_mergeRuns_78 (lv_at hl 0 rfl) ?_
  refine lv_aload_n hx hb dX8_mergeRuns_80 rfl (lv_at hl 3 rfl) ?_
  refine va_get (D := (dC, dI)) (ci := 8) (v := .ref (h 171)) (C := RX8) (T := TX8) (N := 6) hx hb hts hinX8 hown hK hP 0 rfl rfl 2 (by decide) (hts (.fieldLink RX8 15 "MixedWords$Words" "byOff" "[I") (by decide +kernel)) (fun _ h9 => h9) rfl dX8_mergeRuns_81 ?_
  refine lv_iload hx hb dX8_mergeRuns_84 (lv_at hl 2 rfl) ?_
  refine xa_iald hx hb hK hP 10 0 rfl rfl (by omega) (by decide) dX8_mergeRuns_86 ?_
  refine xt_i (y := nI 2) (by decide +kernel) ?_
  refine xa_iastS hx hb hK hP hD hS 11 0 rfl rfl (by omega) (by decide) (by decide +kernel) dX8_mergeRuns_87 (fun H locs hP hD hS => ?_)
  refine lv_iinc (v := nI 3) (lv' := [(5, .int (nI 3)), (6, .int (nI 2)), (4, .int (nI 2)), (0, .ref (h 105)), (1, .int (nI 0)), (2, .int (nI 2)), (3, .int (nI 4))]) hx hb dX8_mergeRuns_88 hl (k := 2) rfl (by decide +kernel) (by decide) rfl (fun ls hl => ?_)
  refine lv_iinc (v := nI 3) (lv' := [(6, .int (nI 3)), (5, .int (nI 3)), (4, .int (nI 2)), (0, .ref (h 105)), (1, .int (nI 0)), (2, .int (nI 2)), (3, .int (nI 4))]) hx hb dX8_mergeRuns_91 hl (k := 1) rfl (by decide +kernel) (by decide) rfl (fun ls hl => ?_)
  refine lv_goto (tgt := 9) hx hb dX8_mergeRuns_94 (by decide) ?_
  refine lv_iload hx hb dX8_mergeRuns_9 (lv_at hl 0 rfl) ?_
  refine lv_iload_n hx hb dX8_mergeRuns_11 rfl (lv_at hl 6 rfl) ?_
  refine lv_icmp_ge (tgt := 97) hx hb dX8_mergeRuns_12 (by decide) (fun c9 => False.elim (by revert c9; decide +kernel)) (fun _ => ?_)
  refine lv_iload hx hb dX8_mergeRuns_15 (lv_at hl 2 rfl) ?_
  refine lv_iload_n hx hb dX8_mergeRuns_17 rfl (lv_at hl 5 rfl) ?_
  refine lv_icmp_ge (tgt := 74) hx hb dX8_mergeRuns_18 (by decide) (fun _ => ?_) (fun c9 => False.elim (by revert c9; decide +kernel))
  refine lv_aload_n hx hb dX8_mergeRuns_74 rfl (lv_at hl 3 rfl) ?_
  refine va_get (D := (dC, dI)) (ci := 8) (v := .ref (h 172)) (C := RX8) (T := TX8) (N := 6) hx hb hts hinX8 hown hK hP 0 rfl rfl 3 (by decide) (hts (.fieldLink RX8 18 "MixedWords$Words" "spare" "[I") (by decide +kernel)) (fun _ h9 => h9) rfl dX8_mergeRuns_75 ?_
  refine lv_iload hx hb dX8_mergeRuns_78 (lv_at hl 0 rfl) ?_
  refine lv_aload_n hx hb dX8_mergeRuns_80 rfl (lv_at hl 3 rfl) ?_
  refine va_get (D := (dC, dI)) (ci := 8) (v := .ref (h 171)) (C := RX8) (T := TX8) (N := 6) hx hb hts hinX8 hown hK hP 0 rfl rfl 2 (by decide) (hts (.fieldLink RX8 15 "MixedWords$Words" "byOff" "[I") (by decide +kernel)) (fun _ h9 => h9) rfl dX8_mergeRuns_81 ?_
  refine lv_iload hx hb dX8_mergeRuns_84 (lv_at hl 1 rfl) ?_
  refine xa_iald hx hb hK hP 10 0 rfl rfl (by omega) (by decide) dX8_mergeRuns_86 ?_
  refine xt_i (y := nI 3) (by decide +kernel) ?_
  refine xa_iastS hx hb hK hP hD hS 11 0 rfl rfl (by omega) (by decide) (by decide +kernel) dX8_mergeRuns_87 (fun H locs hP hD hS => ?_)
  refine lv_iinc (v := nI 4) (lv' := [(5, .int (nI 4)), (6, .int (nI 3)), (4, .int (nI 2)), (0, .ref (h 105)), (1, .int (nI 0)), (2, .int (nI 2)), (3, .int (nI 4))]) hx hb dX8_mergeRuns_88 hl (k := 1) rfl (by decide +kernel) (by decide) rfl (fun ls hl => ?_)
  refine lv_iinc (v := nI 4) (lv' := [(6, .int (nI 4)), (5, .int (nI 4)), (4, .int (nI 2)), (0, .ref (h 105)), (1, .int (nI 0)), (2, .int (nI 2)), (3, .int (nI 4))]) hx hb dX8_mergeRuns_91 hl (k := 1) rfl (by decide +kernel) (by decide) rfl (fun ls hl => ?_)
  refine lv_goto (tgt := 9) hx hb dX8_mergeRuns_94 (by decide) ?_
  refine lv_iload hx hb dX8_mergeRuns_9 (lv_at hl 0 rfl) ?_
  refine lv_iload_n hx hb dX8_mergeRuns_11 rfl (lv_at hl 6 rfl) ?_
  refine lv_icmp_ge (tgt := 97) hx hb dX8_mergeRuns_12 (by decide) (fun _ => ?_) (fun c9 => False.elim (by revert c9; decide +kernel))
  exact xr_v hx hb hr hlocks hK hS dX8_mergeRuns_97 (qI_75, fL, qA_83, fQ, fG, fJ) ⟨trivial, rfl⟩ hP hD
def qI_85 : Nat → Int32 := (va_up qI_75 174 (nI 1))
set_option maxRecDepth 20000 in
theorem ggX8_sortByOff_X3_wordCount : GoodIn wsX8_sortByOff wsX3_wordCount := goodIn_r _ [18, 19, 20, 21, 22, 17, 23, 24, 37, 38, 39, 40, 41, 42] (by decide +kernel) (by decide +kernel)
set_option maxRecDepth 20000 in
theorem gX8_sortByOff_X3_wordCount : GoodIn wsX8_sortByOff (wsV RX8 62 RX3 yX3_wordCount wsX3_wordCount) := goodIn_app (goodIn_of _ (by decide +kernel)) ggX8_sortByOff_X3_wordCount
set_option maxRecDepth 20000 in
theorem ggX8_sortByOff_X8_mergeRuns : GoodIn wsX8_sortByOff wsX8_mergeRuns := goodIn_r _ [29, 30, 4, 9, 31, 32, 33, 34, 35, 36] (by decide +kernel) (by decide +kernel)
set_option maxRecDepth 20000 in
theorem gX8_sortByOff_X8_mergeRuns : GoodIn wsX8_sortByOff (wsV RX8 84 RX8 yX8_mergeRuns wsX8_mergeRuns) := goodIn_app (goodIn_of _ (by decide +kernel)) ggX8_sortByOff_X8_mergeRuns
theorem dX8_sortByOff_0 : decode cX8_sortByOff 0 = .ok (.aload_n 0, 1) := by decide +kernel
theorem dX8_sortByOff_1 : decode cX8_sortByOff 1 = .ok (.getfield 25, 3) := by decide +kernel
theorem dX8_sortByOff_4 : decode cX8_sortByOff 4 = .ok (.aload_n 0, 1) := by decide +kernel
theorem dX8_sortByOff_5 : decode cX8_sortByOff 5 = .ok (.getfield 28, 3) := by decide +kernel
theorem dX8_sortByOff_8 : decode cX8_sortByOff 8 = .ok (.getfield 77, 3) := by decide +kernel
theorem dX8_sortByOff_11 : decode cX8_sortByOff 11 = .ok (.if_icmp .ne 4, 3) := by decide +kernel
theorem dX8_sortByOff_14 : decode cX8_sortByOff 14 = .ok (.return_, 1) := by decide +kernel
theorem dX8_sortByOff_15 : decode cX8_sortByOff 15 = .ok (.aload_n 0, 1) := by decide +kernel
theorem dX8_sortByOff_16 : decode cX8_sortByOff 16 = .ok (.getfield 28, 3) := by decide +kernel
theorem dX8_sortByOff_19 : decode cX8_sortByOff 19 = .ok (.invokevirtual 62, 3) := by decide +kernel
theorem dX8_sortByOff_22 : decode cX8_sortByOff 22 = .ok (.istore_n 1, 1) := by decide +kernel
theorem dX8_sortByOff_23 : decode cX8_sortByOff 23 = .ok (.iconst 0, 1) := by decide +kernel
theorem dX8_sortByOff_24 : decode cX8_sortByOff 24 = .ok (.istore_n 2, 1) := by decide +kernel
theorem dX8_sortByOff_25 : decode cX8_sortByOff 25 = .ok (.iload_n 2, 1) := by decide +kernel
theorem dX8_sortByOff_26 : decode cX8_sortByOff 26 = .ok (.iload_n 1, 1) := by decide +kernel
theorem dX8_sortByOff_27 : decode cX8_sortByOff 27 = .ok (.if_icmp .ge 16, 3) := by decide +kernel
theorem dX8_sortByOff_30 : decode cX8_sortByOff 30 = .ok (.aload_n 0, 1) := by decide +kernel
theorem dX8_sortByOff_31 : decode cX8_sortByOff 31 = .ok (.getfield 15, 3) := by decide +kernel
theorem dX8_sortByOff_34 : decode cX8_sortByOff 34 = .ok (.iload_n 2, 1) := by decide +kernel
theorem dX8_sortByOff_35 : decode cX8_sortByOff 35 = .ok (.iload_n 2, 1) := by decide +kernel
theorem dX8_sortByOff_36 : decode cX8_sortByOff 36 = .ok (.iastore, 1) := by decide +kernel
theorem dX8_sortByOff_37 : decode cX8_sortByOff 37 = .ok (.iinc 2 1, 3) := by decide +kernel
theorem dX8_sortByOff_40 : decode cX8_sortByOff 40 = .ok (.goto (-15), 3) := by decide +kernel
theorem dX8_sortByOff_43 : decode cX8_sortByOff 43 = .ok (.iconst 1, 1) := by decide +kernel
theorem dX8_sortByOff_44 : decode cX8_sortByOff 44 = .ok (.istore_n 2, 1) := by decide +kernel
theorem dX8_sortByOff_45 : decode cX8_sortByOff 45 = .ok (.iload_n 2, 1) := by decide +kernel
theorem dX8_sortByOff_46 : decode cX8_sortByOff 46 = .ok (.iload_n 1, 1) := by decide +kernel
theorem dX8_sortByOff_47 : decode cX8_sortByOff 47 = .ok (.if_icmp .ge 61, 3) := by decide +kernel
theorem dX8_sortByOff_50 : decode cX8_sortByOff 50 = .ok (.iconst 0, 1) := by decide +kernel
theorem dX8_sortByOff_51 : decode cX8_sortByOff 51 = .ok (.istore_n 3, 1) := by decide +kernel
theorem dX8_sortByOff_52 : decode cX8_sortByOff 52 = .ok (.iload_n 3, 1) := by decide +kernel
theorem dX8_sortByOff_53 : decode cX8_sortByOff 53 = .ok (.iload_n 1, 1) := by decide +kernel
theorem dX8_sortByOff_54 : decode cX8_sortByOff 54 = .ok (.if_icmp .ge 33, 3) := by decide +kernel
theorem dX8_sortByOff_57 : decode cX8_sortByOff 57 = .ok (.aload_n 0, 1) := by decide +kernel
theorem dX8_sortByOff_58 : decode cX8_sortByOff 58 = .ok (.iload_n 3, 1) := by decide +kernel
theorem dX8_sortByOff_59 : decode cX8_sortByOff 59 = .ok (.iload_n 3, 1) := by decide +kernel
theorem dX8_sortByOff_60 : decode cX8_sortByOff 60 = .ok (.iload_n 2, 1) := by decide +kernel
theorem dX8_sortByOff_61 : decode cX8_sortByOff 61 = .ok (.iadd, 1) := by decide +kernel
theorem dX8_sortByOff_62 : decode cX8_sortByOff 62 = .ok (.iload_n 1, 1) := by decide +kernel
theorem dX8_sortByOff_63 : decode cX8_sortByOff 63 = .ok (.invokestatic 69, 3) := by decide +kernel
theorem dX8_sortByOff_66 : decode cX8_sortByOff 66 = .ok (.iload_n 3, 1) := by decide +kernel
theorem dX8_sortByOff_67 : decode cX8_sortByOff 67 = .ok (.iconst 2, 1) := by decide +kernel
theorem dX8_sortByOff_68 : decode cX8_sortByOff 68 = .ok (.iload_n 2, 1) := by decide +kernel
theorem dX8_sortByOff_69 : decode cX8_sortByOff 69 = .ok (.imul, 1) := by decide +kernel
theorem dX8_sortByOff_70 : decode cX8_sortByOff 70 = .ok (.iadd, 1) := by decide +kernel
theorem dX8_sortByOff_71 : decode cX8_sortByOff 71 = .ok (.iload_n 1, 1) := by decide +kernel
theorem dX8_sortByOff_72 : decode cX8_sortByOff 72 = .ok (.invokestatic 69, 3) := by decide +kernel
theorem dX8_sortByOff_75 : decode cX8_sortByOff 75 = .ok (.invokevirtual 84, 3) := by decide +kernel
theorem dX8_sortByOff_78 : decode cX8_sortByOff 78 = .ok (.iload_n 3, 1) := by decide +kernel
theorem dX8_sortByOff_79 : decode cX8_sortByOff 79 = .ok (.iconst 2, 1) := by decide +kernel
theorem dX8_sortByOff_80 : decode cX8_sortByOff 80 = .ok (.iload_n 2, 1) := by decide +kernel
theorem dX8_sortByOff_81 : decode cX8_sortByOff 81 = .ok (.imul, 1) := by decide +kernel
theorem dX8_sortByOff_82 : decode cX8_sortByOff 82 = .ok (.iadd, 1) := by decide +kernel
theorem dX8_sortByOff_83 : decode cX8_sortByOff 83 = .ok (.istore_n 3, 1) := by decide +kernel
theorem dX8_sortByOff_84 : decode cX8_sortByOff 84 = .ok (.goto (-32), 3) := by decide +kernel
theorem dX8_sortByOff_87 : decode cX8_sortByOff 87 = .ok (.aload_n 0, 1) := by decide +kernel
theorem dX8_sortByOff_88 : decode cX8_sortByOff 88 = .ok (.getfield 18, 3) := by decide +kernel
theorem dX8_sortByOff_91 : decode cX8_sortByOff 91 = .ok (.iconst 0, 1) := by decide +kernel
theorem dX8_sortByOff_92 : decode cX8_sortByOff 92 = .ok (.aload_n 0, 1) := by decide +kernel
theorem dX8_sortByOff_93 : decode cX8_sortByOff 93 = .ok (.getfield 15, 3) := by decide +kernel
theorem dX8_sortByOff_96 : decode cX8_sortByOff 96 = .ok (.iconst 0, 1) := by decide +kernel
theorem dX8_sortByOff_97 : decode cX8_sortByOff 97 = .ok (.iload_n 1, 1) := by decide +kernel
theorem dX8_sortByOff_98 : decode cX8_sortByOff 98 = .ok (.invokestatic 88, 3) := by decide +kernel
theorem dX8_sortByOff_101 : decode cX8_sortByOff 101 = .ok (.iload_n 2, 1) := by decide +kernel
theorem dX8_sortByOff_102 : decode cX8_sortByOff 102 = .ok (.iconst 2, 1) := by decide +kernel
theorem dX8_sortByOff_103 : decode cX8_sortByOff 103 = .ok (.imul, 1) := by decide +kernel
theorem dX8_sortByOff_104 : decode cX8_sortByOff 104 = .ok (.istore_n 2, 1) := by decide +kernel
theorem dX8_sortByOff_105 : decode cX8_sortByOff 105 = .ok (.goto (-60), 3) := by decide +kernel
theorem dX8_sortByOff_108 : decode cX8_sortByOff 108 = .ok (.aload_n 0, 1) := by decide +kernel
theorem dX8_sortByOff_109 : decode cX8_sortByOff 109 = .ok (.aload_n 0, 1) := by decide +kernel
theorem dX8_sortByOff_110 : decode cX8_sortByOff 110 = .ok (.getfield 28, 3) := by decide +kernel
theorem dX8_sortByOff_113 : decode cX8_sortByOff 113 = .ok (.getfield 77, 3) := by decide +kernel
theorem dX8_sortByOff_116 : decode cX8_sortByOff 116 = .ok (.putfield 25, 3) := by decide +kernel
theorem dX8_sortByOff_119 : decode cX8_sortByOff 119 = .ok (.return_, 1) := by decide +kernel
set_option maxHeartbeats 4000000 in
set_option maxRecDepth 100000 in
theorem a_X8_sortByOff_76 (l : Launch) (dC : Nat → ClassId) (dI : Nat → Nat → Nat) (h : Nat → Nat) (cs : Nat → ClassId) (sz : Nat) (I : Nat → Int32) (L : Nat → Int64) (A : Nat → Nat → Int32) (Q : Nat → Nat → Int64) (G : Nat → Nat → Nat → Int32) (J : Nat → Nat → Nat → Int64) : Met l yX8_sortByOff wsX8_sortByOff ({ frames := 2, cells := 0, slots := 0, locals := 60 }) (va_Pc [.ref (h 105)] (xPre (dC, dI) (wD_60 h cs qI_75 fL fA fQ fG fJ) (tysA cs) sz)) (va_Qv (fun (u : CS) => (True) ∧ u = (qI_85, fL, qA_83, fQ, fG, fJ)) (xB (dC, dI) (tysA cs) (va_A (wD_60 h cs qI_75 fL fA fQ fG fJ) sz) (fun u : CS => wD_60 h cs u.1 u.2.1 u.2.2.1 u.2.2.2.1 u.2.2.2.2.1 u.2.2.2.2.2)) (va_A (wD_60 h cs qI_75 fL fA fQ fG fJ) sz)) 0 0 (va_A (wD_60 h cs qI_75 fL fA fQ fG fJ) sz) := by
  refine Met.ofW (cc := cX8_sortByOff) (maxL := 4) (ret := none) (by decide) rfl ?_
  intro p e s m args below meth c s₁ B hml hv
  obtain ⟨rfl, hsz, hP, hK, hD0, hN⟩ := hv
  have hx := B.exec
  have hb := B.bytes
  have hr := B.returns
  have hts := atoms_spec (ws := wsX8_sortByOff) B.pre
  have hown : s.vm.findClass RX8 = some m.cls := findClass_of_methodNamed B.named
  have hlocks := B.notSynchronized
  subst hsz
  have hD := hD0.self (sz := s.heap.size)
  generalize hAe : va_A (wD_60 h cs qI_75 fL fA fQ fG fJ) s.heap.size = A0 at hD ⊢
  have hA : ∀ q : Nat, s.heap.size ≤ q → A0 q := fun q h => by rw [← hAe]; exact Or.inr h
  have hl := lv_entry ([.ref (h 105)]) (n := 4) (Nat.le_of_ble_eq_true rfl)
  rw [lg_entry_eq]
  generalize (lg_sl ([.ref (h 105)]) ++ List.replicate (4 - (lg_sl ([.ref (h 105)])).length) Slot.unset).toArray = ls at hl ⊢
  have hl : lv_has ls 4 [(0, .ref (h 105))] := hl
  generalize hH : s.heap = H at hP ⊢
  have hS : va_S A0 s.heap H [] := by rw [← hH]; exact va_S.rf
  have hinX8 : ∀ w ∈ wsX80, w ∈ wsX8_sortByOff := by decide +kernel
  have hinX3 : ∀ w ∈ wsX30, w ∈ wsX8_sortByOff := by decide +kernel
  refine lv_aload_n hx hb dX8_sortByOff_0 rfl (lv_at hl 0 rfl) ?_
  refine va_get (D := (dC, dI)) (ci := 8) (v := .int (qI_75 174)) (C := RX8) (T := TX8) (N := 6) hx hb hts hinX8 hown hK hP 0 rfl rfl 5 (by decide) (hts (.fieldLink RX8 25 "MixedWords$Words" "byOffStamp" "I") (by decide +kernel)) (fun _ h9 => h9) rfl dX8_sortByOff_1 ?_
  refine xt_i (y := nI 0) (by decide +kernel) ?_
  refine lv_aload_n hx hb dX8_sortByOff_4 rfl (lv_at hl 0 rfl) ?_
  refine va_get (D := (dC, dI)) (ci := 8) (v := .ref (h 101)) (C := RX8) (T := TX8) (N := 6) hx hb hts hinX8 hown hK hP 0 rfl rfl 0 (by decide) (hts (.fieldLink RX8 28 "MixedWords$Words" "mix" "LMixedWords$Mix;") (by decide +kernel)) (fun _ h9 => h9) rfl dX8_sortByOff_5 ?_
  refine va_get (D := (dC, dI)) (ci := 3) (v := .int (qI_75 123)) (C := RX3) (T := TX3) (N := 6) hx hb hts hinX3 hown hK hP 1 rfl rfl 3 (by decide) (hts (.fieldLink RX8 77 "MixedWords$Mix" "stamp" "I") (by decide +kernel)) (fun _ h9 => h9) rfl dX8_sortByOff_8 ?_
  refine xt_i (y := nI 1) (by decide +kernel) ?_
  refine lv_icmp_ne (tgt := 15) hx hb dX8_sortByOff_11 (by decide) (fun _ => ?_) (fun c9 => False.elim (by revert c9; decide +kernel))
  refine lv_aload_n hx hb dX8_sortByOff_15 rfl (lv_at hl 0 rfl) ?_
  refine va_get (D := (dC, dI)) (ci := 8) (v := .ref (h 101)) (C := RX8) (T := TX8) (N := 6) hx hb hts hinX8 hown hK hP 0 rfl rfl 0 (by decide) (hts (.fieldLink RX8 28 "MixedWords$Words" "mix" "LMixedWords$Mix;") (by decide +kernel)) (fun _ h9 => h9) rfl dX8_sortByOff_16 ?_
  refine xj_i (wc := (wD_32 h cs qI_75 fL fA fQ fG fJ)) (wr := [(h 105, .inr (8, [.ref (h 101), .ref (h 170), .ref (h 171), .ref (h 172), .int (qI_75 173), .int (qI_75 174)])), (h 170, .inl (cs 0, 256, .inl (fA 170))), (h 171, .inl (cs 0, 256, .inl (fA 171))), (h 172, .inl (cs 0, 256, .inl (fA 172)))]) hP hD hS hA [1, 2, 3, 4, 5, 6, 7, 8] [0, 9, 10, 11] rfl rfl (by decide) (by decide) (va_runV (As := []) (rest := []) ⟨hx, hb, hml, hown, hts⟩ (a_X3_wordCount_77 l dC dI h cs H.size qI_75 fL fA fQ fG fJ ) (cwV 0 hts gX8_sortByOff_X3_wordCount rfl rfl rfl (by decide +kernel) ⟨Nat.le_of_ble_eq_true rfl, Nat.le_of_ble_eq_true rfl⟩) (xpV (wc := (wD_32 h cs qI_75 fL fA fQ fG fJ)) hP hD hK hN [1, 2, 3, 4, 5, 6, 7, 8] rfl (by decide) 1 (ci := 3) rfl rfl _) rfl rfl hl.1 rfl (lv_room (Nat.le_of_ble_eq_true rfl)) dX8_sortByOff_19 ⟨Nat.zero_le _, Nat.zero_le _⟩) (fun r_2 u_1 H locs hw hP hD hS => ?_)
  obtain ⟨hf_3, rfl⟩ := hw
  have hP : va_P (dC, dI) vwCl (wD_60 h cs qI_75 fL fA fQ fG fJ) H := xP_sub hP [0, 4, 5, 6, 7, 8, 9, 10, 11, 1, 2, 3] rfl
  have hD : va_D A0 (wD_60 h cs qI_75 fL fA fQ fG fJ) := hD.sub [0, 4, 5, 6, 7, 8, 9, 10, 11, 1, 2, 3] (by decide) rfl
  obtain rfl := hf_3
  refine lv_istore_n (lv' := [(1, .int (nI 4)), (0, .ref (h 105))]) hx hb dX8_sortByOff_22 rfl hl (by decide) rfl (fun ls hl => ?_)
  refine lv_iconst (v := nI 0) hx hb dX8_sortByOff_23 (by decide) ?_
  refine lv_istore_n (lv' := [(2, .int (nI 0)), (1, .int (nI 4)), (0, .ref (h 105))]) hx hb dX8_sortByOff_24 rfl hl (by decide) rfl (fun ls hl => ?_)
  refine lv_iload_n hx hb dX8_sortByOff_25 rfl (lv_at hl 0 rfl) ?_
  refine lv_iload_n hx hb dX8_sortByOff_26 rfl (lv_at hl 1 rfl) ?_
  refine lv_icmp_ge (tgt := 43) hx hb dX8_sortByOff_27 (by decide) (fun c9 => False.elim (by revert c9; decide +kernel)) (fun _ => ?_)
  refine lv_aload_n hx hb dX8_sortByOff_30 rfl (lv_at hl 2 rfl) ?_
  refine va_get (D := (dC, dI)) (ci := 8) (v := .ref (h 171)) (C := RX8) (T := TX8) (N := 6) hx hb hts hinX8 hown hK hP 0 rfl rfl 2 (by decide) (hts (.fieldLink RX8 15 "MixedWords$Words" "byOff" "[I") (by decide +kernel)) (fun _ h9 => h9) rfl dX8_sortByOff_31 ?_
  refine lv_iload_n hx hb dX8_sortByOff_34 rfl (lv_at hl 0 rfl) ?_
  refine lv_iload_n hx hb dX8_sortByOff_35 rfl (lv_at hl 0 rfl) ?_
  refine xa_iastS hx hb hK hP hD hS 10 0 rfl rfl (by omega) (by decide) (by decide +kernel) dX8_sortByOff_36 (fun H locs hP hD hS => ?_)
  refine lv_iinc (v := nI 1) (lv' := [(2, .int (nI 1)), (1, .int (nI 4)), (0, .ref (h 105))]) hx hb dX8_sortByOff_37 hl (k := 0) rfl (by decide +kernel) (by decide) rfl (fun ls hl => ?_)
  refine lv_goto (tgt := 25) hx hb dX8_sortByOff_40 (by decide) ?_
  refine lv_iload_n hx hb dX8_sortByOff_25 rfl (lv_at hl 0 rfl) ?_
  refine lv_iload_n hx hb dX8_sortByOff_26 rfl (lv_at hl 1 rfl) ?_
  refine lv_icmp_ge (tgt := 43) hx hb dX8_sortByOff_27 (by decide) (fun c9 => False.elim (by revert c9; decide +kernel)) (fun _ => ?_)
  refine lv_aload_n hx hb dX8_sortByOff_30 rfl (lv_at hl 2 rfl) ?_
  refine va_get (D := (dC, dI)) (ci := 8) (v := .ref (h 171)) (C := RX8) (T := TX8) (N := 6) hx hb hts hinX8 hown hK hP 0 rfl rfl 2 (by decide) (hts (.fieldLink RX8 15 "MixedWords$Words" "byOff" "[I") (by decide +kernel)) (fun _ h9 => h9) rfl dX8_sortByOff_31 ?_
  refine lv_iload_n hx hb dX8_sortByOff_34 rfl (lv_at hl 0 rfl) ?_
  refine lv_iload_n hx hb dX8_sortByOff_35 rfl (lv_at hl 0 rfl) ?_
  refine xa_iast hx hb hK hP hD hS 10 0 rfl rfl (by omega) (by decide) dX8_sortByOff_36 (fun H locs hP hD hS => ?_)
  have hP : va_P (dC, dI) vwCl (wD_60 h cs qI_75 fL (va_up fA 171 (upd (fA 171) 1 (nI 1))) fQ fG fJ) H := hP
  have hD : va_D A0 (wD_60 h cs qI_75 fL (va_up fA 171 (upd (fA 171) 1 (nI 1))) fQ fG fJ) := hD
  refine lv_iinc (v := nI 2) (lv' := [(2, .int (nI 2)), (1, .int (nI 4)), (0, .ref (h 105))]) hx hb dX8_sortByOff_37 hl (k := 0) rfl (by decide +kernel) (by decide) rfl (fun ls hl => ?_)
  refine lv_goto (tgt := 25) hx hb dX8_sortByOff_40 (by decide) ?_
  refine lv_iload_n hx hb dX8_sortByOff_25 rfl (lv_at hl 0 rfl) ?_
  refine lv_iload_n hx hb dX8_sortByOff_26 rfl (lv_at hl 1 rfl) ?_
  refine lv_icmp_ge (tgt := 43) hx hb dX8_sortByOff_27 (by decide) (fun c9 => False.elim (by revert c9; decide +kernel)) (fun _ => ?_)
  refine lv_aload_n hx hb dX8_sortByOff_30 rfl (lv_at hl 2 rfl) ?_
  refine va_get (D := (dC, dI)) (ci := 8) (v := .ref (h 171)) (C := RX8) (T := TX8) (N := 6) hx hb hts hinX8 hown hK hP 0 rfl rfl 2 (by decide) (hts (.fieldLink RX8 15 "MixedWords$Words" "byOff" "[I") (by decide +kernel)) (fun _ h9 => h9) rfl dX8_sortByOff_31 ?_
  refine lv_iload_n hx hb dX8_sortByOff_34 rfl (lv_at hl 0 rfl) ?_
  refine lv_iload_n hx hb dX8_sortByOff_35 rfl (lv_at hl 0 rfl) ?_
  refine xa_iast hx hb hK hP hD hS 10 0 rfl rfl (by omega) (by decide) dX8_sortByOff_36 (fun H locs hP hD hS => ?_)
  have hP : va_P (dC, dI) vwCl (wD_60 h cs qI_75 fL (va_up fA 171 (upd (upd (fA 171) 1 (nI 1)) 2 (nI 2))) fQ fG fJ) H := hP
  have hD : va_D A0 (wD_60 h cs qI_75 fL (va_up fA 171 (upd (upd (fA 171) 1 (nI 1)) 2 (nI 2))) fQ fG fJ) := hD
  refine lv_iinc (v := nI 3) (lv' := [(2, .int (nI 3)), (1, .int (nI 4)), (0, .ref (h 105))]) hx hb dX8_sortByOff_37 hl (k := 0) rfl (by decide +kernel) (by decide) rfl (fun ls hl => ?_)
  refine lv_goto (tgt := 25) hx hb dX8_sortByOff_40 (by decide) ?_
  refine lv_iload_n hx hb dX8_sortByOff_25 rfl (lv_at hl 0 rfl) ?_
  refine lv_iload_n hx hb dX8_sortByOff_26 rfl (lv_at hl 1 rfl) ?_
  refine lv_icmp_ge (tgt := 43) hx hb dX8_sortByOff_27 (by decide) (fun c9 => False.elim (by revert c9; decide +kernel)) (fun _ => ?_)
  refine lv_aload_n hx hb dX8_sortByOff_30 rfl (lv_at hl 2 rfl) ?_
  refine va_get (D := (dC, dI)) (ci := 8) (v := .ref (h 171)) (C := RX8) (T := TX8) (N := 6) hx hb hts hinX8 hown hK hP 0 rfl rfl 2 (by decide) (hts (.fieldLink RX8 15 "MixedWords$Words" "byOff" "[I") (by decide +kernel)) (fun _ h9 => h9) rfl dX8_sortByOff_31 ?_
  refine lv_iload_n hx hb dX8_sortByOff_34 rfl (lv_at hl 0 rfl) ?_
  refine lv_iload_n hx hb dX8_sortByOff_35 rfl (lv_at hl 0 rfl) ?_
  refine xa_iast hx hb hK hP hD hS 10 0 rfl rfl (by omega) (by decide) dX8_sortByOff_36 (fun H locs hP hD hS => ?_)
  have hP : va_P (dC, dI) vwCl (wD_60 h cs qI_75 fL (va_up fA 171 (upd (upd (upd (fA 171) 1 (nI 1)) 2 (nI 2)) 3 (nI 3))) fQ fG fJ) H := hP
  have hD : va_D A0 (wD_60 h cs qI_75 fL (va_up fA 171 (upd (upd (upd (fA 171) 1 (nI 1)) 2 (nI 2)) 3 (nI 3))) fQ fG fJ) := hD
  refine lv_iinc (v := nI 4) (lv' := [(2, .int (nI 4)), (1, .int (nI 4)), (0, .ref (h 105))]) hx hb dX8_sortByOff_37 hl (k := 0) rfl (by decide +kernel) (by decide) rfl (fun ls hl => ?_)
  refine lv_goto (tgt := 25) hx hb dX8_sortByOff_40 (by decide) ?_
  refine lv_iload_n hx hb dX8_sortByOff_25 rfl (lv_at hl 0 rfl) ?_
  refine lv_iload_n hx hb dX8_sortByOff_26 rfl (lv_at hl 1 rfl) ?_
  refine lv_icmp_ge (tgt := 43) hx hb dX8_sortByOff_27 (by decide) (fun _ => ?_) (fun c9 => False.elim (by revert c9; decide +kernel))
  refine lv_iconst (v := nI 1) hx hb dX8_sortByOff_43 (by decide) ?_
  refine lv_istore_n (lv' := [(2, .int (nI 1)), (1, .int (nI 4)), (0, .ref (h 105))]) hx hb dX8_sortByOff_44 rfl hl (by decide) rfl (fun ls hl => ?_)
  refine lv_iload_n hx hb dX8_sortByOff_45 rfl (lv_at hl 0 rfl) ?_
  refine lv_iload_n hx hb dX8_sortByOff_46 rfl (lv_at hl 1 rfl) ?_
  refine lv_icmp_ge (tgt := 108) hx hb dX8_sortByOff_47 (by decide) (fun c9 => False.elim (by revert c9; decide +kernel)) (fun _ => ?_)
  refine lv_iconst (v := nI 0) hx hb dX8_sortByOff_50 (by decide) ?_
  refine lv_istore_n (lv' := [(3, .int (nI 0)), (2, .int (nI 1)), (1, .int (nI 4)), (0, .ref (h 105))]) hx hb dX8_sortByOff_51 rfl hl (by decide) rfl (fun ls hl => ?_)
  refine lv_iload_n hx hb dX8_sortByOff_52 rfl (lv_at hl 0 rfl) ?_
  refine lv_iload_n hx hb dX8_sortByOff_53 rfl (lv_at hl 2 rfl) ?_
  refine lv_icmp_ge (tgt := 87) hx hb dX8_sortByOff_54 (by decide) (fun c9 => False.elim (by revert c9; decide +kernel)) (fun _ => ?_)
  refine lv_aload_n hx hb dX8_sortByOff_57 rfl (lv_at hl 3 rfl) ?_
  refine lv_iload_n hx hb dX8_sortByOff_58 rfl (lv_at hl 0 rfl) ?_
  refine lv_iload_n hx hb dX8_sortByOff_59 rfl (lv_at hl 0 rfl) ?_
  refine lv_iload_n hx hb dX8_sortByOff_60 rfl (lv_at hl 1 rfl) ?_
  refine lv_iadd hx hb dX8_sortByOff_61 ?_
  refine xt_i (y := nI 1) (by decide +kernel) ?_
  refine lv_iload_n hx hb dX8_sortByOff_62 rfl (lv_at hl 2 rfl) ?_
  refine va_mmin hx hb (hml.trans hl.1.symm) hown (hts (.methodLink RX8 69 Lib.Math.min.name) (by decide +kernel)) (hts (.static Lib.Math.min.name) (by decide +kernel)) (hts (.initialized "java/lang/Math") (by decide +kernel)) (hts (.code Lib.Math.min.name Lib.Math.min.code 2 (some .int)) (by decide +kernel)) (Nat.le_of_ble_eq_true rfl) (Nat.le_of_ble_eq_true rfl) (Nat.zero_le _) (Nat.zero_le _) dX8_sortByOff_63 ?_
  refine xt_i (y := nI (min 1 4)) (min_nI (by omega) (by omega)) ?_
  refine xt_i (y := nI 1) (by decide +kernel) ?_
  refine lv_iload_n hx hb dX8_sortByOff_66 rfl (lv_at hl 0 rfl) ?_
  refine lv_iconst (v := nI 2) hx hb dX8_sortByOff_67 (by decide) ?_
  refine lv_iload_n hx hb dX8_sortByOff_68 rfl (lv_at hl 1 rfl) ?_
  refine lv_imul hx hb dX8_sortByOff_69 ?_
  refine xt_i (y := nI 2) (by decide +kernel) ?_
  refine lv_iadd hx hb dX8_sortByOff_70 ?_
  refine xt_i (y := nI 2) (by decide +kernel) ?_
  refine lv_iload_n hx hb dX8_sortByOff_71 rfl (lv_at hl 2 rfl) ?_
  refine va_mmin hx hb (hml.trans hl.1.symm) hown (hts (.methodLink RX8 69 Lib.Math.min.name) (by decide +kernel)) (hts (.static Lib.Math.min.name) (by decide +kernel)) (hts (.initialized "java/lang/Math") (by decide +kernel)) (hts (.code Lib.Math.min.name Lib.Math.min.code 2 (some .int)) (by decide +kernel)) (Nat.le_of_ble_eq_true rfl) (Nat.le_of_ble_eq_true rfl) (Nat.zero_le _) (Nat.zero_le _) dX8_sortByOff_72 ?_
  refine xt_i (y := nI (min 2 4)) (min_nI (by omega) (by omega)) ?_
  refine xt_i (y := nI 2) (by decide +kernel) ?_
  have hP : va_P (dC, dI) vwCl (wD_60 h cs qI_75 fL qA_79 fQ fG fJ) H := hP
  have hD : va_D A0 (wD_60 h cs qI_75 fL qA_79 fQ fG fJ) := hD
  refine xj_v (wc := (wD_60 h cs qI_75 fL qA_79 fQ fG fJ)) (wr := ([] : va_W)) hP hD hS hA [0, 1, 2, 3, 4, 5, 6, 7, 8, 9, 10, 11] [] rfl rfl (by decide) (by decide) (va_runV (As := [.int (nI 0), .int (nI 1), .int (nI 2)]) (rest := []) ⟨hx, hb, hml, hown, hts⟩ (a_X8_mergeRuns_80 l dC dI h cs H.size qI_75 fL qA_79 fQ fG fJ ) (cwV 3 hts gX8_sortByOff_X8_mergeRuns rfl rfl rfl (by decide +kernel) ⟨Nat.le_of_ble_eq_true rfl, Nat.le_of_ble_eq_true rfl⟩) (xpV (wc := (wD_60 h cs qI_75 fL qA_79 fQ fG fJ)) hP hD hK hN [0, 1, 2, 3, 4, 5, 6, 7, 8, 9, 10, 11] rfl (by decide) 0 (ci := 8) rfl rfl _) rfl rfl hl.1 rfl (lv_room (Nat.le_of_ble_eq_true rfl)) dX8_sortByOff_75 ⟨Nat.zero_le _, Nat.zero_le _⟩) (fun u_4 H locs hw hP hD hS => ?_)
  obtain ⟨hf_6, rfl⟩ := hw
  have hP : va_P (dC, dI) vwCl (wD_60 h cs qI_75 fL qA_81 fQ fG fJ) H := hP
  have hD : va_D A0 (wD_60 h cs qI_75 fL qA_81 fQ fG fJ) := hD
  refine lv_iload_n hx hb dX8_sortByOff_78 rfl (lv_at hl 0 rfl) ?_
  refine lv_iconst (v := nI 2) hx hb dX8_sortByOff_79 (by decide) ?_
  refine lv_iload_n hx hb dX8_sortByOff_80 rfl (lv_at hl 1 rfl) ?_
  refine lv_imul hx hb dX8_sortByOff_81 ?_
  refine xt_i (y := nI 2) (by decide +kernel) ?_
  refine lv_iadd hx hb dX8_sortByOff_82 ?_
  refine xt_i (y := nI 2) (by decide +kernel) ?_
  refine lv_istore_n (lv' := [(3, .int (nI 2)), (2, .int (nI 1)), (1, .int (nI 4)), (0, .ref (h 105))]) hx hb dX8_sortByOff_83 rfl hl (by decide) rfl (fun ls hl => ?_)
  refine lv_goto (tgt := 52) hx hb dX8_sortByOff_84 (by decide) ?_
  refine lv_iload_n hx hb dX8_sortByOff_52 rfl (lv_at hl 0 rfl) ?_
  refine lv_iload_n hx hb dX8_sortByOff_53 rfl (lv_at hl 2 rfl) ?_
  refine lv_icmp_ge (tgt := 87) hx hb dX8_sortByOff_54 (by decide) (fun c9 => False.elim (by revert c9; decide +kernel)) (fun _ => ?_)
  refine lv_aload_n hx hb dX8_sortByOff_57 rfl (lv_at hl 3 rfl) ?_
  refine lv_iload_n hx hb dX8_sortByOff_58 rfl (lv_at hl 0 rfl) ?_
  refine lv_iload_n hx hb dX8_sortByOff_59 rfl (lv_at hl 0 rfl) ?_
  refine lv_iload_n hx hb dX8_sortByOff_60 rfl (lv_at hl 1 rfl) ?_
  refine lv_iadd hx hb dX8_sortByOff_61 ?_
  refine xt_i (y := nI 3) (by decide +kernel) ?_
  refine lv_iload_n hx hb dX8_sortByOff_62 rfl (lv_at hl 2 rfl) ?_
  refine va_mmin hx hb (hml.trans hl.1.symm) hown (hts (.methodLink RX8 69 Lib.Math.min.name) (by decide +kernel)) (hts (.static Lib.Math.min.name) (by decide +kernel)) (hts (.initialized "java/lang/Math") (by decide +kernel)) (hts (.code Lib.Math.min.name Lib.Math.min.code 2 (some .int)) (by decide +kernel)) (Nat.le_of_ble_eq_true rfl) (Nat.le_of_ble_eq_true rfl) (Nat.zero_le _) (Nat.zero_le _) dX8_sortByOff_63 ?_
  refine xt_i (y := nI (min 3 4)) (min_nI (by omega) (by omega)) ?_
  refine xt_i (y := nI 3) (by decide +kernel) ?_
  refine lv_iload_n hx hb dX8_sortByOff_66 rfl (lv_at hl 0 rfl) ?_
  refine lv_iconst (v := nI 2) hx hb dX8_sortByOff_67 (by decide) ?_
  refine lv_iload_n hx hb dX8_sortByOff_68 rfl (lv_at hl 1 rfl) ?_
  refine lv_imul hx hb dX8_sortByOff_69 ?_
  refine xt_i (y := nI 2) (by decide +kernel) ?_
  refine lv_iadd hx hb dX8_sortByOff_70 ?_
  refine xt_i (y := nI 4) (by decide +kernel) ?_
  refine lv_iload_n hx hb dX8_sortByOff_71 rfl (lv_at hl 2 rfl) ?_
  refine va_mmin hx hb (hml.trans hl.1.symm) hown (hts (.methodLink RX8 69 Lib.Math.min.name) (by decide +kernel)) (hts (.static Lib.Math.min.name) (by decide +kernel)) (hts (.initialized "java/lang/Math") (by decide +kernel)) (hts (.code Lib.Math.min.name Lib.Math.min.code 2 (some .int)) (by decide +kernel)) (Nat.le_of_ble_eq_true rfl) (Nat.le_of_ble_eq_true rfl) (Nat.zero_le _) (Nat.zero_le _) dX8_sortByOff_72 ?_
  refine xt_i (y := nI (min 4 4)) (min_nI (by omega) (by omega)) ?_
  refine xt_i (y := nI 4) (by decide +kernel) ?_
  refine xj_v (wc := (wD_60 h cs qI_75 fL qA_81 fQ fG fJ)) (wr := ([] : va_W)) hP hD hS hA [0, 1, 2, 3, 4, 5, 6, 7, 8, 9, 10, 11] [] rfl rfl (by decide) (by decide) (va_runV (As := [.int (nI 2), .int (nI 3), .int (nI 4)]) (rest := []) ⟨hx, hb, hml, hown, hts⟩ (a_X8_mergeRuns_82 l dC dI h cs H.size qI_75 fL qA_81 fQ fG fJ ) (cwV 3 hts gX8_sortByOff_X8_mergeRuns rfl rfl rfl (by decide +kernel) ⟨Nat.le_of_ble_eq_true rfl, Nat.le_of_ble_eq_true rfl⟩) (xpV (wc := (wD_60 h cs qI_75 fL qA_81 fQ fG fJ)) hP hD hK hN [0, 1, 2, 3, 4, 5, 6, 7, 8, 9, 10, 11] rfl (by decide) 0 (ci := 8) rfl rfl _) rfl rfl hl.1 rfl (lv_room (Nat.le_of_ble_eq_true rfl)) dX8_sortByOff_75 ⟨Nat.zero_le _, Nat.zero_le _⟩) (fun u_7 H locs hw hP hD hS => ?_)
  obtain ⟨hf_9, rfl⟩ := hw
  have hP : va_P (dC, dI) vwCl (wD_60 h cs qI_75 fL qA_83 fQ fG fJ) H := hP
  have hD : va_D A0 (wD_60 h cs qI_75 fL qA_83 fQ fG fJ) := hD
  refine lv_iload_n hx hb dX8_sortByOff_78 rfl (lv_at hl 0 rfl) ?_
  refine lv_iconst (v := nI 2) hx hb dX8_sortByOff_79 (by decide) ?_
  refine lv_iload_n hx hb dX8_sortByOff_80 rfl (lv_at hl 1 rfl) ?_
  refine lv_imul hx hb dX8_sortByOff_81 ?_
  refine xt_i (y := nI 2) (by decide +kernel) ?_
  refine lv_iadd hx hb dX8_sortByOff_82 ?_
  refine xt_i (y := nI 4) (by decide +kernel) ?_
  refine lv_istore_n (lv' := [(3, .int (nI 4)), (2, .int (nI 1)), (1, .int (nI 4)), (0, .ref (h 105))]) hx hb dX8_sortByOff_83 rfl hl (by decide) rfl (fun ls hl => ?_)
  refine lv_goto (tgt := 52) hx hb dX8_sortByOff_84 (by decide) ?_
  refine lv_iload_n hx hb dX8_sortByOff_52 rfl (lv_at hl 0 rfl) ?_
  refine lv_iload_n hx hb dX8_sortByOff_53 rfl (lv_at hl 2 rfl) ?_
  refine lv_icmp_ge (tgt := 87) hx hb dX8_sortByOff_54 (by decide) (fun _ => ?_) (fun c9 => False.elim (by revert c9; decide +kernel))
  refine lv_aload_n hx hb dX8_sortByOff_87 rfl (lv_at hl 3 rfl) ?_
  refine va_get (D := (dC, dI)) (ci := 8) (v := .ref (h 172)) (C := RX8) (T := TX8) (N := 6) hx hb hts hinX8 hown hK hP 0 rfl rfl 3 (by decide) (hts (.fieldLink RX8 18 "MixedWords$Words" "spare" "[I") (by decide +kernel)) (fun _ h9 => h9) rfl dX8_sortByOff_88 ?_
  refine lv_iconst (v := nI 0) hx hb dX8_sortByOff_91 (by decide) ?_
  refine lv_aload_n hx hb dX8_sortByOff_92 rfl (lv_at hl 3 rfl) ?_
  refine va_get (D := (dC, dI)) (ci := 8) (v := .ref (h 171)) (C := RX8) (T := TX8) (N := 6) hx hb hts hinX8 hown hK hP 0 rfl rfl 2 (by decide) (hts (.fieldLink RX8 15 "MixedWords$Words" "byOff" "[I") (by decide +kernel)) (fun _ h9 => h9) rfl dX8_sortByOff_93 ?_
  refine lv_iconst (v := nI 0) hx hb dX8_sortByOff_96 (by decide) ?_
  refine lv_iload_n hx hb dX8_sortByOff_97 rfl (lv_at hl 2 rfl) ?_
  refine xa_copyS hx hb (hml.trans hl.1.symm) hown (hts (.methodLink RX8 88 arraycopyName) (by decide +kernel)) (hts (.native arraycopyName) (by decide +kernel)) (hts (.static arraycopyName) (by decide +kernel)) (hts (.initialized "java/lang/System") (by decide +kernel)) hK hP hD hS 11 10 rfl rfl (by omega) (by omega) (by decide) (by decide) (by decide +kernel) (Nat.le_of_ble_eq_true rfl) (Nat.le_of_ble_eq_true rfl) dX8_sortByOff_98 (fun H locs hP hD hS => ?_)
  refine lv_iload_n hx hb dX8_sortByOff_101 rfl (lv_at hl 1 rfl) ?_
  refine lv_iconst (v := nI 2) hx hb dX8_sortByOff_102 (by decide) ?_
  refine lv_imul hx hb dX8_sortByOff_103 ?_
  refine xt_i (y := nI 2) (by decide +kernel) ?_
  refine lv_istore_n (lv' := [(2, .int (nI 2)), (3, .int (nI 4)), (1, .int (nI 4)), (0, .ref (h 105))]) hx hb dX8_sortByOff_104 rfl hl (by decide) rfl (fun ls hl => ?_)
  refine lv_goto (tgt := 45) hx hb dX8_sortByOff_105 (by decide) ?_
  refine lv_iload_n hx hb dX8_sortByOff_45 rfl (lv_at hl 0 rfl) ?_
  refine lv_iload_n hx hb dX8_sortByOff_46 rfl (lv_at hl 2 rfl) ?_
  refine lv_icmp_ge (tgt := 108) hx hb dX8_sortByOff_47 (by decide) (fun c9 => False.elim (by revert c9; decide +kernel)) (fun _ => ?_)
  refine lv_iconst (v := nI 0) hx hb dX8_sortByOff_50 (by decide) ?_
  refine lv_istore_n (lv' := [(3, .int (nI 0)), (2, .int (nI 2)), (1, .int (nI 4)), (0, .ref (h 105))]) hx hb dX8_sortByOff_51 rfl hl (by decide) rfl (fun ls hl => ?_)
  refine lv_iload_n hx hb dX8_sortByOff_52 rfl (lv_at hl 0 rfl) ?_
  refine lv_iload_n hx hb dX8_sortByOff_53 rfl (lv_at hl 2 rfl) ?_
  refine lv_icmp_ge (tgt := 87) hx hb dX8_sortByOff_54 (by decide) (fun c9 => False.elim (by revert c9; decide +kernel)) (fun _ => ?_)
  refine lv_aload_n hx hb dX8_sortByOff_57 rfl (lv_at hl 3 rfl) ?_
  refine lv_iload_n hx hb dX8_sortByOff_58 rfl (lv_at hl 0 rfl) ?_
  refine lv_iload_n hx hb dX8_sortByOff_59 rfl (lv_at hl 0 rfl) ?_
  refine lv_iload_n hx hb dX8_sortByOff_60 rfl (lv_at hl 1 rfl) ?_
  refine lv_iadd hx hb dX8_sortByOff_61 ?_
  refine xt_i (y := nI 2) (by decide +kernel) ?_
  refine lv_iload_n hx hb dX8_sortByOff_62 rfl (lv_at hl 2 rfl) ?_
  refine va_mmin hx hb (hml.trans hl.1.symm) hown (hts (.methodLink RX8 69 Lib.Math.min.name) (by decide +kernel)) (hts (.static Lib.Math.min.name) (by decide +kernel)) (hts (.initialized "java/lang/Math") (by decide +kernel)) (hts (.code Lib.Math.min.name Lib.Math.min.code 2 (some .int)) (by decide +kernel)) (Nat.le_of_ble_eq_true rfl) (Nat.le_of_ble_eq_true rfl) (Nat.zero_le _) (Nat.zero_le _) dX8_sortByOff_63 ?_
  refine xt_i (y := nI (min 2 4)) (min_nI (by omega) (by omega)) ?_
  refine xt_i (y := nI 2) (by decide +kernel) ?_
  refine lv_iload_n hx hb dX8_sortByOff_66 rfl (lv_at hl 0 rfl) ?_
  refine lv_iconst (v := nI 2) hx hb dX8_sortByOff_67 (by decide) ?_
  refine lv_iload_n hx hb dX8_sortByOff_68 rfl (lv_at hl 1 rfl) ?_
  refine lv_imul hx hb dX8_sortByOff_69 ?_
  refine xt_i (y := nI 4) (by decide +kernel) ?_
  refine lv_iadd hx hb dX8_sortByOff_70 ?_
  refine xt_i (y := nI 4) (by decide +kernel) ?_
  refine lv_iload_n hx hb dX8_sortByOff_71 rfl (lv_at hl 2 rfl) ?_
  refine va_mmin hx hb (hml.trans hl.1.symm) hown (hts (.methodLink RX8 69 Lib.Math.min.name) (by decide +kernel)) (hts (.static Lib.Math.min.name) (by decide +kernel)) (hts (.initialized "java/lang/Math") (by decide +kernel)) (hts (.code Lib.Math.min.name Lib.Math.min.code 2 (some .int)) (by decide +kernel)) (Nat.le_of_ble_eq_true rfl) (Nat.le_of_ble_eq_true rfl) (Nat.zero_le _) (Nat.zero_le _) dX8_sortByOff_72 ?_
  refine xt_i (y := nI (min 4 4)) (min_nI (by omega) (by omega)) ?_
  refine xt_i (y := nI 4) (by decide +kernel) ?_
  refine xj_v (wc := (wD_60 h cs qI_75 fL qA_83 fQ fG fJ)) (wr := ([] : va_W)) hP hD hS hA [0, 1, 2, 3, 4, 5, 6, 7, 8, 9, 10, 11] [] rfl rfl (by decide) (by decide) (va_runV (As := [.int (nI 0), .int (nI 2), .int (nI 4)]) (rest := []) ⟨hx, hb, hml, hown, hts⟩ (a_X8_mergeRuns_84 l dC dI h cs H.size qI_75 fL qA_83 fQ fG fJ ) (cwV 3 hts gX8_sortByOff_X8_mergeRuns rfl rfl rfl (by decide +kernel) ⟨Nat.le_of_ble_eq_true rfl, Nat.le_of_ble_eq_true rfl⟩) (xpV (wc := (wD_60 h cs qI_75 fL qA_83 fQ fG fJ)) hP hD hK hN [0, 1, 2, 3, 4, 5, 6, 7, 8, 9, 10, 11] rfl (by decide) 0 (ci := 8) rfl rfl _) rfl rfl hl.1 rfl (lv_room (Nat.le_of_ble_eq_true rfl)) dX8_sortByOff_75 ⟨Nat.zero_le _, Nat.zero_le _⟩) (fun u_10 H locs hw hP hD hS => ?_)
  obtain ⟨hf_12, rfl⟩ := hw
  have hP : va_P (dC, dI) vwCl (wD_60 h cs qI_75 fL qA_83 fQ fG fJ) H := hP
  have hD : va_D A0 (wD_60 h cs qI_75 fL qA_83 fQ fG fJ) := hD
  refine lv_iload_n hx hb dX8_sortByOff_78 rfl (lv_at hl 0 rfl) ?_
  refine lv_iconst (v := nI 2) hx hb dX8_sortByOff_79 (by decide) ?_
  refine lv_iload_n hx hb dX8_sortByOff_80 rfl (lv_at hl 1 rfl) ?_
  refine lv_imul hx hb dX8_sortByOff_81 ?_
  refine xt_i (y := nI 4) (by decide +kernel) ?_
  refine lv_iadd hx hb dX8_sortByOff_82 ?_
  refine xt_i (y := nI 4) (by decide +kernel) ?_
  refine lv_istore_n (lv' := [(3, .int (nI 4)), (2, .int (nI 2)), (1, .int (nI 4)), (0, .ref (h 105))]) hx hb dX8_sortByOff_83 rfl hl (by decide) rfl (fun ls hl => ?_)
  refine lv_goto (tgt := 52) hx hb dX8_sortByOff_84 (by decide) ?_
  refine lv_iload_n hx hb dX8_sortByOff_52 rfl (lv_at hl 0 rfl) ?_
  refine lv_iload_n hx hb dX8_sortByOff_53 rfl (lv_at hl 2 rfl) ?_
  refine lv_icmp_ge (tgt := 87) hx hb dX8_sortByOff_54 (by decide) (fun _ => ?_) (fun c9 => False.elim (by revert c9; decide +kernel))
  refine lv_aload_n hx hb dX8_sortByOff_87 rfl (lv_at hl 3 rfl) ?_
  refine va_get (D := (dC, dI)) (ci := 8) (v := .ref (h 172)) (C := RX8) (T := TX8) (N := 6) hx hb hts hinX8 hown hK hP 0 rfl rfl 3 (by decide) (hts (.fieldLink RX8 18 "MixedWords$Words" "spare" "[I") (by decide +kernel)) (fun _ h9 => h9) rfl dX8_sortByOff_88 ?_
  refine lv_iconst (v := nI 0) hx hb dX8_sortByOff_91 (by decide) ?_
  refine lv_aload_n hx hb dX8_sortByOff_92 rfl (lv_at hl 3 rfl) ?_
  refine va_get (D := (dC, dI)) (ci := 8) (v := .ref (h 171)) (C := RX8) (T := TX8) (N := 6) hx hb hts hinX8 hown hK hP 0 rfl rfl 2 (by decide) (hts (.fieldLink RX8 15 "MixedWords$Words" "byOff" "[I") (by decide +kernel)) (fun _ h9 => h9) rfl dX8_sortByOff_93 ?_
  refine lv_iconst (v := nI 0) hx hb dX8_sortByOff_96 (by decide) ?_
  refine lv_iload_n hx hb dX8_sortByOff_97 rfl (lv_at hl 2 rfl) ?_
  refine xa_copyS hx hb (hml.trans hl.1.symm) hown (hts (.methodLink RX8 88 arraycopyName) (by decide +kernel)) (hts (.native arraycopyName) (by decide +kernel)) (hts (.static arraycopyName) (by decide +kernel)) (hts (.initialized "java/lang/System") (by decide +kernel)) hK hP hD hS 11 10 rfl rfl (by omega) (by omega) (by decide) (by decide) (by decide +kernel) (Nat.le_of_ble_eq_true rfl) (Nat.le_of_ble_eq_true rfl) dX8_sortByOff_98 (fun H locs hP hD hS => ?_)
  refine lv_iload_n hx hb dX8_sortByOff_101 rfl (lv_at hl 1 rfl) ?_
  refine lv_iconst (v := nI 2) hx hb dX8_sortByOff_102 (by decide) ?_
  refine lv_imul hx hb dX8_sortByOff_103 ?_
  refine xt_i (y := nI 4) (by decide +kernel) ?_
  refine lv_istore_n (lv' := [(2, .int (nI 4)), (3, .int (nI 4)), (1, .int (nI 4)), (0, .ref (h 105))]) hx hb dX8_sortByOff_104 rfl hl (by decide) rfl (fun ls hl => ?_)
  refine lv_goto (tgt := 45) hx hb dX8_sortByOff_105 (by decide) ?_
  refine lv_iload_n hx hb dX8_sortByOff_45 rfl (lv_at hl 0 rfl) ?_
  refine lv_iload_n hx hb dX8_sortByOff_46 rfl (lv_at hl 2 rfl) ?_
  refine lv_icmp_ge (tgt := 108) hx hb dX8_sortByOff_47 (by decide) (fun _ => ?_) (fun c9 => False.elim (by revert c9; decide +kernel))
  refine lv_aload_n hx hb dX8_sortByOff_108 rfl (lv_at hl 3 rfl) ?_
  refine lv_aload_n hx hb dX8_sortByOff_109 rfl (lv_at hl 3 rfl) ?_
  refine va_get (D := (dC, dI)) (ci := 8) (v := .ref (h 101)) (C := RX8) (T := TX8) (N := 6) hx hb hts hinX8 hown hK hP 0 rfl rfl 0 (by decide) (hts (.fieldLink RX8 28 "MixedWords$Words" "mix" "LMixedWords$Mix;") (by decide +kernel)) (fun _ h9 => h9) rfl dX8_sortByOff_110 ?_
  refine va_get (D := (dC, dI)) (ci := 3) (v := .int (qI_75 123)) (C := RX3) (T := TX3) (N := 6) hx hb hts hinX3 hown hK hP 1 rfl rfl 3 (by decide) (hts (.fieldLink RX8 77 "MixedWords$Mix" "stamp" "I") (by decide +kernel)) (fun _ h9 => h9) rfl dX8_sortByOff_113 ?_
  refine xt_i (y := nI 1) (by decide +kernel) ?_
  refine va_put (D := (dC, dI)) (ci := 8) (v := .int (nI 1)) (ty := .int) (C := RX8) (T := TX8) (N := 6) hx hb hts hinX8 tyX8 tyX8_ok nmX8 hown hK hP hD hS 0 rfl rfl 5 (by decide) (hts (.fieldLink RX8 25 "MixedWords$Words" "byOffStamp" "I") (by decide +kernel)) (fun _ h9 => h9) rfl (by decide +kernel) rfl rfl (Nat.le_of_ble_eq_true rfl) dX8_sortByOff_116 (fun H locs hP hD hS => ?_)
  have hP : va_P (dC, dI) vwCl (wD_60 h cs (va_up qI_75 174 (nI 1)) fL qA_83 fQ fG fJ) H := hP
  have hD : va_D A0 (wD_60 h cs (va_up qI_75 174 (nI 1)) fL qA_83 fQ fG fJ) := hD
  have hP : va_P (dC, dI) vwCl (wD_60 h cs qI_85 fL qA_83 fQ fG fJ) H := hP
  have hD : va_D A0 (wD_60 h cs qI_85 fL qA_83 fQ fG fJ) := hD
  exact xr_v hx hb hr hlocks hK hS dX8_sortByOff_119 (qI_85, fL, qA_83, fQ, fG, fJ) ⟨trivial, rfl⟩ hP hD
set_option maxRecDepth 20000 in
theorem ggX8_ranked_X8_workOutOffs : GoodIn wsX8_ranked wsX8_workOutOffs := goodIn_r _ [6, 7, 8, 9, 10, 11, 12, 13, 14, 15, 16, 17, 18, 19, 20, 21, 22, 23, 24, 5, 25, 26, 27, 28, 29, 30, 31, 32, 33, 34, 35, 54, 55, 56, 57, 58, 59, 60, 61, 62, 63, 64, 65] (by decide +kernel) (by decide +kernel)
set_option maxRecDepth 20000 in
theorem gX8_ranked_X8_workOutOffs : GoodIn wsX8_ranked (wsV RX8 58 RX8 yX8_workOutOffs wsX8_workOutOffs) := goodIn_app (goodIn_of _ (by decide +kernel)) ggX8_ranked_X8_workOutOffs
set_option maxRecDepth 20000 in
theorem ggX8_ranked_X8_sortByOff : GoodIn wsX8_ranked wsX8_sortByOff := goodIn_r _ [39, 40, 8, 9, 1, 41, 42, 43, 44, 45, 46, 47, 48, 49, 11, 12, 13, 14, 15, 16, 17, 18, 19, 20, 21, 50, 51, 52, 5, 53, 10, 54, 55, 56, 57, 58, 59, 60, 61, 62, 63, 64, 65] (by decide +kernel) (by decide +kernel)
set_option maxRecDepth 20000 in
theorem gX8_ranked_X8_sortByOff : GoodIn wsX8_ranked (wsV RX8 74 RX8 yX8_sortByOff wsX8_sortByOff) := goodIn_app (goodIn_of _ (by decide +kernel)) ggX8_ranked_X8_sortByOff
theorem dX8_ranked_0 : decode cX8_ranked 0 = .ok (.aload_n 0, 1) := by decide +kernel
theorem dX8_ranked_1 : decode cX8_ranked 1 = .ok (.invokevirtual 58, 3) := by decide +kernel
theorem dX8_ranked_4 : decode cX8_ranked 4 = .ok (.aload_n 0, 1) := by decide +kernel
theorem dX8_ranked_5 : decode cX8_ranked 5 = .ok (.invokevirtual 74, 3) := by decide +kernel
theorem dX8_ranked_8 : decode cX8_ranked 8 = .ok (.aload_n 0, 1) := by decide +kernel
theorem dX8_ranked_9 : decode cX8_ranked 9 = .ok (.getfield 15, 3) := by decide +kernel
theorem dX8_ranked_12 : decode cX8_ranked 12 = .ok (.iload_n 1, 1) := by decide +kernel
theorem dX8_ranked_13 : decode cX8_ranked 13 = .ok (.iaload, 1) := by decide +kernel
theorem dX8_ranked_14 : decode cX8_ranked 14 = .ok (.ireturn, 1) := by decide +kernel
set_option maxHeartbeats 4000000 in
set_option maxRecDepth 100000 in
theorem a_X8_ranked_73 (l : Launch) (dC : Nat → ClassId) (dI : Nat → Nat → Nat) (h : Nat → Nat) (cs : Nat → ClassId) (sz : Nat) (I : Nat → Int32) (L : Nat → Int64) (A : Nat → Nat → Int32) (Q : Nat → Nat → Int64) (G : Nat → Nat → Nat → Int32) (J : Nat → Nat → Nat → Int64) : Met l yX8_ranked wsX8_ranked ({ frames := 4, cells := 0, slots := 0, locals := 88 }) (va_Pc [.ref (h 105), .int (nI 0)] (xPre (dC, dI) (wD_60 h cs fI fL fA fQ fG fJ) (tysA cs) sz)) (va_Qi (fun (r : Int32) (u : CS) => (r = nI 0) ∧ u = (qI_85, fL, qA_83, fQ, fG, fJ)) (xB (dC, dI) (tysA cs) (va_A (wD_60 h cs fI fL fA fQ fG fJ) sz) (fun u : CS => wD_60 h cs u.1 u.2.1 u.2.2.1 u.2.2.2.1 u.2.2.2.2.1 u.2.2.2.2.2)) (va_A (wD_60 h cs fI fL fA fQ fG fJ) sz)) 0 0 (va_A (wD_60 h cs fI fL fA fQ fG fJ) sz) := by
  refine Met.ofW (cc := cX8_ranked) (maxL := 2) (ret := (some .int)) (by decide) rfl ?_
  intro p e s m args below meth c s₁ B hml hv
  obtain ⟨rfl, hsz, hP, hK, hD0, hN⟩ := hv
  have hx := B.exec
  have hb := B.bytes
  have hr := B.returns
  have hts := atoms_spec (ws := wsX8_ranked) B.pre
  have hown : s.vm.findClass RX8 = some m.cls := findClass_of_methodNamed B.named
  have hlocks := B.notSynchronized
  subst hsz
  have hD := hD0.self (sz := s.heap.size)
  generalize hAe : va_A (wD_60 h cs fI fL fA fQ fG fJ) s.heap.size = A0 at hD ⊢
  have hA : ∀ q : Nat, s.heap.size ≤ q → A0 q := fun q h => by rw [← hAe]; exact Or.inr h
  have hl := lv_entry ([.ref (h 105), .int (nI 0)]) (n := 2) (Nat.le_of_ble_eq_true rfl)
  rw [lg_entry_eq]
  generalize (lg_sl ([.ref (h 105), .int (nI 0)]) ++ List.replicate (2 - (lg_sl ([.ref (h 105), .int (nI 0)])).length) Slot.unset).toArray = ls at hl ⊢
  have hl : lv_has ls 2 [(0, .ref (h 105)), (1, .int (nI 0))] := hl
  generalize hH : s.heap = H at hP ⊢
  have hS : va_S A0 s.heap H [] := by rw [← hH]; exact va_S.rf
  have hinX8 : ∀ w ∈ wsX80, w ∈ wsX8_ranked := by decide +kernel
  refine lv_aload_n hx hb dX8_ranked_0 rfl (lv_at hl 0 rfl) ?_
  refine xj_v (wc := (wD_60 h cs fI fL fA fQ fG fJ)) (wr := ([] : va_W)) hP hD hS hA [0, 1, 2, 3, 4, 5, 6, 7, 8, 9, 10, 11] [] rfl rfl (by decide) (by decide) (va_runV (As := []) (rest := []) ⟨hx, hb, hml, hown, hts⟩ (a_X8_workOutOffs_74 l dC dI h cs H.size fI fL fA fQ fG fJ ) (cwV 0 hts gX8_ranked_X8_workOutOffs rfl rfl rfl (by decide +kernel) ⟨Nat.le_of_ble_eq_true rfl, Nat.le_of_ble_eq_true rfl⟩) (xpV (wc := (wD_60 h cs fI fL fA fQ fG fJ)) hP hD hK hN [0, 1, 2, 3, 4, 5, 6, 7, 8, 9, 10, 11] rfl (by decide) 0 (ci := 8) rfl rfl _) rfl rfl hl.1 rfl (lv_room (Nat.le_of_ble_eq_true rfl)) dX8_ranked_1 ⟨Nat.zero_le _, Nat.zero_le _⟩) (fun u_1 H locs hw hP hD hS => ?_)
  obtain ⟨hf_3, rfl⟩ := hw
  have hP : va_P (dC, dI) vwCl (wD_60 h cs qI_75 fL fA fQ fG fJ) H := hP
  have hD : va_D A0 (wD_60 h cs qI_75 fL fA fQ fG fJ) := hD
  refine lv_aload_n hx hb dX8_ranked_4 rfl (lv_at hl 0 rfl) ?_
  refine xj_v (wc := (wD_60 h cs qI_75 fL fA fQ fG fJ)) (wr := ([] : va_W)) hP hD hS hA [0, 1, 2, 3, 4, 5, 6, 7, 8, 9, 10, 11] [] rfl rfl (by decide) (by decide) (va_runV (As := []) (rest := []) ⟨hx, hb, hml, hown, hts⟩ (a_X8_sortByOff_76 l dC dI h cs H.size qI_75 fL fA fQ fG fJ ) (cwV 0 hts gX8_ranked_X8_sortByOff rfl rfl rfl (by decide +kernel) ⟨Nat.le_of_ble_eq_true rfl, Nat.le_of_ble_eq_true rfl⟩) (xpV (wc := (wD_60 h cs qI_75 fL fA fQ fG fJ)) hP hD hK hN [0, 1, 2, 3, 4, 5, 6, 7, 8, 9, 10, 11] rfl (by decide) 0 (ci := 8) rfl rfl _) rfl rfl hl.1 rfl (lv_room (Nat.le_of_ble_eq_true rfl)) dX8_ranked_5 ⟨Nat.zero_le _, Nat.zero_le _⟩) (fun u_4 H locs hw hP hD hS => ?_)
  obtain ⟨hf_6, rfl⟩ := hw
  have hP : va_P (dC, dI) vwCl (wD_60 h cs qI_85 fL qA_83 fQ fG fJ) H := hP
  have hD : va_D A0 (wD_60 h cs qI_85 fL qA_83 fQ fG fJ) := hD
  refine lv_aload_n hx hb dX8_ranked_8 rfl (lv_at hl 0 rfl) ?_
  refine va_get (D := (dC, dI)) (ci := 8) (v := .ref (h 171)) (C := RX8) (T := TX8) (N := 6) hx hb hts hinX8 hown hK hP 0 rfl rfl 2 (by decide) (hts (.fieldLink RX8 15 "MixedWords$Words" "byOff" "[I") (by decide +kernel)) (fun _ h9 => h9) rfl dX8_ranked_9 ?_
  refine lv_iload_n hx hb dX8_ranked_12 rfl (lv_at hl 1 rfl) ?_
  refine xa_iald hx hb hK hP 10 0 rfl rfl (by omega) (by decide) dX8_ranked_13 ?_
  refine xt_i (y := nI 0) (by decide +kernel) ?_
  exact xr_i (v := (nI 0)) hx hb hr hlocks hK hS dX8_ranked_14 (qI_85, fL, qA_83, fQ, fG, fJ) ⟨rfl, rfl⟩ hP hD
set_option maxHeartbeats 4000000 in
set_option maxRecDepth 100000 in
theorem a_X8_ranked_86 (l : Launch) (dC : Nat → ClassId) (dI : Nat → Nat → Nat) (h : Nat → Nat) (cs : Nat → ClassId) (sz : Nat) (I : Nat → Int32) (L : Nat → Int64) (A : Nat → Nat → Int32) (Q : Nat → Nat → Int64) (G : Nat → Nat → Nat → Int32) (J : Nat → Nat → Nat → Int64) : Met l yX8_ranked wsX8_ranked ({ frames := 4, cells := 0, slots := 0, locals := 88 }) (va_Pc [.ref (h 105), .int (nI 1)] (xPre (dC, dI) (wD_60 h cs fI fL fA fQ fG fJ) (tysA cs) sz)) (va_Qi (fun (r : Int32) (u : CS) => (r = nI 1) ∧ u = (qI_85, fL, qA_83, fQ, fG, fJ)) (xB (dC, dI) (tysA cs) (va_A (wD_60 h cs fI fL fA fQ fG fJ) sz) (fun u : CS => wD_60 h cs u.1 u.2.1 u.2.2.1 u.2.2.2.1 u.2.2.2.2.1 u.2.2.2.2.2)) (va_A (wD_60 h cs fI fL fA fQ fG fJ) sz)) 0 0 (va_A (wD_60 h cs fI fL fA fQ fG fJ) sz) := by
  refine Met.ofW (cc := cX8_ranked) (maxL := 2) (ret := (some .int)) (by decide) rfl ?_
  intro p e s m args below meth c s₁ B hml hv
  obtain ⟨rfl, hsz, hP, hK, hD0, hN⟩ := hv
  have hx := B.exec
  have hb := B.bytes
  have hr := B.returns
  have hts := atoms_spec (ws := wsX8_ranked) B.pre
  have hown : s.vm.findClass RX8 = some m.cls := findClass_of_methodNamed B.named
  have hlocks := B.notSynchronized
  subst hsz
  have hD := hD0.self (sz := s.heap.size)
  generalize hAe : va_A (wD_60 h cs fI fL fA fQ fG fJ) s.heap.size = A0 at hD ⊢
  have hA : ∀ q : Nat, s.heap.size ≤ q → A0 q := fun q h => by rw [← hAe]; exact Or.inr h
  have hl := lv_entry ([.ref (h 105), .int (nI 1)]) (n := 2) (Nat.le_of_ble_eq_true rfl)
  rw [lg_entry_eq]
  generalize (lg_sl ([.ref (h 105), .int (nI 1)]) ++ List.replicate (2 - (lg_sl ([.ref (h 105), .int (nI 1)])).length) Slot.unset).toArray = ls at hl ⊢
  have hl : lv_has ls 2 [(0, .ref (h 105)), (1, .int (nI 1))] := hl
  generalize hH : s.heap = H at hP ⊢
  have hS : va_S A0 s.heap H [] := by rw [← hH]; exact va_S.rf
  have hinX8 : ∀ w ∈ wsX80, w ∈ wsX8_ranked := by decide +kernel
  refine lv_aload_n hx hb dX8_ranked_0 rfl (lv_at hl 0 rfl) ?_
  refine xj_v (wc := (wD_60 h cs fI fL fA fQ fG fJ)) (wr := ([] : va_W)) hP hD hS hA [0, 1, 2, 3, 4, 5, 6, 7, 8, 9, 10, 11] [] rfl rfl (by decide) (by decide) (va_runV (As := []) (rest := []) ⟨hx, hb, hml, hown, hts⟩ (a_X8_workOutOffs_74 l dC dI h cs H.size fI fL fA fQ fG fJ ) (cwV 0 hts gX8_ranked_X8_workOutOffs rfl rfl rfl (by decide +kernel) ⟨Nat.le_of_ble_eq_true rfl, Nat.le_of_ble_eq_true rfl⟩) (xpV (wc := (wD_60 h cs fI fL fA fQ fG fJ)) hP hD hK hN [0, 1, 2, 3, 4, 5, 6, 7, 8, 9, 10, 11] rfl (by decide) 0 (ci := 8) rfl rfl _) rfl rfl hl.1 rfl (lv_room (Nat.le_of_ble_eq_true rfl)) dX8_ranked_1 ⟨Nat.zero_le _, Nat.zero_le _⟩) (fun u_1 H locs hw hP hD hS => ?_)
  obtain ⟨hf_3, rfl⟩ := hw
  have hP : va_P (dC, dI) vwCl (wD_60 h cs qI_75 fL fA fQ fG fJ) H := hP
  have hD : va_D A0 (wD_60 h cs qI_75 fL fA fQ fG fJ) := hD
  refine lv_aload_n hx hb dX8_ranked_4 rfl (lv_at hl 0 rfl) ?_
  refine xj_v (wc := (wD_60 h cs qI_75 fL fA fQ fG fJ)) (wr := ([] : va_W)) hP hD hS hA [0, 1, 2, 3, 4, 5, 6, 7, 8, 9, 10, 11] [] rfl rfl (by decide) (by decide) (va_runV (As := []) (rest := []) ⟨hx, hb, hml, hown, hts⟩ (a_X8_sortByOff_76 l dC dI h cs H.size qI_75 fL fA fQ fG fJ ) (cwV 0 hts gX8_ranked_X8_sortByOff rfl rfl rfl (by decide +kernel) ⟨Nat.le_of_ble_eq_true rfl, Nat.le_of_ble_eq_true rfl⟩) (xpV (wc := (wD_60 h cs qI_75 fL fA fQ fG fJ)) hP hD hK hN [0, 1, 2, 3, 4, 5, 6, 7, 8, 9, 10, 11] rfl (by decide) 0 (ci := 8) rfl rfl _) rfl rfl hl.1 rfl (lv_room (Nat.le_of_ble_eq_true rfl)) dX8_ranked_5 ⟨Nat.zero_le _, Nat.zero_le _⟩) (fun u_4 H locs hw hP hD hS => ?_)
  obtain ⟨hf_6, rfl⟩ := hw
  have hP : va_P (dC, dI) vwCl (wD_60 h cs qI_85 fL qA_83 fQ fG fJ) H := hP
  have hD : va_D A0 (wD_60 h cs qI_85 fL qA_83 fQ fG fJ) := hD
  refine lv_aload_n hx hb dX8_ranked_8 rfl (lv_at hl 0 rfl) ?_
  refine va_get (D := (dC, dI)) (ci := 8) (v := .ref (h 171)) (C := RX8) (T := TX8) (N := 6) hx hb hts hinX8 hown hK hP 0 rfl rfl 2 (by decide) (hts (.fieldLink RX8 15 "MixedWords$Words" "byOff" "[I") (by decide +kernel)) (fun _ h9 => h9) rfl dX8_ranked_9 ?_
  refine lv_iload_n hx hb dX8_ranked_12 rfl (lv_at hl 1 rfl) ?_
  refine xa_iald hx hb hK hP 10 0 rfl rfl (by omega) (by decide) dX8_ranked_13 ?_
  refine xt_i (y := nI 1) (by decide +kernel) ?_
  exact xr_i (v := (nI 1)) hx hb hr hlocks hK hS dX8_ranked_14 (qI_85, fL, qA_83, fQ, fG, fJ) ⟨rfl, rfl⟩ hP hD
set_option maxHeartbeats 4000000 in
set_option maxRecDepth 100000 in
theorem a_X8_ranked_87 (l : Launch) (dC : Nat → ClassId) (dI : Nat → Nat → Nat) (h : Nat → Nat) (cs : Nat → ClassId) (sz : Nat) (I : Nat → Int32) (L : Nat → Int64) (A : Nat → Nat → Int32) (Q : Nat → Nat → Int64) (G : Nat → Nat → Nat → Int32) (J : Nat → Nat → Nat → Int64) : Met l yX8_ranked wsX8_ranked ({ frames := 4, cells := 0, slots := 0, locals := 88 }) (va_Pc [.ref (h 105), .int (nI 2)] (xPre (dC, dI) (wD_60 h cs fI fL fA fQ fG fJ) (tysA cs) sz)) (va_Qi (fun (r : Int32) (u : CS) => (r = nI 2) ∧ u = (qI_85, fL, qA_83, fQ, fG, fJ)) (xB (dC, dI) (tysA cs) (va_A (wD_60 h cs fI fL fA fQ fG fJ) sz) (fun u : CS => wD_60 h cs u.1 u.2.1 u.2.2.1 u.2.2.2.1 u.2.2.2.2.1 u.2.2.2.2.2)) (va_A (wD_60 h cs fI fL fA fQ fG fJ) sz)) 0 0 (va_A (wD_60 h cs fI fL fA fQ fG fJ) sz) := by
  refine Met.ofW (cc := cX8_ranked) (maxL := 2) (ret := (some .int)) (by decide) rfl ?_
  intro p e s m args below meth c s₁ B hml hv
  obtain ⟨rfl, hsz, hP, hK, hD0, hN⟩ := hv
  have hx := B.exec
  have hb := B.bytes
  have hr := B.returns
  have hts := atoms_spec (ws := wsX8_ranked) B.pre
  have hown : s.vm.findClass RX8 = some m.cls := findClass_of_methodNamed B.named
  have hlocks := B.notSynchronized
  subst hsz
  have hD := hD0.self (sz := s.heap.size)
  generalize hAe : va_A (wD_60 h cs fI fL fA fQ fG fJ) s.heap.size = A0 at hD ⊢
  have hA : ∀ q : Nat, s.heap.size ≤ q → A0 q := fun q h => by rw [← hAe]; exact Or.inr h
  have hl := lv_entry ([.ref (h 105), .int (nI 2)]) (n := 2) (Nat.le_of_ble_eq_true rfl)
  rw [lg_entry_eq]
  generalize (lg_sl ([.ref (h 105), .int (nI 2)]) ++ List.replicate (2 - (lg_sl ([.ref (h 105), .int (nI 2)])).length) Slot.unset).toArray = ls at hl ⊢
  have hl : lv_has ls 2 [(0, .ref (h 105)), (1, .int (nI 2))] := hl
  generalize hH : s.heap = H at hP ⊢
  have hS : va_S A0 s.heap H [] := by rw [← hH]; exact va_S.rf
  have hinX8 : ∀ w ∈ wsX80, w ∈ wsX8_ranked := by decide +kernel
  refine lv_aload_n hx hb dX8_ranked_0 rfl (lv_at hl 0 rfl) ?_
  refine xj_v (wc := (wD_60 h cs fI fL fA fQ fG fJ)) (wr := ([] : va_W)) hP hD hS hA [0, 1, 2, 3, 4, 5, 6, 7, 8, 9, 10, 11] [] rfl rfl (by decide) (by decide) (va_runV (As := []) (rest := []) ⟨hx, hb, hml, hown, hts⟩ (a_X8_workOutOffs_74 l dC dI h cs H.size fI fL fA fQ fG fJ ) (cwV 0 hts gX8_ranked_X8_workOutOffs rfl rfl rfl (by decide +kernel) ⟨Nat.le_of_ble_eq_true rfl, Nat.le_of_ble_eq_true rfl⟩) (xpV (wc := (wD_60 h cs fI fL fA fQ fG fJ)) hP hD hK hN [0, 1, 2, 3, 4, 5, 6, 7, 8, 9, 10, 11] rfl (by decide) 0 (ci := 8) rfl rfl _) rfl rfl hl.1 rfl (lv_room (Nat.le_of_ble_eq_true rfl)) dX8_ranked_1 ⟨Nat.zero_le _, Nat.zero_le _⟩) (fun u_1 H locs hw hP hD hS => ?_)
  obtain ⟨hf_3, rfl⟩ := hw
  have hP : va_P (dC, dI) vwCl (wD_60 h cs qI_75 fL fA fQ fG fJ) H := hP
  have hD : va_D A0 (wD_60 h cs qI_75 fL fA fQ fG fJ) := hD
  refine lv_aload_n hx hb dX8_ranked_4 rfl (lv_at hl 0 rfl) ?_
  refine xj_v (wc := (wD_60 h cs qI_75 fL fA fQ fG fJ)) (wr := ([] : va_W)) hP hD hS hA [0, 1, 2, 3, 4, 5, 6, 7, 8, 9, 10, 11] [] rfl rfl (by decide) (by decide) (va_runV (As := []) (rest := []) ⟨hx, hb, hml, hown, hts⟩ (a_X8_sortByOff_76 l dC dI h cs H.size qI_75 fL fA fQ fG fJ ) (cwV 0 hts gX8_ranked_X8_sortByOff rfl rfl rfl (by decide +kernel) ⟨Nat.le_of_ble_eq_true rfl, Nat.le_of_ble_eq_true rfl⟩) (xpV (wc := (wD_60 h cs qI_75 fL fA fQ fG fJ)) hP hD hK hN [0, 1, 2, 3, 4, 5, 6, 7, 8, 9, 10, 11] rfl (by decide) 0 (ci := 8) rfl rfl _) rfl rfl hl.1 rfl (lv_room (Nat.le_of_ble_eq_true rfl)) dX8_ranked_5 ⟨Nat.zero_le _, Nat.zero_le _⟩) (fun u_4 H locs hw hP hD hS => ?_)
  obtain ⟨hf_6, rfl⟩ := hw
  have hP : va_P (dC, dI) vwCl (wD_60 h cs qI_85 fL qA_83 fQ fG fJ) H := hP
  have hD : va_D A0 (wD_60 h cs qI_85 fL qA_83 fQ fG fJ) := hD
  refine lv_aload_n hx hb dX8_ranked_8 rfl (lv_at hl 0 rfl) ?_
  refine va_get (D := (dC, dI)) (ci := 8) (v := .ref (h 171)) (C := RX8) (T := TX8) (N := 6) hx hb hts hinX8 hown hK hP 0 rfl rfl 2 (by decide) (hts (.fieldLink RX8 15 "MixedWords$Words" "byOff" "[I") (by decide +kernel)) (fun _ h9 => h9) rfl dX8_ranked_9 ?_
  refine lv_iload_n hx hb dX8_ranked_12 rfl (lv_at hl 1 rfl) ?_
  refine xa_iald hx hb hK hP 10 0 rfl rfl (by omega) (by decide) dX8_ranked_13 ?_
  refine xt_i (y := nI 2) (by decide +kernel) ?_
  exact xr_i (v := (nI 2)) hx hb hr hlocks hK hS dX8_ranked_14 (qI_85, fL, qA_83, fQ, fG, fJ) ⟨rfl, rfl⟩ hP hD
set_option maxHeartbeats 4000000 in
set_option maxRecDepth 100000 in
theorem a_X8_ranked_88 (l : Launch) (dC : Nat → ClassId) (dI : Nat → Nat → Nat) (h : Nat → Nat) (cs : Nat → ClassId) (sz : Nat) (I : Nat → Int32) (L : Nat → Int64) (A : Nat → Nat → Int32) (Q : Nat → Nat → Int64) (G : Nat → Nat → Nat → Int32) (J : Nat → Nat → Nat → Int64) : Met l yX8_ranked wsX8_ranked ({ frames := 4, cells := 0, slots := 0, locals := 88 }) (va_Pc [.ref (h 105), .int (nI 3)] (xPre (dC, dI) (wD_60 h cs fI fL fA fQ fG fJ) (tysA cs) sz)) (va_Qi (fun (r : Int32) (u : CS) => (r = nI 3) ∧ u = (qI_85, fL, qA_83, fQ, fG, fJ)) (xB (dC, dI) (tysA cs) (va_A (wD_60 h cs fI fL fA fQ fG fJ) sz) (fun u : CS => wD_60 h cs u.1 u.2.1 u.2.2.1 u.2.2.2.1 u.2.2.2.2.1 u.2.2.2.2.2)) (va_A (wD_60 h cs fI fL fA fQ fG fJ) sz)) 0 0 (va_A (wD_60 h cs fI fL fA fQ fG fJ) sz) := by
  refine Met.ofW (cc := cX8_ranked) (maxL := 2) (ret := (some .int)) (by decide) rfl ?_
  intro p e s m args below meth c s₁ B hml hv
  obtain ⟨rfl, hsz, hP, hK, hD0, hN⟩ := hv
  have hx := B.exec
  have hb := B.bytes
  have hr := B.returns
  have hts := atoms_spec (ws := wsX8_ranked) B.pre
  have hown : s.vm.findClass RX8 = some m.cls := findClass_of_methodNamed B.named
  have hlocks := B.notSynchronized
  subst hsz
  have hD := hD0.self (sz := s.heap.size)
  generalize hAe : va_A (wD_60 h cs fI fL fA fQ fG fJ) s.heap.size = A0 at hD ⊢
  have hA : ∀ q : Nat, s.heap.size ≤ q → A0 q := fun q h => by rw [← hAe]; exact Or.inr h
  have hl := lv_entry ([.ref (h 105), .int (nI 3)]) (n := 2) (Nat.le_of_ble_eq_true rfl)
  rw [lg_entry_eq]
  generalize (lg_sl ([.ref (h 105), .int (nI 3)]) ++ List.replicate (2 - (lg_sl ([.ref (h 105), .int (nI 3)])).length) Slot.unset).toArray = ls at hl ⊢
  have hl : lv_has ls 2 [(0, .ref (h 105)), (1, .int (nI 3))] := hl
  generalize hH : s.heap = H at hP ⊢
  have hS : va_S A0 s.heap H [] := by rw [← hH]; exact va_S.rf
  have hinX8 : ∀ w ∈ wsX80, w ∈ wsX8_ranked := by decide +kernel
  refine lv_aload_n hx hb dX8_ranked_0 rfl (lv_at hl 0 rfl) ?_
  refine xj_v (wc := (wD_60 h cs fI fL fA fQ fG fJ)) (wr := ([] : va_W)) hP hD hS hA [0, 1, 2, 3, 4, 5, 6, 7, 8, 9, 10, 11] [] rfl rfl (by decide) (by decide) (va_runV (As := []) (rest := []) ⟨hx, hb, hml, hown, hts⟩ (a_X8_workOutOffs_74 l dC dI h cs H.size fI fL fA fQ fG fJ ) (cwV 0 hts gX8_ranked_X8_workOutOffs rfl rfl rfl (by decide +kernel) ⟨Nat.le_of_ble_eq_true rfl, Nat.le_of_ble_eq_true rfl⟩) (xpV (wc := (wD_60 h cs fI fL fA fQ fG fJ)) hP hD hK hN [0, 1, 2, 3, 4, 5, 6, 7, 8, 9, 10, 11] rfl (by decide) 0 (ci := 8) rfl rfl _) rfl rfl hl.1 rfl (lv_room (Nat.le_of_ble_eq_true rfl)) dX8_ranked_1 ⟨Nat.zero_le _, Nat.zero_le _⟩) (fun u_1 H locs hw hP hD hS => ?_)
  obtain ⟨hf_3, rfl⟩ := hw
  have hP : va_P (dC, dI) vwCl (wD_60 h cs qI_75 fL fA fQ fG fJ) H := hP
  have hD : va_D A0 (wD_60 h cs qI_75 fL fA fQ fG fJ) := hD
  refine lv_aload_n hx hb dX8_ranked_4 rfl (lv_at hl 0 rfl) ?_
  refine xj_v (wc := (wD_60 h cs qI_75 fL fA fQ fG fJ)) (wr := ([] : va_W)) hP hD hS hA [0, 1, 2, 3, 4, 5, 6, 7, 8, 9, 10, 11] [] rfl rfl (by decide) (by decide) (va_runV (As := []) (rest := []) ⟨hx, hb, hml, hown, hts⟩ (a_X8_sortByOff_76 l dC dI h cs H.size qI_75 fL fA fQ fG fJ ) (cwV 0 hts gX8_ranked_X8_sortByOff rfl rfl rfl (by decide +kernel) ⟨Nat.le_of_ble_eq_true rfl, Nat.le_of_ble_eq_true rfl⟩) (xpV (wc := (wD_60 h cs qI_75 fL fA fQ fG fJ)) hP hD hK hN [0, 1, 2, 3, 4, 5, 6, 7, 8, 9, 10, 11] rfl (by decide) 0 (ci := 8) rfl rfl _) rfl rfl hl.1 rfl (lv_room (Nat.le_of_ble_eq_true rfl)) dX8_ranked_5 ⟨Nat.zero_le _, Nat.zero_le _⟩) (fun u_4 H locs hw hP hD hS => ?_)
  obtain ⟨hf_6, rfl⟩ := hw
  have hP : va_P (dC, dI) vwCl (wD_60 h cs qI_85 fL qA_83 fQ fG fJ) H := hP
  have hD : va_D A0 (wD_60 h cs qI_85 fL qA_83 fQ fG fJ) := hD
  refine lv_aload_n hx hb dX8_ranked_8 rfl (lv_at hl 0 rfl) ?_
  refine va_get (D := (dC, dI)) (ci := 8) (v := .ref (h 171)) (C := RX8) (T := TX8) (N := 6) hx hb hts hinX8 hown hK hP 0 rfl rfl 2 (by decide) (hts (.fieldLink RX8 15 "MixedWords$Words" "byOff" "[I") (by decide +kernel)) (fun _ h9 => h9) rfl dX8_ranked_9 ?_
  refine lv_iload_n hx hb dX8_ranked_12 rfl (lv_at hl 1 rfl) ?_
  refine xa_iald hx hb hK hP 10 0 rfl rfl (by omega) (by decide) dX8_ranked_13 ?_
  refine xt_i (y := nI 3) (by decide +kernel) ?_
  exact xr_i (v := (nI 3)) hx hb hr hlocks hK hS dX8_ranked_14 (qI_85, fL, qA_83, fQ, fG, fJ) ⟨rfl, rfl⟩ hP hD
set_option maxRecDepth 20000 in
theorem ggX9_nearest_X3_wordCount : GoodIn wsX9_nearest wsX3_wordCount := goodIn_r _ [7, 8, 9, 10, 11, 6, 12, 13, 70, 71, 72, 73, 74, 75] (by decide +kernel) (by decide +kernel)
set_option maxRecDepth 20000 in
theorem gX9_nearest_X3_wordCount : GoodIn wsX9_nearest (wsV RX9 156 RX3 yX3_wordCount wsX3_wordCount) := goodIn_app (goodIn_of _ (by decide +kernel)) ggX9_nearest_X3_wordCount
set_option maxRecDepth 20000 in
theorem ggX9_nearest_X8_ranked : GoodIn wsX9_nearest wsX8_ranked := goodIn_r _ [18, 19, 20, 21, 22, 17, 23, 24, 25, 26, 27, 28, 4, 5, 6, 7, 8, 9, 10, 11, 12, 13, 29, 30, 31, 32, 33, 34, 35, 36, 37, 38, 39, 40, 41, 42, 43, 44, 45, 46, 47, 48, 49, 50, 51, 52, 53, 54, 55, 56, 57, 58, 59, 60, 76, 77, 78, 79, 80, 81, 70, 71, 72, 73, 74, 75] (by decide +kernel) (by decide +kernel)
set_option maxRecDepth 20000 in
theorem gX9_nearest_X8_ranked : GoodIn wsX9_nearest (wsV RX9 163 RX8 yX8_ranked wsX8_ranked) := goodIn_app (goodIn_of _ (by decide +kernel)) ggX9_nearest_X8_ranked
theorem dX9_nearest_0 : decode cX9_nearest 0 = .ok (.iload_n 1, 1) := by decide +kernel
theorem dX9_nearest_1 : decode cX9_nearest 1 = .ok (.ifCond .lt 14, 3) := by decide +kernel
theorem dX9_nearest_4 : decode cX9_nearest 4 = .ok (.iload_n 1, 1) := by decide +kernel
theorem dX9_nearest_5 : decode cX9_nearest 5 = .ok (.aload_n 0, 1) := by decide +kernel
theorem dX9_nearest_6 : decode cX9_nearest 6 = .ok (.getfield 12, 3) := by decide +kernel
theorem dX9_nearest_9 : decode cX9_nearest 9 = .ok (.invokevirtual 156, 3) := by decide +kernel
theorem dX9_nearest_12 : decode cX9_nearest 12 = .ok (.if_icmp .lt 7, 3) := by decide +kernel
theorem dX9_nearest_15 : decode cX9_nearest 15 = .ok (.iconst (-1), 1) := by decide +kernel
theorem dX9_nearest_16 : decode cX9_nearest 16 = .ok (.goto 11, 3) := by decide +kernel
theorem dX9_nearest_19 : decode cX9_nearest 19 = .ok (.aload_n 0, 1) := by decide +kernel
theorem dX9_nearest_20 : decode cX9_nearest 20 = .ok (.getfield 44, 3) := by decide +kernel
theorem dX9_nearest_23 : decode cX9_nearest 23 = .ok (.iload_n 1, 1) := by decide +kernel
theorem dX9_nearest_24 : decode cX9_nearest 24 = .ok (.invokevirtual 163, 3) := by decide +kernel
theorem dX9_nearest_27 : decode cX9_nearest 27 = .ok (.ireturn, 1) := by decide +kernel
set_option maxHeartbeats 4000000 in
set_option maxRecDepth 100000 in
theorem f_X9_nearest (l : Launch) (dC : Nat → ClassId) (dI : Nat → Nat → Nat) (h : Nat → Nat) (cs : Nat → ClassId) (sz : Nat) (I : Nat → Int32) (L : Nat → Int64) (A : Nat → Nat → Int32) (Q : Nat → Nat → Int64) (G : Nat → Nat → Nat → Int32) (J : Nat → Nat → Nat → Int64) (x : Int32) : Met l yX9_nearest wsX9_nearest ({ frames := 5, cells := 0, slots := 0, locals := 109 }) (va_Pc [.ref (h 100), .int x] (xPre (dC, dI) (wAll h cs fI fL fA fQ fG fJ) (tysA cs) sz)) (va_Qi (fun (r : Int32) (u : CS) => ∃ zi9 : Nat → Int32, ∃ za9 : Nat → Nat → Int32, (r = an_nearest x) ∧ u = (zi9, fL, za9, fQ, fG, fJ)) (xB (dC, dI) (tysA cs) (va_A (wAll h cs fI fL fA fQ fG fJ) sz) (fun u : CS => wAll h cs u.1 u.2.1 u.2.2.1 u.2.2.2.1 u.2.2.2.2.1 u.2.2.2.2.2)) (va_A (wAll h cs fI fL fA fQ fG fJ) sz)) 0 0 (va_A (wAll h cs fI fL fA fQ fG fJ) sz) := by
  refine Met.ofW (cc := cX9_nearest) (maxL := 2) (ret := (some .int)) (by decide) rfl ?_
  intro p e s m args below meth c s₁ B hml hv
  obtain ⟨rfl, hsz, hP, hK, hD0, hN⟩ := hv
  have hx := B.exec
  have hb := B.bytes
  have hr := B.returns
  have hts := atoms_spec (ws := wsX9_nearest) B.pre
  have hown : s.vm.findClass RX9 = some m.cls := findClass_of_methodNamed B.named
  have hlocks := B.notSynchronized
  subst hsz
  have hD := hD0.self (sz := s.heap.size)
  generalize hAe : va_A (wAll h cs fI fL fA fQ fG fJ) s.heap.size = A0 at hD ⊢
  have hA : ∀ q : Nat, s.heap.size ≤ q → A0 q := fun q h => by rw [← hAe]; exact Or.inr h
  have hl := lv_entry ([.ref (h 100), .int x]) (n := 2) (Nat.le_of_ble_eq_true rfl)
  rw [lg_entry_eq]
  generalize (lg_sl ([.ref (h 100), .int x]) ++ List.replicate (2 - (lg_sl ([.ref (h 100), .int x])).length) Slot.unset).toArray = ls at hl ⊢
  have hl : lv_has ls 2 [(0, .ref (h 100)), (1, .int x)] := hl
  generalize hH : s.heap = H at hP ⊢
  have hS : va_S A0 s.heap H [] := by rw [← hH]; exact va_S.rf
  have hinX9 : ∀ w ∈ wsX90, w ∈ wsX9_nearest := by decide +kernel
  rcases splR x 0 3 (by decide) with ⟨i_x, h_x, g_x, rfl⟩ | hz_x
  · skip
    rcases (show i_x = 0 ∨ i_x = 1 ∨ i_x = 2 ∨ i_x = 3 by omega) with rfl | rfl | rfl | rfl
    · skip
      refine lv_iload_n hx hb dX9_nearest_0 rfl (lv_at hl 1 rfl) ?_
      refine lv_if_lt (tgt := 15) hx hb dX9_nearest_1 (by decide) (fun c9 => False.elim (by revert c9; decide +kernel)) (fun _ => ?_)
      refine lv_iload_n hx hb dX9_nearest_4 rfl (lv_at hl 1 rfl) ?_
      refine lv_aload_n hx hb dX9_nearest_5 rfl (lv_at hl 0 rfl) ?_
      refine va_get (D := (dC, dI)) (ci := 9) (v := .ref (h 101)) (C := RX9) (T := TX9) (N := 9) hx hb hts hinX9 hown hK hP 0 rfl rfl 0 (by decide) (hts (.fieldLink RX9 12 "MixedWords" "mix" "LMixedWords$Mix;") (by decide +kernel)) (fun _ h9 => h9) rfl dX9_nearest_6 ?_
      refine xj_i (wc := (wD_32 h cs fI fL fA fQ fG fJ)) (wr := [(h 100, .inr (9, [.ref (h 101), .ref (h 102), .ref (h 103), .ref (h 104), .ref (h 105), .ref (h 106), .ref (h 107), .ref (h 108), .ref (h 109)])), (h 102, .inr (0, [.ref (h 101), .ref (h 140), .ref (h 141), .ref (h 142), .ref (h 143), .int (fI 144), .int (fI 145), .int (fI 146)])), (h 140, .inl (cs 0, 40, .inl (fA 140))), (h 141, .inl (cs 0, 40, .inl (fA 141))), (h 142, .inl (cs 0, 40, .inl (fA 142))), (h 143, .inl (cs 0, 40, .inl (fA 143))), (h 103, .inr (7, [.ref (h 150), .int (fI 151)])), (h 150, .inl (cs 2, 90, .inl (fA 150))), (h 104, .inr (4, [.ref (h 103), .ref (h 160), .int (fI 166), .int (fI 167), .int (fI 168), .int (fI 169)])), (h 160, .inl (cs 3, 5, .inr (.inr (.inr (.inr (fun i => if i < 5 then some (h (i + 161)) else none)))))), (h 161, .inl (cs 0, 4, .inl ((fG 1) 0))), (h 162, .inl (cs 0, 4, .inl ((fG 1) 1))), (h 163, .inl (cs 0, 4, .inl ((fG 1) 2))), (h 164, .inl (cs 0, 4, .inl ((fG 1) 3))), (h 165, .inl (cs 0, 4, .inl ((fG 1) 4))), (h 105, .inr (8, [.ref (h 101), .ref (h 170), .ref (h 171), .ref (h 172), .int (fI 173), .int (fI 174)])), (h 170, .inl (cs 0, 256, .inl (fA 170))), (h 171, .inl (cs 0, 256, .inl (fA 171))), (h 172, .inl (cs 0, 256, .inl (fA 172))), (h 106, .inr (2, [.ref (h 180), .ref (h 185), .ref (h 186), .ref (h 187), .long (fL 188)])), (h 180, .inl (cs 4, 4, .inr (.inr (.inr (.inr (fun i => if i < 4 then some (h (i + 181)) else none)))))), (h 181, .inl (cs 1, 4, .inr (.inl ((fJ 0) 0)))), (h 182, .inl (cs 1, 4, .inr (.inl ((fJ 0) 1)))), (h 183, .inl (cs 1, 4, .inr (.inl ((fJ 0) 2)))), (h 184, .inl (cs 1, 4, .inr (.inl ((fJ 0) 3)))), (h 185, .inl (cs 1, 4, .inr (.inl (fQ 185)))), (h 186, .inl (cs 0, 4, .inl (fA 186))), (h 187, .inl (cs 1, 4, .inr (.inl (fQ 187)))), (h 107, .inr (6, [.ref (h 101), .ref (h 190), .ref (h 191), .ref (h 192)])), (h 190, .inl (cs 0, 5, .inl (fA 190))), (h 191, .inl (cs 0, 4, .inl (fA 191))), (h 192, .inl (cs 0, 4, .inl (fA 192))), (h 108, .inr (1, [.ref (h 101), .ref (h 200), .ref (h 206), .ref (h 211), .int (fI 212), .int (fI 213)])), (h 200, .inl (cs 3, 5, .inr (.inr (.inr (.inr (fun i => if i < 5 then some (h (i + 201)) else none)))))), (h 201, .inl (cs 0, 4, .inl ((fG 2) 0))), (h 202, .inl (cs 0, 4, .inl ((fG 2) 1))), (h 203, .inl (cs 0, 4, .inl ((fG 2) 2))), (h 204, .inl (cs 0, 4, .inl ((fG 2) 3))), (h 205, .inl (cs 0, 4, .inl ((fG 2) 4))), (h 206, .inl (cs 3, 4, .inr (.inr (.inr (.inr (fun i => if i < 4 then some (h (i + 207)) else none)))))), (h 207, .inl (cs 0, 4, .inl ((fG 3) 0))), (h 208, .inl (cs 0, 4, .inl ((fG 3) 1))), (h 209, .inl (cs 0, 4, .inl ((fG 3) 2))), (h 210, .inl (cs 0, 4, .inl ((fG 3) 3))), (h 211, .inl (cs 0, 5, .inl (fA 211))), (h 109, .inl (cs 5, 4, .inr (.inr (.inr (.inr (fun i => if i < 4 then some (h (i + 110)) else none)))))), (h 110, .inr (5, [.int (fI 220), .int (fI 224), .ref (h 228)])), (h 228, .inl (cs 1, 25, .inr (.inl (fQ 228)))), (h 111, .inr (5, [.int (fI 221), .int (fI 225), .ref (h 229)])), (h 229, .inl (cs 1, 25, .inr (.inl (fQ 229)))), (h 112, .inr (5, [.int (fI 222), .int (fI 226), .ref (h 230)])), (h 230, .inl (cs 1, 25, .inr (.inl (fQ 230)))), (h 113, .inr (5, [.int (fI 223), .int (fI 227), .ref (h 231)])), (h 231, .inl (cs 1, 25, .inr (.inl (fQ 231))))]) hP hD hS hA [1, 2, 3, 4, 5, 6, 7, 8] [0, 9, 10, 11, 12, 13, 14, 15, 16, 17, 18, 19, 20, 21, 22, 23, 24, 25, 26, 27, 28, 29, 30, 31, 32, 33, 34, 35, 36, 37, 38, 39, 40, 41, 42, 43, 44, 45, 46, 47, 48, 49, 50, 51, 52, 53, 54, 55, 56, 57, 58, 59, 60, 61] rfl rfl (by decide) (by decide) (va_runV (As := []) (rest := [.int (nI 0)]) ⟨hx, hb, hml, hown, hts⟩ (a_X3_wordCount_58 l dC dI h cs H.size fI fL fA fQ fG fJ ) (cwV 0 hts gX9_nearest_X3_wordCount rfl rfl rfl (by decide +kernel) ⟨Nat.le_of_ble_eq_true rfl, Nat.le_of_ble_eq_true rfl⟩) (xpV (wc := (wD_32 h cs fI fL fA fQ fG fJ)) hP hD hK hN [1, 2, 3, 4, 5, 6, 7, 8] rfl (by decide) 1 (ci := 3) rfl rfl _) rfl rfl hl.1 rfl (lv_room (Nat.le_of_ble_eq_true rfl)) dX9_nearest_9 ⟨Nat.zero_le _, Nat.zero_le _⟩) (fun r_2 u_1 H locs hw hP hD hS => ?_)
      obtain ⟨hf_3, rfl⟩ := hw
      have hP : va_P (dC, dI) vwCl (wAll h cs fI fL fA fQ fG fJ) H := xP_sub hP [0, 54, 55, 56, 57, 58, 59, 60, 61, 1, 2, 3, 4, 5, 6, 7, 8, 9, 10, 11, 12, 13, 14, 15, 16, 17, 18, 19, 20, 21, 22, 23, 24, 25, 26, 27, 28, 29, 30, 31, 32, 33, 34, 35, 36, 37, 38, 39, 40, 41, 42, 43, 44, 45, 46, 47, 48, 49, 50, 51, 52, 53] rfl
      have hD : va_D A0 (wAll h cs fI fL fA fQ fG fJ) := hD.sub [0, 54, 55, 56, 57, 58, 59, 60, 61, 1, 2, 3, 4, 5, 6, 7, 8, 9, 10, 11, 12, 13, 14, 15, 16, 17, 18, 19, 20, 21, 22, 23, 24, 25, 26, 27, 28, 29, 30, 31, 32, 33, 34, 35, 36, 37, 38, 39, 40, 41, 42, 43, 44, 45, 46, 47, 48, 49, 50, 51, 52, 53] (by decide) rfl
      obtain rfl := hf_3
      refine lv_icmp_lt (tgt := 19) hx hb dX9_nearest_12 (by decide) (fun _ => ?_) (fun c9 => False.elim (by revert c9; decide +kernel))
      refine lv_aload_n hx hb dX9_nearest_19 rfl (lv_at hl 0 rfl) ?_
      refine va_get (D := (dC, dI)) (ci := 9) (v := .ref (h 105)) (C := RX9) (T := TX9) (N := 9) hx hb hts hinX9 hown hK hP 0 rfl rfl 4 (by decide) (hts (.fieldLink RX9 44 "MixedWords" "words" "LMixedWords$Words;") (by decide +kernel)) (fun _ h9 => h9) rfl dX9_nearest_20 ?_
      refine lv_iload_n hx hb dX9_nearest_23 rfl (lv_at hl 1 rfl) ?_
      refine xj_i (wc := (wD_60 h cs fI fL fA fQ fG fJ)) (wr := [(h 100, .inr (9, [.ref (h 101), .ref (h 102), .ref (h 103), .ref (h 104), .ref (h 105), .ref (h 106), .ref (h 107), .ref (h 108), .ref (h 109)])), (h 102, .inr (0, [.ref (h 101), .ref (h 140), .ref (h 141), .ref (h 142), .ref (h 143), .int (fI 144), .int (fI 145), .int (fI 146)])), (h 140, .inl (cs 0, 40, .inl (fA 140))), (h 141, .inl (cs 0, 40, .inl (fA 141))), (h 142, .inl (cs 0, 40, .inl (fA 142))), (h 143, .inl (cs 0, 40, .inl (fA 143))), (h 103, .inr (7, [.ref (h 150), .int (fI 151)])), (h 150, .inl (cs 2, 90, .inl (fA 150))), (h 104, .inr (4, [.ref (h 103), .ref (h 160), .int (fI 166), .int (fI 167), .int (fI 168), .int (fI 169)])), (h 160, .inl (cs 3, 5, .inr (.inr (.inr (.inr (fun i => if i < 5 then some (h (i + 161)) else none)))))), (h 161, .inl (cs 0, 4, .inl ((fG 1) 0))), (h 162, .inl (cs 0, 4, .inl ((fG 1) 1))), (h 163, .inl (cs 0, 4, .inl ((fG 1) 2))), (h 164, .inl (cs 0, 4, .inl ((fG 1) 3))), (h 165, .inl (cs 0, 4, .inl ((fG 1) 4))), (h 106, .inr (2, [.ref (h 180), .ref (h 185), .ref (h 186), .ref (h 187), .long (fL 188)])), (h 180, .inl (cs 4, 4, .inr (.inr (.inr (.inr (fun i => if i < 4 then some (h (i + 181)) else none)))))), (h 181, .inl (cs 1, 4, .inr (.inl ((fJ 0) 0)))), (h 182, .inl (cs 1, 4, .inr (.inl ((fJ 0) 1)))), (h 183, .inl (cs 1, 4, .inr (.inl ((fJ 0) 2)))), (h 184, .inl (cs 1, 4, .inr (.inl ((fJ 0) 3)))), (h 185, .inl (cs 1, 4, .inr (.inl (fQ 185)))), (h 186, .inl (cs 0, 4, .inl (fA 186))), (h 187, .inl (cs 1, 4, .inr (.inl (fQ 187)))), (h 107, .inr (6, [.ref (h 101), .ref (h 190), .ref (h 191), .ref (h 192)])), (h 190, .inl (cs 0, 5, .inl (fA 190))), (h 191, .inl (cs 0, 4, .inl (fA 191))), (h 192, .inl (cs 0, 4, .inl (fA 192))), (h 108, .inr (1, [.ref (h 101), .ref (h 200), .ref (h 206), .ref (h 211), .int (fI 212), .int (fI 213)])), (h 200, .inl (cs 3, 5, .inr (.inr (.inr (.inr (fun i => if i < 5 then some (h (i + 201)) else none)))))), (h 201, .inl (cs 0, 4, .inl ((fG 2) 0))), (h 202, .inl (cs 0, 4, .inl ((fG 2) 1))), (h 203, .inl (cs 0, 4, .inl ((fG 2) 2))), (h 204, .inl (cs 0, 4, .inl ((fG 2) 3))), (h 205, .inl (cs 0, 4, .inl ((fG 2) 4))), (h 206, .inl (cs 3, 4, .inr (.inr (.inr (.inr (fun i => if i < 4 then some (h (i + 207)) else none)))))), (h 207, .inl (cs 0, 4, .inl ((fG 3) 0))), (h 208, .inl (cs 0, 4, .inl ((fG 3) 1))), (h 209, .inl (cs 0, 4, .inl ((fG 3) 2))), (h 210, .inl (cs 0, 4, .inl ((fG 3) 3))), (h 211, .inl (cs 0, 5, .inl (fA 211))), (h 109, .inl (cs 5, 4, .inr (.inr (.inr (.inr (fun i => if i < 4 then some (h (i + 110)) else none)))))), (h 110, .inr (5, [.int (fI 220), .int (fI 224), .ref (h 228)])), (h 228, .inl (cs 1, 25, .inr (.inl (fQ 228)))), (h 111, .inr (5, [.int (fI 221), .int (fI 225), .ref (h 229)])), (h 229, .inl (cs 1, 25, .inr (.inl (fQ 229)))), (h 112, .inr (5, [.int (fI 222), .int (fI 226), .ref (h 230)])), (h 230, .inl (cs 1, 25, .inr (.inl (fQ 230)))), (h 113, .inr (5, [.int (fI 223), .int (fI 227), .ref (h 231)])), (h 231, .inl (cs 1, 25, .inr (.inl (fQ 231))))]) hP hD hS hA [23, 1, 2, 3, 4, 5, 6, 7, 8, 24, 25, 26] [0, 9, 10, 11, 12, 13, 14, 15, 16, 17, 18, 19, 20, 21, 22, 27, 28, 29, 30, 31, 32, 33, 34, 35, 36, 37, 38, 39, 40, 41, 42, 43, 44, 45, 46, 47, 48, 49, 50, 51, 52, 53, 54, 55, 56, 57, 58, 59, 60, 61] rfl rfl (by decide) (by decide) (va_runV (As := [.int (nI 0)]) (rest := []) ⟨hx, hb, hml, hown, hts⟩ (a_X8_ranked_73 l dC dI h cs H.size fI fL fA fQ fG fJ ) (cwV 1 hts gX9_nearest_X8_ranked rfl rfl rfl (by decide +kernel) ⟨Nat.le_of_ble_eq_true rfl, Nat.le_of_ble_eq_true rfl⟩) (xpV (wc := (wD_60 h cs fI fL fA fQ fG fJ)) hP hD hK hN [23, 1, 2, 3, 4, 5, 6, 7, 8, 24, 25, 26] rfl (by decide) 23 (ci := 8) rfl rfl _) rfl rfl hl.1 rfl (lv_room (Nat.le_of_ble_eq_true rfl)) dX9_nearest_24 ⟨Nat.zero_le _, Nat.zero_le _⟩) (fun r_5 u_4 H locs hw hP hD hS => ?_)
      obtain ⟨hf_6, rfl⟩ := hw
      have hP : va_P (dC, dI) vwCl (wAll h cs qI_85 fL qA_83 fQ fG fJ) H := xP_sub hP [0, 51, 52, 53, 54, 55, 56, 57, 58, 1, 2, 3, 4, 5, 6, 7, 8, 9, 10, 11, 12, 13, 14, 50, 59, 60, 61, 15, 16, 17, 18, 19, 20, 21, 22, 23, 24, 25, 26, 27, 28, 29, 30, 31, 32, 33, 34, 35, 36, 37, 38, 39, 40, 41, 42, 43, 44, 45, 46, 47, 48, 49] rfl
      have hD : va_D A0 (wAll h cs qI_85 fL qA_83 fQ fG fJ) := hD.sub [0, 51, 52, 53, 54, 55, 56, 57, 58, 1, 2, 3, 4, 5, 6, 7, 8, 9, 10, 11, 12, 13, 14, 50, 59, 60, 61, 15, 16, 17, 18, 19, 20, 21, 22, 23, 24, 25, 26, 27, 28, 29, 30, 31, 32, 33, 34, 35, 36, 37, 38, 39, 40, 41, 42, 43, 44, 45, 46, 47, 48, 49] (by decide) rfl
      obtain rfl := hf_6
      exact xr_i (v := (nI 0)) hx hb hr hlocks hK hS dX9_nearest_27 (qI_85, fL, qA_83, fQ, fG, fJ) ⟨qI_85, qA_83, (by decide +kernel), rfl⟩ hP hD
    · skip
      refine lv_iload_n hx hb dX9_nearest_0 rfl (lv_at hl 1 rfl) ?_
      refine lv_if_lt (tgt := 15) hx hb dX9_nearest_1 (by decide) (fun c9 => False.elim (by revert c9; decide +kernel)) (fun _ => ?_)
      refine lv_iload_n hx hb dX9_nearest_4 rfl (lv_at hl 1 rfl) ?_
      refine lv_aload_n hx hb dX9_nearest_5 rfl (lv_at hl 0 rfl) ?_
      refine va_get (D := (dC, dI)) (ci := 9) (v := .ref (h 101)) (C := RX9) (T := TX9) (N := 9) hx hb hts hinX9 hown hK hP 0 rfl rfl 0 (by decide) (hts (.fieldLink RX9 12 "MixedWords" "mix" "LMixedWords$Mix;") (by decide +kernel)) (fun _ h9 => h9) rfl dX9_nearest_6 ?_
      refine xj_i (wc := (wD_32 h cs fI fL fA fQ fG fJ)) (wr := [(h 100, .inr (9, [.ref (h 101), .ref (h 102), .ref (h 103), .ref (h 104), .ref (h 105), .ref (h 106), .ref (h 107), .ref (h 108), .ref (h 109)])), (h 102, .inr (0, [.ref (h 101), .ref (h 140), .ref (h 141), .ref (h 142), .ref (h 143), .int (fI 144), .int (fI 145), .int (fI 146)])), (h 140, .inl (cs 0, 40, .inl (fA 140))), (h 141, .inl (cs 0, 40, .inl (fA 141))), (h 142, .inl (cs 0, 40, .inl (fA 142))), (h 143, .inl (cs 0, 40, .inl (fA 143))), (h 103, .inr (7, [.ref (h 150), .int (fI 151)])), (h 150, .inl (cs 2, 90, .inl (fA 150))), (h 104, .inr (4, [.ref (h 103), .ref (h 160), .int (fI 166), .int (fI 167), .int (fI 168), .int (fI 169)])), (h 160, .inl (cs 3, 5, .inr (.inr (.inr (.inr (fun i => if i < 5 then some (h (i + 161)) else none)))))), (h 161, .inl (cs 0, 4, .inl ((fG 1) 0))), (h 162, .inl (cs 0, 4, .inl ((fG 1) 1))), (h 163, .inl (cs 0, 4, .inl ((fG 1) 2))), (h 164, .inl (cs 0, 4, .inl ((fG 1) 3))), (h 165, .inl (cs 0, 4, .inl ((fG 1) 4))), (h 105, .inr (8, [.ref (h 101), .ref (h 170), .ref (h 171), .ref (h 172), .int (fI 173), .int (fI 174)])), (h 170, .inl (cs 0, 256, .inl (fA 170))), (h 171, .inl (cs 0, 256, .inl (fA 171))), (h 172, .inl (cs 0, 256, .inl (fA 172))), (h 106, .inr (2, [.ref (h 180), .ref (h 185), .ref (h 186), .ref (h 187), .long (fL 188)])), (h 180, .inl (cs 4, 4, .inr (.inr (.inr (.inr (fun i => if i < 4 then some (h (i + 181)) else none)))))), (h 181, .inl (cs 1, 4, .inr (.inl ((fJ 0) 0)))), (h 182, .inl (cs 1, 4, .inr (.inl ((fJ 0) 1)))), (h 183, .inl (cs 1, 4, .inr (.inl ((fJ 0) 2)))), (h 184, .inl (cs 1, 4, .inr (.inl ((fJ 0) 3)))), (h 185, .inl (cs 1, 4, .inr (.inl (fQ 185)))), (h 186, .inl (cs 0, 4, .inl (fA 186))), (h 187, .inl (cs 1, 4, .inr (.inl (fQ 187)))), (h 107, .inr (6, [.ref (h 101), .ref (h 190), .ref (h 191), .ref (h 192)])), (h 190, .inl (cs 0, 5, .inl (fA 190))), (h 191, .inl (cs 0, 4, .inl (fA 191))), (h 192, .inl (cs 0, 4, .inl (fA 192))), (h 108, .inr (1, [.ref (h 101), .ref (h 200), .ref (h 206), .ref (h 211), .int (fI 212), .int (fI 213)])), (h 200, .inl (cs 3, 5, .inr (.inr (.inr (.inr (fun i => if i < 5 then some (h (i + 201)) else none)))))), (h 201, .inl (cs 0, 4, .inl ((fG 2) 0))), (h 202, .inl (cs 0, 4, .inl ((fG 2) 1))), (h 203, .inl (cs 0, 4, .inl ((fG 2) 2))), (h 204, .inl (cs 0, 4, .inl ((fG 2) 3))), (h 205, .inl (cs 0, 4, .inl ((fG 2) 4))), (h 206, .inl (cs 3, 4, .inr (.inr (.inr (.inr (fun i => if i < 4 then some (h (i + 207)) else none)))))), (h 207, .inl (cs 0, 4, .inl ((fG 3) 0))), (h 208, .inl (cs 0, 4, .inl ((fG 3) 1))), (h 209, .inl (cs 0, 4, .inl ((fG 3) 2))), (h 210, .inl (cs 0, 4, .inl ((fG 3) 3))), (h 211, .inl (cs 0, 5, .inl (fA 211))), (h 109, .inl (cs 5, 4, .inr (.inr (.inr (.inr (fun i => if i < 4 then some (h (i + 110)) else none)))))), (h 110, .inr (5, [.int (fI 220), .int (fI 224), .ref (h 228)])), (h 228, .inl (cs 1, 25, .inr (.inl (fQ 228)))), (h 111, .inr (5, [.int (fI 221), .int (fI 225), .ref (h 229)])), (h 229, .inl (cs 1, 25, .inr (.inl (fQ 229)))), (h 112, .inr (5, [.int (fI 222), .int (fI 226), .ref (h 230)])), (h 230, .inl (cs 1, 25, .inr (.inl (fQ 230)))), (h 113, .inr (5, [.int (fI 223), .int (fI 227), .ref (h 231)])), (h 231, .inl (cs 1, 25, .inr (.inl (fQ 231))))]) hP hD hS hA [1, 2, 3, 4, 5, 6, 7, 8] [0, 9, 10, 11, 12, 13, 14, 15, 16, 17, 18, 19, 20, 21, 22, 23, 24, 25, 26, 27, 28, 29, 30, 31, 32, 33, 34, 35, 36, 37, 38, 39, 40, 41, 42, 43, 44, 45, 46, 47, 48, 49, 50, 51, 52, 53, 54, 55, 56, 57, 58, 59, 60, 61] rfl rfl (by decide) (by decide) (va_runV (As := []) (rest := [.int (nI 1)]) ⟨hx, hb, hml, hown, hts⟩ (a_X3_wordCount_58 l dC dI h cs H.size fI fL fA fQ fG fJ ) (cwV 0 hts gX9_nearest_X3_wordCount rfl rfl rfl (by decide +kernel) ⟨Nat.le_of_ble_eq_true rfl, Nat.le_of_ble_eq_true rfl⟩) (xpV (wc := (wD_32 h cs fI fL fA fQ fG fJ)) hP hD hK hN [1, 2, 3, 4, 5, 6, 7, 8] rfl (by decide) 1 (ci := 3) rfl rfl _) rfl rfl hl.1 rfl (lv_room (Nat.le_of_ble_eq_true rfl)) dX9_nearest_9 ⟨Nat.zero_le _, Nat.zero_le _⟩) (fun r_8 u_7 H locs hw hP hD hS => ?_)
      obtain ⟨hf_9, rfl⟩ := hw
      have hP : va_P (dC, dI) vwCl (wAll h cs fI fL fA fQ fG fJ) H := xP_sub hP [0, 54, 55, 56, 57, 58, 59, 60, 61, 1, 2, 3, 4, 5, 6, 7, 8, 9, 10, 11, 12, 13, 14, 15, 16, 17, 18, 19, 20, 21, 22, 23, 24, 25, 26, 27, 28, 29, 30, 31, 32, 33, 34, 35, 36, 37, 38, 39, 40, 41, 42, 43, 44, 45, 46, 47, 48, 49, 50, 51, 52, 53] rfl
      have hD : va_D A0 (wAll h cs fI fL fA fQ fG fJ) := hD.sub [0, 54, 55, 56, 57, 58, 59, 60, 61, 1, 2, 3, 4, 5, 6, 7, 8, 9, 10, 11, 12, 13, 14, 15, 16, 17, 18, 19, 20, 21, 22, 23, 24, 25, 26, 27, 28, 29, 30, 31, 32, 33, 34, 35, 36, 37, 38, 39, 40, 41, 42, 43, 44, 45, 46, 47, 48, 49, 50, 51, 52, 53] (by decide) rfl
      obtain rfl := hf_9
      refine lv_icmp_lt (tgt := 19) hx hb dX9_nearest_12 (by decide) (fun _ => ?_) (fun c9 => False.elim (by revert c9; decide +kernel))
      refine lv_aload_n hx hb dX9_nearest_19 rfl (lv_at hl 0 rfl) ?_
      refine va_get (D := (dC, dI)) (ci := 9) (v := .ref (h 105)) (C := RX9) (T := TX9) (N := 9) hx hb hts hinX9 hown hK hP 0 rfl rfl 4 (by decide) (hts (.fieldLink RX9 44 "MixedWords" "words" "LMixedWords$Words;") (by decide +kernel)) (fun _ h9 => h9) rfl dX9_nearest_20 ?_
      refine lv_iload_n hx hb dX9_nearest_23 rfl (lv_at hl 1 rfl) ?_
      refine xj_i (wc := (wD_60 h cs fI fL fA fQ fG fJ)) (wr := [(h 100, .inr (9, [.ref (h 101), .ref (h 102), .ref (h 103), .ref (h 104), .ref (h 105), .ref (h 106), .ref (h 107), .ref (h 108), .ref (h 109)])), (h 102, .inr (0, [.ref (h 101), .ref (h 140), .ref (h 141), .ref (h 142), .ref (h 143), .int (fI 144), .int (fI 145), .int (fI 146)])), (h 140, .inl (cs 0, 40, .inl (fA 140))), (h 141, .inl (cs 0, 40, .inl (fA 141))), (h 142, .inl (cs 0, 40, .inl (fA 142))), (h 143, .inl (cs 0, 40, .inl (fA 143))), (h 103, .inr (7, [.ref (h 150), .int (fI 151)])), (h 150, .inl (cs 2, 90, .inl (fA 150))), (h 104, .inr (4, [.ref (h 103), .ref (h 160), .int (fI 166), .int (fI 167), .int (fI 168), .int (fI 169)])), (h 160, .inl (cs 3, 5, .inr (.inr (.inr (.inr (fun i => if i < 5 then some (h (i + 161)) else none)))))), (h 161, .inl (cs 0, 4, .inl ((fG 1) 0))), (h 162, .inl (cs 0, 4, .inl ((fG 1) 1))), (h 163, .inl (cs 0, 4, .inl ((fG 1) 2))), (h 164, .inl (cs 0, 4, .inl ((fG 1) 3))), (h 165, .inl (cs 0, 4, .inl ((fG 1) 4))), (h 106, .inr (2, [.ref (h 180), .ref (h 185), .ref (h 186), .ref (h 187), .long (fL 188)])), (h 180, .inl (cs 4, 4, .inr (.inr (.inr (.inr (fun i => if i < 4 then some (h (i + 181)) else none)))))), (h 181, .inl (cs 1, 4, .inr (.inl ((fJ 0) 0)))), (h 182, .inl (cs 1, 4, .inr (.inl ((fJ 0) 1)))), (h 183, .inl (cs 1, 4, .inr (.inl ((fJ 0) 2)))), (h 184, .inl (cs 1, 4, .inr (.inl ((fJ 0) 3)))), (h 185, .inl (cs 1, 4, .inr (.inl (fQ 185)))), (h 186, .inl (cs 0, 4, .inl (fA 186))), (h 187, .inl (cs 1, 4, .inr (.inl (fQ 187)))), (h 107, .inr (6, [.ref (h 101), .ref (h 190), .ref (h 191), .ref (h 192)])), (h 190, .inl (cs 0, 5, .inl (fA 190))), (h 191, .inl (cs 0, 4, .inl (fA 191))), (h 192, .inl (cs 0, 4, .inl (fA 192))), (h 108, .inr (1, [.ref (h 101), .ref (h 200), .ref (h 206), .ref (h 211), .int (fI 212), .int (fI 213)])), (h 200, .inl (cs 3, 5, .inr (.inr (.inr (.inr (fun i => if i < 5 then some (h (i + 201)) else none)))))), (h 201, .inl (cs 0, 4, .inl ((fG 2) 0))), (h 202, .inl (cs 0, 4, .inl ((fG 2) 1))), (h 203, .inl (cs 0, 4, .inl ((fG 2) 2))), (h 204, .inl (cs 0, 4, .inl ((fG 2) 3))), (h 205, .inl (cs 0, 4, .inl ((fG 2) 4))), (h 206, .inl (cs 3, 4, .inr (.inr (.inr (.inr (fun i => if i < 4 then some (h (i + 207)) else none)))))), (h 207, .inl (cs 0, 4, .inl ((fG 3) 0))), (h 208, .inl (cs 0, 4, .inl ((fG 3) 1))), (h 209, .inl (cs 0, 4, .inl ((fG 3) 2))), (h 210, .inl (cs 0, 4, .inl ((fG 3) 3))), (h 211, .inl (cs 0, 5, .inl (fA 211))), (h 109, .inl (cs 5, 4, .inr (.inr (.inr (.inr (fun i => if i < 4 then some (h (i + 110)) else none)))))), (h 110, .inr (5, [.int (fI 220), .int (fI 224), .ref (h 228)])), (h 228, .inl (cs 1, 25, .inr (.inl (fQ 228)))), (h 111, .inr (5, [.int (fI 221), .int (fI 225), .ref (h 229)])), (h 229, .inl (cs 1, 25, .inr (.inl (fQ 229)))), (h 112, .inr (5, [.int (fI 222), .int (fI 226), .ref (h 230)])), (h 230, .inl (cs 1, 25, .inr (.inl (fQ 230)))), (h 113, .inr (5, [.int (fI 223), .int (fI 227), .ref (h 231)])), (h 231, .inl (cs 1, 25, .inr (.inl (fQ 231))))]) hP hD hS hA [23, 1, 2, 3, 4, 5, 6, 7, 8, 24, 25, 26] [0, 9, 10, 11, 12, 13, 14, 15, 16, 17, 18, 19, 20, 21, 22, 27, 28, 29, 30, 31, 32, 33, 34, 35, 36, 37, 38, 39, 40, 41, 42, 43, 44, 45, 46, 47, 48, 49, 50, 51, 52, 53, 54, 55, 56, 57, 58, 59, 60, 61] rfl rfl (by decide) (by decide) (va_runV (As := [.int (nI 1)]) (rest := []) ⟨hx, hb, hml, hown, hts⟩ (a_X8_ranked_86 l dC dI h cs H.size fI fL fA fQ fG fJ ) (cwV 1 hts gX9_nearest_X8_ranked rfl rfl rfl (by decide +kernel) ⟨Nat.le_of_ble_eq_true rfl, Nat.le_of_ble_eq_true rfl⟩) (xpV (wc := (wD_60 h cs fI fL fA fQ fG fJ)) hP hD hK hN [23, 1, 2, 3, 4, 5, 6, 7, 8, 24, 25, 26] rfl (by decide) 23 (ci := 8) rfl rfl _) rfl rfl hl.1 rfl (lv_room (Nat.le_of_ble_eq_true rfl)) dX9_nearest_24 ⟨Nat.zero_le _, Nat.zero_le _⟩) (fun r_11 u_10 H locs hw hP hD hS => ?_)
      obtain ⟨hf_12, rfl⟩ := hw
      have hP : va_P (dC, dI) vwCl (wAll h cs qI_85 fL qA_83 fQ fG fJ) H := xP_sub hP [0, 51, 52, 53, 54, 55, 56, 57, 58, 1, 2, 3, 4, 5, 6, 7, 8, 9, 10, 11, 12, 13, 14, 50, 59, 60, 61, 15, 16, 17, 18, 19, 20, 21, 22, 23, 24, 25, 26, 27, 28, 29, 30, 31, 32, 33, 34, 35, 36, 37, 38, 39, 40, 41, 42, 43, 44, 45, 46, 47, 48, 49] rfl
      have hD : va_D A0 (wAll h cs qI_85 fL qA_83 fQ fG fJ) := hD.sub [0, 51, 52, 53, 54, 55, 56, 57, 58, 1, 2, 3, 4, 5, 6, 7, 8, 9, 10, 11, 12, 13, 14, 50, 59, 60, 61, 15, 16, 17, 18, 19, 20, 21, 22, 23, 24, 25, 26, 27, 28, 29, 30, 31, 32, 33, 34, 35, 36, 37, 38, 39, 40, 41, 42, 43, 44, 45, 46, 47, 48, 49] (by decide) rfl
      obtain rfl := hf_12
      exact xr_i (v := (nI 1)) hx hb hr hlocks hK hS dX9_nearest_27 (qI_85, fL, qA_83, fQ, fG, fJ) ⟨qI_85, qA_83, (by decide +kernel), rfl⟩ hP hD
    · skip
      refine lv_iload_n hx hb dX9_nearest_0 rfl (lv_at hl 1 rfl) ?_
      refine lv_if_lt (tgt := 15) hx hb dX9_nearest_1 (by decide) (fun c9 => False.elim (by revert c9; decide +kernel)) (fun _ => ?_)
      refine lv_iload_n hx hb dX9_nearest_4 rfl (lv_at hl 1 rfl) ?_
      refine lv_aload_n hx hb dX9_nearest_5 rfl (lv_at hl 0 rfl) ?_
      refine va_get (D := (dC, dI)) (ci := 9) (v := .ref (h 101)) (C := RX9) (T := TX9) (N := 9) hx hb hts hinX9 hown hK hP 0 rfl rfl 0 (by decide) (hts (.fieldLink RX9 12 "MixedWords" "mix" "LMixedWords$Mix;") (by decide +kernel)) (fun _ h9 => h9) rfl dX9_nearest_6 ?_
      refine xj_i (wc := (wD_32 h cs fI fL fA fQ fG fJ)) (wr := [(h 100, .inr (9, [.ref (h 101), .ref (h 102), .ref (h 103), .ref (h 104), .ref (h 105), .ref (h 106), .ref (h 107), .ref (h 108), .ref (h 109)])), (h 102, .inr (0, [.ref (h 101), .ref (h 140), .ref (h 141), .ref (h 142), .ref (h 143), .int (fI 144), .int (fI 145), .int (fI 146)])), (h 140, .inl (cs 0, 40, .inl (fA 140))), (h 141, .inl (cs 0, 40, .inl (fA 141))), (h 142, .inl (cs 0, 40, .inl (fA 142))), (h 143, .inl (cs 0, 40, .inl (fA 143))), (h 103, .inr (7, [.ref (h 150), .int (fI 151)])), (h 150, .inl (cs 2, 90, .inl (fA 150))), (h 104, .inr (4, [.ref (h 103), .ref (h 160), .int (fI 166), .int (fI 167), .int (fI 168), .int (fI 169)])), (h 160, .inl (cs 3, 5, .inr (.inr (.inr (.inr (fun i => if i < 5 then some (h (i + 161)) else none)))))), (h 161, .inl (cs 0, 4, .inl ((fG 1) 0))), (h 162, .inl (cs 0, 4, .inl ((fG 1) 1))), (h 163, .inl (cs 0, 4, .inl ((fG 1) 2))), (h 164, .inl (cs 0, 4, .inl ((fG 1) 3))), (h 165, .inl (cs 0, 4, .inl ((fG 1) 4))), (h 105, .inr (8, [.ref (h 101), .ref (h 170), .ref (h 171), .ref (h 172), .int (fI 173), .int (fI 174)])), (h 170, .inl (cs 0, 256, .inl (fA 170))), (h 171, .inl (cs 0, 256, .inl (fA 171))), (h 172, .inl (cs 0, 256, .inl (fA 172))), (h 106, .inr (2, [.ref (h 180), .ref (h 185), .ref (h 186), .ref (h 187), .long (fL 188)])), (h 180, .inl (cs 4, 4, .inr (.inr (.inr (.inr (fun i => if i < 4 then some (h (i + 181)) else none)))))), (h 181, .inl (cs 1, 4, .inr (.inl ((fJ 0) 0)))), (h 182, .inl (cs 1, 4, .inr (.inl ((fJ 0) 1)))), (h 183, .inl (cs 1, 4, .inr (.inl ((fJ 0) 2)))), (h 184, .inl (cs 1, 4, .inr (.inl ((fJ 0) 3)))), (h 185, .inl (cs 1, 4, .inr (.inl (fQ 185)))), (h 186, .inl (cs 0, 4, .inl (fA 186))), (h 187, .inl (cs 1, 4, .inr (.inl (fQ 187)))), (h 107, .inr (6, [.ref (h 101), .ref (h 190), .ref (h 191), .ref (h 192)])), (h 190, .inl (cs 0, 5, .inl (fA 190))), (h 191, .inl (cs 0, 4, .inl (fA 191))), (h 192, .inl (cs 0, 4, .inl (fA 192))), (h 108, .inr (1, [.ref (h 101), .ref (h 200), .ref (h 206), .ref (h 211), .int (fI 212), .int (fI 213)])), (h 200, .inl (cs 3, 5, .inr (.inr (.inr (.inr (fun i => if i < 5 then some (h (i + 201)) else none)))))), (h 201, .inl (cs 0, 4, .inl ((fG 2) 0))), (h 202, .inl (cs 0, 4, .inl ((fG 2) 1))), (h 203, .inl (cs 0, 4, .inl ((fG 2) 2))), (h 204, .inl (cs 0, 4, .inl ((fG 2) 3))), (h 205, .inl (cs 0, 4, .inl ((fG 2) 4))), (h 206, .inl (cs 3, 4, .inr (.inr (.inr (.inr (fun i => if i < 4 then some (h (i + 207)) else none)))))), (h 207, .inl (cs 0, 4, .inl ((fG 3) 0))), (h 208, .inl (cs 0, 4, .inl ((fG 3) 1))), (h 209, .inl (cs 0, 4, .inl ((fG 3) 2))), (h 210, .inl (cs 0, 4, .inl ((fG 3) 3))), (h 211, .inl (cs 0, 5, .inl (fA 211))), (h 109, .inl (cs 5, 4, .inr (.inr (.inr (.inr (fun i => if i < 4 then some (h (i + 110)) else none)))))), (h 110, .inr (5, [.int (fI 220), .int (fI 224), .ref (h 228)])), (h 228, .inl (cs 1, 25, .inr (.inl (fQ 228)))), (h 111, .inr (5, [.int (fI 221), .int (fI 225), .ref (h 229)])), (h 229, .inl (cs 1, 25, .inr (.inl (fQ 229)))), (h 112, .inr (5, [.int (fI 222), .int (fI 226), .ref (h 230)])), (h 230, .inl (cs 1, 25, .inr (.inl (fQ 230)))), (h 113, .inr (5, [.int (fI 223), .int (fI 227), .ref (h 231)])), (h 231, .inl (cs 1, 25, .inr (.inl (fQ 231))))]) hP hD hS hA [1, 2, 3, 4, 5, 6, 7, 8] [0, 9, 10, 11, 12, 13, 14, 15, 16, 17, 18, 19, 20, 21, 22, 23, 24, 25, 26, 27, 28, 29, 30, 31, 32, 33, 34, 35, 36, 37, 38, 39, 40, 41, 42, 43, 44, 45, 46, 47, 48, 49, 50, 51, 52, 53, 54, 55, 56, 57, 58, 59, 60, 61] rfl rfl (by decide) (by decide) (va_runV (As := []) (rest := [.int (nI 2)]) ⟨hx, hb, hml, hown, hts⟩ (a_X3_wordCount_58 l dC dI h cs H.size fI fL fA fQ fG fJ ) (cwV 0 hts gX9_nearest_X3_wordCount rfl rfl rfl (by decide +kernel) ⟨Nat.le_of_ble_eq_true rfl, Nat.le_of_ble_eq_true rfl⟩) (xpV (wc := (wD_32 h cs fI fL fA fQ fG fJ)) hP hD hK hN [1, 2, 3, 4, 5, 6, 7, 8] rfl (by decide) 1 (ci := 3) rfl rfl _) rfl rfl hl.1 rfl (lv_room (Nat.le_of_ble_eq_true rfl)) dX9_nearest_9 ⟨Nat.zero_le _, Nat.zero_le _⟩) (fun r_14 u_13 H locs hw hP hD hS => ?_)
      obtain ⟨hf_15, rfl⟩ := hw
      have hP : va_P (dC, dI) vwCl (wAll h cs fI fL fA fQ fG fJ) H := xP_sub hP [0, 54, 55, 56, 57, 58, 59, 60, 61, 1, 2, 3, 4, 5, 6, 7, 8, 9, 10, 11, 12, 13, 14, 15, 16, 17, 18, 19, 20, 21, 22, 23, 24, 25, 26, 27, 28, 29, 30, 31, 32, 33, 34, 35, 36, 37, 38, 39, 40, 41, 42, 43, 44, 45, 46, 47, 48, 49, 50, 51, 52, 53] rfl
      have hD : va_D A0 (wAll h cs fI fL fA fQ fG fJ) := hD.sub [0, 54, 55, 56, 57, 58, 59, 60, 61, 1, 2, 3, 4, 5, 6, 7, 8, 9, 10, 11, 12, 13, 14, 15, 16, 17, 18, 19, 20, 21, 22, 23, 24, 25, 26, 27, 28, 29, 30, 31, 32, 33, 34, 35, 36, 37, 38, 39, 40, 41, 42, 43, 44, 45, 46, 47, 48, 49, 50, 51, 52, 53] (by decide) rfl
      obtain rfl := hf_15
      refine lv_icmp_lt (tgt := 19) hx hb dX9_nearest_12 (by decide) (fun _ => ?_) (fun c9 => False.elim (by revert c9; decide +kernel))
      refine lv_aload_n hx hb dX9_nearest_19 rfl (lv_at hl 0 rfl) ?_
      refine va_get (D := (dC, dI)) (ci := 9) (v := .ref (h 105)) (C := RX9) (T := TX9) (N := 9) hx hb hts hinX9 hown hK hP 0 rfl rfl 4 (by decide) (hts (.fieldLink RX9 44 "MixedWords" "words" "LMixedWords$Words;") (by decide +kernel)) (fun _ h9 => h9) rfl dX9_nearest_20 ?_
      refine lv_iload_n hx hb dX9_nearest_23 rfl (lv_at hl 1 rfl) ?_
      refine xj_i (wc := (wD_60 h cs fI fL fA fQ fG fJ)) (wr := [(h 100, .inr (9, [.ref (h 101), .ref (h 102), .ref (h 103), .ref (h 104), .ref (h 105), .ref (h 106), .ref (h 107), .ref (h 108), .ref (h 109)])), (h 102, .inr (0, [.ref (h 101), .ref (h 140), .ref (h 141), .ref (h 142), .ref (h 143), .int (fI 144), .int (fI 145), .int (fI 146)])), (h 140, .inl (cs 0, 40, .inl (fA 140))), (h 141, .inl (cs 0, 40, .inl (fA 141))), (h 142, .inl (cs 0, 40, .inl (fA 142))), (h 143, .inl (cs 0, 40, .inl (fA 143))), (h 103, .inr (7, [.ref (h 150), .int (fI 151)])), (h 150, .inl (cs 2, 90, .inl (fA 150))), (h 104, .inr (4, [.ref (h 103), .ref (h 160), .int (fI 166), .int (fI 167), .int (fI 168), .int (fI 169)])), (h 160, .inl (cs 3, 5, .inr (.inr (.inr (.inr (fun i => if i < 5 then some (h (i + 161)) else none)))))), (h 161, .inl (cs 0, 4, .inl ((fG 1) 0))), (h 162, .inl (cs 0, 4, .inl ((fG 1) 1))), (h 163, .inl (cs 0, 4, .inl ((fG 1) 2))), (h 164, .inl (cs 0, 4, .inl ((fG 1) 3))), (h 165, .inl (cs 0, 4, .inl ((fG 1) 4))), (h 106, .inr (2, [.ref (h 180), .ref (h 185), .ref (h 186), .ref (h 187), .long (fL 188)])), (h 180, .inl (cs 4, 4, .inr (.inr (.inr (.inr (fun i => if i < 4 then some (h (i + 181)) else none)))))), (h 181, .inl (cs 1, 4, .inr (.inl ((fJ 0) 0)))), (h 182, .inl (cs 1, 4, .inr (.inl ((fJ 0) 1)))), (h 183, .inl (cs 1, 4, .inr (.inl ((fJ 0) 2)))), (h 184, .inl (cs 1, 4, .inr (.inl ((fJ 0) 3)))), (h 185, .inl (cs 1, 4, .inr (.inl (fQ 185)))), (h 186, .inl (cs 0, 4, .inl (fA 186))), (h 187, .inl (cs 1, 4, .inr (.inl (fQ 187)))), (h 107, .inr (6, [.ref (h 101), .ref (h 190), .ref (h 191), .ref (h 192)])), (h 190, .inl (cs 0, 5, .inl (fA 190))), (h 191, .inl (cs 0, 4, .inl (fA 191))), (h 192, .inl (cs 0, 4, .inl (fA 192))), (h 108, .inr (1, [.ref (h 101), .ref (h 200), .ref (h 206), .ref (h 211), .int (fI 212), .int (fI 213)])), (h 200, .inl (cs 3, 5, .inr (.inr (.inr (.inr (fun i => if i < 5 then some (h (i + 201)) else none)))))), (h 201, .inl (cs 0, 4, .inl ((fG 2) 0))), (h 202, .inl (cs 0, 4, .inl ((fG 2) 1))), (h 203, .inl (cs 0, 4, .inl ((fG 2) 2))), (h 204, .inl (cs 0, 4, .inl ((fG 2) 3))), (h 205, .inl (cs 0, 4, .inl ((fG 2) 4))), (h 206, .inl (cs 3, 4, .inr (.inr (.inr (.inr (fun i => if i < 4 then some (h (i + 207)) else none)))))), (h 207, .inl (cs 0, 4, .inl ((fG 3) 0))), (h 208, .inl (cs 0, 4, .inl ((fG 3) 1))), (h 209, .inl (cs 0, 4, .inl ((fG 3) 2))), (h 210, .inl (cs 0, 4, .inl ((fG 3) 3))), (h 211, .inl (cs 0, 5, .inl (fA 211))), (h 109, .inl (cs 5, 4, .inr (.inr (.inr (.inr (fun i => if i < 4 then some (h (i + 110)) else none)))))), (h 110, .inr (5, [.int (fI 220), .int (fI 224), .ref (h 228)])), (h 228, .inl (cs 1, 25, .inr (.inl (fQ 228)))), (h 111, .inr (5, [.int (fI 221), .int (fI 225), .ref (h 229)])), (h 229, .inl (cs 1, 25, .inr (.inl (fQ 229)))), (h 112, .inr (5, [.int (fI 222), .int (fI 226), .ref (h 230)])), (h 230, .inl (cs 1, 25, .inr (.inl (fQ 230)))), (h 113, .inr (5, [.int (fI 223), .int (fI 227), .ref (h 231)])), (h 231, .inl (cs 1, 25, .inr (.inl (fQ 231))))]) hP hD hS hA [23, 1, 2, 3, 4, 5, 6, 7, 8, 24, 25, 26] [0, 9, 10, 11, 12, 13, 14, 15, 16, 17, 18, 19, 20, 21, 22, 27, 28, 29, 30, 31, 32, 33, 34, 35, 36, 37, 38, 39, 40, 41, 42, 43, 44, 45, 46, 47, 48, 49, 50, 51, 52, 53, 54, 55, 56, 57, 58, 59, 60, 61] rfl rfl (by decide) (by decide) (va_runV (As := [.int (nI 2)]) (rest := []) ⟨hx, hb, hml, hown, hts⟩ (a_X8_ranked_87 l dC dI h cs H.size fI fL fA fQ fG fJ ) (cwV 1 hts gX9_nearest_X8_ranked rfl rfl rfl (by decide +kernel) ⟨Nat.le_of_ble_eq_true rfl, Nat.le_of_ble_eq_true rfl⟩) (xpV (wc := (wD_60 h cs fI fL fA fQ fG fJ)) hP hD hK hN [23, 1, 2, 3, 4, 5, 6, 7, 8, 24, 25, 26] rfl (by decide) 23 (ci := 8) rfl rfl _) rfl rfl hl.1 rfl (lv_room (Nat.le_of_ble_eq_true rfl)) dX9_nearest_24 ⟨Nat.zero_le _, Nat.zero_le _⟩) (fun r_17 u_16 H locs hw hP hD hS => ?_)
      obtain ⟨hf_18, rfl⟩ := hw
      have hP : va_P (dC, dI) vwCl (wAll h cs qI_85 fL qA_83 fQ fG fJ) H := xP_sub hP [0, 51, 52, 53, 54, 55, 56, 57, 58, 1, 2, 3, 4, 5, 6, 7, 8, 9, 10, 11, 12, 13, 14, 50, 59, 60, 61, 15, 16, 17, 18, 19, 20, 21, 22, 23, 24, 25, 26, 27, 28, 29, 30, 31, 32, 33, 34, 35, 36, 37, 38, 39, 40, 41, 42, 43, 44, 45, 46, 47, 48, 49] rfl
      have hD : va_D A0 (wAll h cs qI_85 fL qA_83 fQ fG fJ) := hD.sub [0, 51, 52, 53, 54, 55, 56, 57, 58, 1, 2, 3, 4, 5, 6, 7, 8, 9, 10, 11, 12, 13, 14, 50, 59, 60, 61, 15, 16, 17, 18, 19, 20, 21, 22, 23, 24, 25, 26, 27, 28, 29, 30, 31, 32, 33, 34, 35, 36, 37, 38, 39, 40, 41, 42, 43, 44, 45, 46, 47, 48, 49] (by decide) rfl
      obtain rfl := hf_18
      exact xr_i (v := (nI 2)) hx hb hr hlocks hK hS dX9_nearest_27 (qI_85, fL, qA_83, fQ, fG, fJ) ⟨qI_85, qA_83, (by decide +kernel), rfl⟩ hP hD
    · skip
      refine lv_iload_n hx hb dX9_nearest_0 rfl (lv_at hl 1 rfl) ?_
      refine lv_if_lt (tgt := 15) hx hb dX9_nearest_1 (by decide) (fun c9 => False.elim (by revert c9; decide +kernel)) (fun _ => ?_)
      refine lv_iload_n hx hb dX9_nearest_4 rfl (lv_at hl 1 rfl) ?_
      refine lv_aload_n hx hb dX9_nearest_5 rfl (lv_at hl 0 rfl) ?_
      refine va_get (D := (dC, dI)) (ci := 9) (v := .ref (h 101)) (C := RX9) (T := TX9) (N := 9) hx hb hts hinX9 hown hK hP 0 rfl rfl 0 (by decide) (hts (.fieldLink RX9 12 "MixedWords" "mix" "LMixedWords$Mix;") (by decide +kernel)) (fun _ h9 => h9) rfl dX9_nearest_6 ?_
      refine xj_i (wc := (wD_32 h cs fI fL fA fQ fG fJ)) (wr := [(h 100, .inr (9, [.ref (h 101), .ref (h 102), .ref (h 103), .ref (h 104), .ref (h 105), .ref (h 106), .ref (h 107), .ref (h 108), .ref (h 109)])), (h 102, .inr (0, [.ref (h 101), .ref (h 140), .ref (h 141), .ref (h 142), .ref (h 143), .int (fI 144), .int (fI 145), .int (fI 146)])), (h 140, .inl (cs 0, 40, .inl (fA 140))), (h 141, .inl (cs 0, 40, .inl (fA 141))), (h 142, .inl (cs 0, 40, .inl (fA 142))), (h 143, .inl (cs 0, 40, .inl (fA 143))), (h 103, .inr (7, [.ref (h 150), .int (fI 151)])), (h 150, .inl (cs 2, 90, .inl (fA 150))), (h 104, .inr (4, [.ref (h 103), .ref (h 160), .int (fI 166), .int (fI 167), .int (fI 168), .int (fI 169)])), (h 160, .inl (cs 3, 5, .inr (.inr (.inr (.inr (fun i => if i < 5 then some (h (i + 161)) else none)))))), (h 161, .inl (cs 0, 4, .inl ((fG 1) 0))), (h 162, .inl (cs 0, 4, .inl ((fG 1) 1))), (h 163, .inl (cs 0, 4, .inl ((fG 1) 2))), (h 164, .inl (cs 0, 4, .inl ((fG 1) 3))), (h 165, .inl (cs 0, 4, .inl ((fG 1) 4))), (h 105, .inr (8, [.ref (h 101), .ref (h 170), .ref (h 171), .ref (h 172), .int (fI 173), .int (fI 174)])), (h 170, .inl (cs 0, 256, .inl (fA 170))), (h 171, .inl (cs 0, 256, .inl (fA 171))), (h 172, .inl (cs 0, 256, .inl (fA 172))), (h 106, .inr (2, [.ref (h 180), .ref (h 185), .ref (h 186), .ref (h 187), .long (fL 188)])), (h 180, .inl (cs 4, 4, .inr (.inr (.inr (.inr (fun i => if i < 4 then some (h (i + 181)) else none)))))), (h 181, .inl (cs 1, 4, .inr (.inl ((fJ 0) 0)))), (h 182, .inl (cs 1, 4, .inr (.inl ((fJ 0) 1)))), (h 183, .inl (cs 1, 4, .inr (.inl ((fJ 0) 2)))), (h 184, .inl (cs 1, 4, .inr (.inl ((fJ 0) 3)))), (h 185, .inl (cs 1, 4, .inr (.inl (fQ 185)))), (h 186, .inl (cs 0, 4, .inl (fA 186))), (h 187, .inl (cs 1, 4, .inr (.inl (fQ 187)))), (h 107, .inr (6, [.ref (h 101), .ref (h 190), .ref (h 191), .ref (h 192)])), (h 190, .inl (cs 0, 5, .inl (fA 190))), (h 191, .inl (cs 0, 4, .inl (fA 191))), (h 192, .inl (cs 0, 4, .inl (fA 192))), (h 108, .inr (1, [.ref (h 101), .ref (h 200), .ref (h 206), .ref (h 211), .int (fI 212), .int (fI 213)])), (h 200, .inl (cs 3, 5, .inr (.inr (.inr (.inr (fun i => if i < 5 then some (h (i + 201)) else none)))))), (h 201, .inl (cs 0, 4, .inl ((fG 2) 0))), (h 202, .inl (cs 0, 4, .inl ((fG 2) 1))), (h 203, .inl (cs 0, 4, .inl ((fG 2) 2))), (h 204, .inl (cs 0, 4, .inl ((fG 2) 3))), (h 205, .inl (cs 0, 4, .inl ((fG 2) 4))), (h 206, .inl (cs 3, 4, .inr (.inr (.inr (.inr (fun i => if i < 4 then some (h (i + 207)) else none)))))), (h 207, .inl (cs 0, 4, .inl ((fG 3) 0))), (h 208, .inl (cs 0, 4, .inl ((fG 3) 1))), (h 209, .inl (cs 0, 4, .inl ((fG 3) 2))), (h 210, .inl (cs 0, 4, .inl ((fG 3) 3))), (h 211, .inl (cs 0, 5, .inl (fA 211))), (h 109, .inl (cs 5, 4, .inr (.inr (.inr (.inr (fun i => if i < 4 then some (h (i + 110)) else none)))))), (h 110, .inr (5, [.int (fI 220), .int (fI 224), .ref (h 228)])), (h 228, .inl (cs 1, 25, .inr (.inl (fQ 228)))), (h 111, .inr (5, [.int (fI 221), .int (fI 225), .ref (h 229)])), (h 229, .inl (cs 1, 25, .inr (.inl (fQ 229)))), (h 112, .inr (5, [.int (fI 222), .int (fI 226), .ref (h 230)])), (h 230, .inl (cs 1, 25, .inr (.inl (fQ 230)))), (h 113, .inr (5, [.int (fI 223), .int (fI 227), .ref (h 231)])), (h 231, .inl (cs 1, 25, .inr (.inl (fQ 231))))]) hP hD hS hA [1, 2, 3, 4, 5, 6, 7, 8] [0, 9, 10, 11, 12, 13, 14, 15, 16, 17, 18, 19, 20, 21, 22, 23, 24, 25, 26, 27, 28, 29, 30, 31, 32, 33, 34, 35, 36, 37, 38, 39, 40, 41, 42, 43, 44, 45, 46, 47, 48, 49, 50, 51, 52, 53, 54, 55, 56, 57, 58, 59, 60, 61] rfl rfl (by decide) (by decide) (va_runV (As := []) (rest := [.int (nI 3)]) ⟨hx, hb, hml, hown, hts⟩ (a_X3_wordCount_58 l dC dI h cs H.size fI fL fA fQ fG fJ ) (cwV 0 hts gX9_nearest_X3_wordCount rfl rfl rfl (by decide +kernel) ⟨Nat.le_of_ble_eq_true rfl, Nat.le_of_ble_eq_true rfl⟩) (xpV (wc := (wD_32 h cs fI fL fA fQ fG fJ)) hP hD hK hN [1, 2, 3, 4, 5, 6, 7, 8] rfl (by decide) 1 (ci := 3) rfl rfl _) rfl rfl hl.1 rfl (lv_room (Nat.le_of_ble_eq_true rfl)) dX9_nearest_9 ⟨Nat.zero_le _, Nat.zero_le _⟩) (fun r_20 u_19 H locs hw hP hD hS => ?_)
      obtain ⟨hf_21, rfl⟩ := hw
      have hP : va_P (dC, dI) vwCl (wAll h cs fI fL fA fQ fG fJ) H := xP_sub hP [0, 54, 55, 56, 57, 58, 59, 60, 61, 1, 2, 3, 4, 5, 6, 7, 8, 9, 10, 11, 12, 13, 14, 15, 16, 17, 18, 19, 20, 21, 22, 23, 24, 25, 26, 27, 28, 29, 30, 31, 32, 33, 34, 35, 36, 37, 38, 39, 40, 41, 42, 43, 44, 45, 46, 47, 48, 49, 50, 51, 52, 53] rfl
      have hD : va_D A0 (wAll h cs fI fL fA fQ fG fJ) := hD.sub [0, 54, 55, 56, 57, 58, 59, 60, 61, 1, 2, 3, 4, 5, 6, 7, 8, 9, 10, 11, 12, 13, 14, 15, 16, 17, 18, 19, 20, 21, 22, 23, 24, 25, 26, 27, 28, 29, 30, 31, 32, 33, 34, 35, 36, 37, 38, 39, 40, 41, 42, 43, 44, 45, 46, 47, 48, 49, 50, 51, 52, 53] (by decide) rfl
      obtain rfl := hf_21
      refine lv_icmp_lt (tgt := 19) hx hb dX9_nearest_12 (by decide) (fun _ => ?_) (fun c9 => False.elim (by revert c9; decide +kernel))
      refine lv_aload_n hx hb dX9_nearest_19 rfl (lv_at hl 0 rfl) ?_
      refine va_get (D := (dC, dI)) (ci := 9) (v := .ref (h 105)) (C := RX9) (T := TX9) (N := 9) hx hb hts hinX9 hown hK hP 0 rfl rfl 4 (by decide) (hts (.fieldLink RX9 44 "MixedWords" "words" "LMixedWords$Words;") (by decide +kernel)) (fun _ h9 => h9) rfl dX9_nearest_20 ?_
      refine lv_iload_n hx hb dX9_nearest_23 rfl (lv_at hl 1 rfl) ?_
      refine xj_i (wc := (wD_60 h cs fI fL fA fQ fG fJ)) (wr := [(h 100, .inr (9, [.ref (h 101), .ref (h 102), .ref (h 103), .ref (h 104), .ref (h 105), .ref (h 106), .ref (h 107), .ref (h 108), .ref (h 109)])), (h 102, .inr (0, [.ref (h 101), .ref (h 140), .ref (h 141), .ref (h 142), .ref (h 143), .int (fI 144), .int (fI 145), .int (fI 146)])), (h 140, .inl (cs 0, 40, .inl (fA 140))), (h 141, .inl (cs 0, 40, .inl (fA 141))), (h 142, .inl (cs 0, 40, .inl (fA 142))), (h 143, .inl (cs 0, 40, .inl (fA 143))), (h 103, .inr (7, [.ref (h 150), .int (fI 151)])), (h 150, .inl (cs 2, 90, .inl (fA 150))), (h 104, .inr (4, [.ref (h 103), .ref (h 160), .int (fI 166), .int (fI 167), .int (fI 168), .int (fI 169)])), (h 160, .inl (cs 3, 5, .inr (.inr (.inr (.inr (fun i => if i < 5 then some (h (i + 161)) else none)))))), (h 161, .inl (cs 0, 4, .inl ((fG 1) 0))), (h 162, .inl (cs 0, 4, .inl ((fG 1) 1))), (h 163, .inl (cs 0, 4, .inl ((fG 1) 2))), (h 164, .inl (cs 0, 4, .inl ((fG 1) 3))), (h 165, .inl (cs 0, 4, .inl ((fG 1) 4))), (h 106, .inr (2, [.ref (h 180), .ref (h 185), .ref (h 186), .ref (h 187), .long (fL 188)])), (h 180, .inl (cs 4, 4, .inr (.inr (.inr (.inr (fun i => if i < 4 then some (h (i + 181)) else none)))))), (h 181, .inl (cs 1, 4, .inr (.inl ((fJ 0) 0)))), (h 182, .inl (cs 1, 4, .inr (.inl ((fJ 0) 1)))), (h 183, .inl (cs 1, 4, .inr (.inl ((fJ 0) 2)))), (h 184, .inl (cs 1, 4, .inr (.inl ((fJ 0) 3)))), (h 185, .inl (cs 1, 4, .inr (.inl (fQ 185)))), (h 186, .inl (cs 0, 4, .inl (fA 186))), (h 187, .inl (cs 1, 4, .inr (.inl (fQ 187)))), (h 107, .inr (6, [.ref (h 101), .ref (h 190), .ref (h 191), .ref (h 192)])), (h 190, .inl (cs 0, 5, .inl (fA 190))), (h 191, .inl (cs 0, 4, .inl (fA 191))), (h 192, .inl (cs 0, 4, .inl (fA 192))), (h 108, .inr (1, [.ref (h 101), .ref (h 200), .ref (h 206), .ref (h 211), .int (fI 212), .int (fI 213)])), (h 200, .inl (cs 3, 5, .inr (.inr (.inr (.inr (fun i => if i < 5 then some (h (i + 201)) else none)))))), (h 201, .inl (cs 0, 4, .inl ((fG 2) 0))), (h 202, .inl (cs 0, 4, .inl ((fG 2) 1))), (h 203, .inl (cs 0, 4, .inl ((fG 2) 2))), (h 204, .inl (cs 0, 4, .inl ((fG 2) 3))), (h 205, .inl (cs 0, 4, .inl ((fG 2) 4))), (h 206, .inl (cs 3, 4, .inr (.inr (.inr (.inr (fun i => if i < 4 then some (h (i + 207)) else none)))))), (h 207, .inl (cs 0, 4, .inl ((fG 3) 0))), (h 208, .inl (cs 0, 4, .inl ((fG 3) 1))), (h 209, .inl (cs 0, 4, .inl ((fG 3) 2))), (h 210, .inl (cs 0, 4, .inl ((fG 3) 3))), (h 211, .inl (cs 0, 5, .inl (fA 211))), (h 109, .inl (cs 5, 4, .inr (.inr (.inr (.inr (fun i => if i < 4 then some (h (i + 110)) else none)))))), (h 110, .inr (5, [.int (fI 220), .int (fI 224), .ref (h 228)])), (h 228, .inl (cs 1, 25, .inr (.inl (fQ 228)))), (h 111, .inr (5, [.int (fI 221), .int (fI 225), .ref (h 229)])), (h 229, .inl (cs 1, 25, .inr (.inl (fQ 229)))), (h 112, .inr (5, [.int (fI 222), .int (fI 226), .ref (h 230)])), (h 230, .inl (cs 1, 25, .inr (.inl (fQ 230)))), (h 113, .inr (5, [.int (fI 223), .int (fI 227), .ref (h 231)])), (h 231, .inl (cs 1, 25, .inr (.inl (fQ 231))))]) hP hD hS hA [23, 1, 2, 3, 4, 5, 6, 7, 8, 24, 25, 26] [0, 9, 10, 11, 12, 13, 14, 15, 16, 17, 18, 19, 20, 21, 22, 27, 28, 29, 30, 31, 32, 33, 34, 35, 36, 37, 38, 39, 40, 41, 42, 43, 44, 45, 46, 47, 48, 49, 50, 51, 52, 53, 54, 55, 56, 57, 58, 59, 60, 61] rfl rfl (by decide) (by decide) (va_runV (As := [.int (nI 3)]) (rest := []) ⟨hx, hb, hml, hown, hts⟩ (a_X8_ranked_88 l dC dI h cs H.size fI fL fA fQ fG fJ ) (cwV 1 hts gX9_nearest_X8_ranked rfl rfl rfl (by decide +kernel) ⟨Nat.le_of_ble_eq_true rfl, Nat.le_of_ble_eq_true rfl⟩) (xpV (wc := (wD_60 h cs fI fL fA fQ fG fJ)) hP hD hK hN [23, 1, 2, 3, 4, 5, 6, 7, 8, 24, 25, 26] rfl (by decide) 23 (ci := 8) rfl rfl _) rfl rfl hl.1 rfl (lv_room (Nat.le_of_ble_eq_true rfl)) dX9_nearest_24 ⟨Nat.zero_le _, Nat.zero_le _⟩) (fun r_23 u_22 H locs hw hP hD hS => ?_)
      obtain ⟨hf_24, rfl⟩ := hw
      have hP : va_P (dC, dI) vwCl (wAll h cs qI_85 fL qA_83 fQ fG fJ) H := xP_sub hP [0, 51, 52, 53, 54, 55, 56, 57, 58, 1, 2, 3, 4, 5, 6, 7, 8, 9, 10, 11, 12, 13, 14, 50, 59, 60, 61, 15, 16, 17, 18, 19, 20, 21, 22, 23, 24, 25, 26, 27, 28, 29, 30, 31, 32, 33, 34, 35, 36, 37, 38, 39, 40, 41, 42, 43, 44, 45, 46, 47, 48, 49] rfl
      have hD : va_D A0 (wAll h cs qI_85 fL qA_83 fQ fG fJ) := hD.sub [0, 51, 52, 53, 54, 55, 56, 57, 58, 1, 2, 3, 4, 5, 6, 7, 8, 9, 10, 11, 12, 13, 14, 50, 59, 60, 61, 15, 16, 17, 18, 19, 20, 21, 22, 23, 24, 25, 26, 27, 28, 29, 30, 31, 32, 33, 34, 35, 36, 37, 38, 39, 40, 41, 42, 43, 44, 45, 46, 47, 48, 49] (by decide) rfl
      obtain rfl := hf_24
      exact xr_i (v := (nI 3)) hx hb hr hlocks hK hS dX9_nearest_27 (qI_85, fL, qA_83, fQ, fG, fJ) ⟨qI_85, qA_83, (by decide +kernel), rfl⟩ hP hD
  · skip
    refine lv_iload_n hx hb dX9_nearest_0 rfl (lv_at hl 1 rfl) ?_
    refine lv_if_lt (tgt := 15) hx hb dX9_nearest_1 (by decide) (fun c_1_24 => ?_) (fun c_1_24 => ?_)
    · skip
      have t_t_25 : x.toInt < 0 := zc_tlt (K := 0) (by decide +kernel) c_1_24
      refine lv_iconst (v := (-1)) hx hb dX9_nearest_15 (by decide) ?_
      refine lv_goto (tgt := 27) hx hb dX9_nearest_16 (by decide) ?_
      exact xr_i (v := (-1)) hx hb hr hlocks hK hS dX9_nearest_27 (fI, fL, fA, fQ, fG, fJ) ⟨fI, fA, (by unfold an_nearest; rw [if_neg (by omega)]), rfl⟩ hP hD
    · skip
      have t_f_26 : 0 ≤ x.toInt := zc_flt (K := 0) (by decide +kernel) c_1_24
      refine lv_iload_n hx hb dX9_nearest_4 rfl (lv_at hl 1 rfl) ?_
      refine lv_aload_n hx hb dX9_nearest_5 rfl (lv_at hl 0 rfl) ?_
      refine va_get (D := (dC, dI)) (ci := 9) (v := .ref (h 101)) (C := RX9) (T := TX9) (N := 9) hx hb hts hinX9 hown hK hP 0 rfl rfl 0 (by decide) (hts (.fieldLink RX9 12 "MixedWords" "mix" "LMixedWords$Mix;") (by decide +kernel)) (fun _ h9 => h9) rfl dX9_nearest_6 ?_
      refine xj_i (wc := (wD_32 h cs fI fL fA fQ fG fJ)) (wr := [(h 100, .inr (9, [.ref (h 101), .ref (h 102), .ref (h 103), .ref (h 104), .ref (h 105), .ref (h 106), .ref (h 107), .ref (h 108), .ref (h 109)])), (h 102, .inr (0, [.ref (h 101), .ref (h 140), .ref (h 141), .ref (h 142), .ref (h 143), .int (fI 144), .int (fI 145), .int (fI 146)])), (h 140, .inl (cs 0, 40, .inl (fA 140))), (h 141, .inl (cs 0, 40, .inl (fA 141))), (h 142, .inl (cs 0, 40, .inl (fA 142))), (h 143, .inl (cs 0, 40, .inl (fA 143))), (h 103, .inr (7, [.ref (h 150), .int (fI 151)])), (h 150, .inl (cs 2, 90, .inl (fA 150))), (h 104, .inr (4, [.ref (h 103), .ref (h 160), .int (fI 166), .int (fI 167), .int (fI 168), .int (fI 169)])), (h 160, .inl (cs 3, 5, .inr (.inr (.inr (.inr (fun i => if i < 5 then some (h (i + 161)) else none)))))), (h 161, .inl (cs 0, 4, .inl ((fG 1) 0))), (h 162, .inl (cs 0, 4, .inl ((fG 1) 1))), (h 163, .inl (cs 0, 4, .inl ((fG 1) 2))), (h 164, .inl (cs 0, 4, .inl ((fG 1) 3))), (h 165, .inl (cs 0, 4, .inl ((fG 1) 4))), (h 105, .inr (8, [.ref (h 101), .ref (h 170), .ref (h 171), .ref (h 172), .int (fI 173), .int (fI 174)])), (h 170, .inl (cs 0, 256, .inl (fA 170))), (h 171, .inl (cs 0, 256, .inl (fA 171))), (h 172, .inl (cs 0, 256, .inl (fA 172))), (h 106, .inr (2, [.ref (h 180), .ref (h 185), .ref (h 186), .ref (h 187), .long (fL 188)])), (h 180, .inl (cs 4, 4, .inr (.inr (.inr (.inr (fun i => if i < 4 then some (h (i + 181)) else none)))))), (h 181, .inl (cs 1, 4, .inr (.inl ((fJ 0) 0)))), (h 182, .inl (cs 1, 4, .inr (.inl ((fJ 0) 1)))), (h 183, .inl (cs 1, 4, .inr (.inl ((fJ 0) 2)))), (h 184, .inl (cs 1, 4, .inr (.inl ((fJ 0) 3)))), (h 185, .inl (cs 1, 4, .inr (.inl (fQ 185)))), (h 186, .inl (cs 0, 4, .inl (fA 186))), (h 187, .inl (cs 1, 4, .inr (.inl (fQ 187)))), (h 107, .inr (6, [.ref (h 101), .ref (h 190), .ref (h 191), .ref (h 192)])), (h 190, .inl (cs 0, 5, .inl (fA 190))), (h 191, .inl (cs 0, 4, .inl (fA 191))), (h 192, .inl (cs 0, 4, .inl (fA 192))), (h 108, .inr (1, [.ref (h 101), .ref (h 200), .ref (h 206), .ref (h 211), .int (fI 212), .int (fI 213)])), (h 200, .inl (cs 3, 5, .inr (.inr (.inr (.inr (fun i => if i < 5 then some (h (i + 201)) else none)))))), (h 201, .inl (cs 0, 4, .inl ((fG 2) 0))), (h 202, .inl (cs 0, 4, .inl ((fG 2) 1))), (h 203, .inl (cs 0, 4, .inl ((fG 2) 2))), (h 204, .inl (cs 0, 4, .inl ((fG 2) 3))), (h 205, .inl (cs 0, 4, .inl ((fG 2) 4))), (h 206, .inl (cs 3, 4, .inr (.inr (.inr (.inr (fun i => if i < 4 then some (h (i + 207)) else none)))))), (h 207, .inl (cs 0, 4, .inl ((fG 3) 0))), (h 208, .inl (cs 0, 4, .inl ((fG 3) 1))), (h 209, .inl (cs 0, 4, .inl ((fG 3) 2))), (h 210, .inl (cs 0, 4, .inl ((fG 3) 3))), (h 211, .inl (cs 0, 5, .inl (fA 211))), (h 109, .inl (cs 5, 4, .inr (.inr (.inr (.inr (fun i => if i < 4 then some (h (i + 110)) else none)))))), (h 110, .inr (5, [.int (fI 220), .int (fI 224), .ref (h 228)])), (h 228, .inl (cs 1, 25, .inr (.inl (fQ 228)))), (h 111, .inr (5, [.int (fI 221), .int (fI 225), .ref (h 229)])), (h 229, .inl (cs 1, 25, .inr (.inl (fQ 229)))), (h 112, .inr (5, [.int (fI 222), .int (fI 226), .ref (h 230)])), (h 230, .inl (cs 1, 25, .inr (.inl (fQ 230)))), (h 113, .inr (5, [.int (fI 223), .int (fI 227), .ref (h 231)])), (h 231, .inl (cs 1, 25, .inr (.inl (fQ 231))))]) hP hD hS hA [1, 2, 3, 4, 5, 6, 7, 8] [0, 9, 10, 11, 12, 13, 14, 15, 16, 17, 18, 19, 20, 21, 22, 23, 24, 25, 26, 27, 28, 29, 30, 31, 32, 33, 34, 35, 36, 37, 38, 39, 40, 41, 42, 43, 44, 45, 46, 47, 48, 49, 50, 51, 52, 53, 54, 55, 56, 57, 58, 59, 60, 61] rfl rfl (by decide) (by decide) (va_runV (As := []) (rest := [.int x]) ⟨hx, hb, hml, hown, hts⟩ (a_X3_wordCount_58 l dC dI h cs H.size fI fL fA fQ fG fJ ) (cwV 0 hts gX9_nearest_X3_wordCount rfl rfl rfl (by decide +kernel) ⟨Nat.le_of_ble_eq_true rfl, Nat.le_of_ble_eq_true rfl⟩) (xpV (wc := (wD_32 h cs fI fL fA fQ fG fJ)) hP hD hK hN [1, 2, 3, 4, 5, 6, 7, 8] rfl (by decide) 1 (ci := 3) rfl rfl _) rfl rfl hl.1 rfl (lv_room (Nat.le_of_ble_eq_true rfl)) dX9_nearest_9 ⟨Nat.zero_le _, Nat.zero_le _⟩) (fun r_29 u_28 H locs hw hP hD hS => ?_)
      obtain ⟨hf_30, rfl⟩ := hw
      have hP : va_P (dC, dI) vwCl (wAll h cs fI fL fA fQ fG fJ) H := xP_sub hP [0, 54, 55, 56, 57, 58, 59, 60, 61, 1, 2, 3, 4, 5, 6, 7, 8, 9, 10, 11, 12, 13, 14, 15, 16, 17, 18, 19, 20, 21, 22, 23, 24, 25, 26, 27, 28, 29, 30, 31, 32, 33, 34, 35, 36, 37, 38, 39, 40, 41, 42, 43, 44, 45, 46, 47, 48, 49, 50, 51, 52, 53] rfl
      have hD : va_D A0 (wAll h cs fI fL fA fQ fG fJ) := hD.sub [0, 54, 55, 56, 57, 58, 59, 60, 61, 1, 2, 3, 4, 5, 6, 7, 8, 9, 10, 11, 12, 13, 14, 15, 16, 17, 18, 19, 20, 21, 22, 23, 24, 25, 26, 27, 28, 29, 30, 31, 32, 33, 34, 35, 36, 37, 38, 39, 40, 41, 42, 43, 44, 45, 46, 47, 48, 49, 50, 51, 52, 53] (by decide) rfl
      obtain rfl := hf_30
      refine lv_icmp_lt (tgt := 19) hx hb dX9_nearest_12 (by decide) (fun c_12_30 => ?_) (fun c_12_30 => ?_)
      · skip
        have t_t_31 : x.toInt < 4 := zc_tlt (K := nI 4) (by decide +kernel) c_12_30
        exact absurd t_t_31 (by omega)
      · skip
        have t_f_32 : 4 ≤ x.toInt := zc_flt (K := nI 4) (by decide +kernel) c_12_30
        refine lv_iconst (v := (-1)) hx hb dX9_nearest_15 (by decide) ?_
        refine lv_goto (tgt := 27) hx hb dX9_nearest_16 (by decide) ?_
        exact xr_i (v := (-1)) hx hb hr hlocks hK hS dX9_nearest_27 (fI, fL, fA, fQ, fG, fJ) ⟨fI, fA, (by unfold an_nearest; rw [if_neg (by omega)]), rfl⟩ hP hD
