set_option maxHeartbeats 4000000 in
set_option maxRecDepth 100000 in
theorem a_X10_offAll_199 (l : Launch) (dC : Nat → ClassId) (dI : Nat → Nat → Nat) (h : Nat → Nat) (cs : Nat → ClassId) (sz : Nat) (I : Nat → Int32) (L : Nat → Int64) (A : Nat → Nat → Int32) (Q : Nat → Nat → Int64) : Met l yX10_offAll wsX10_offAll ({ frames := 2, cells := 0, slots := 0, locals := 49 }) (va_Pc [.ref (h 0)] (xPre (dC, dI) (wD_177 h cs gI gL gA gQ) (tysA cs) sz)) (va_Qv (fun (u : RS) => (True) ∧ u = (gI, gL, gA, gQ)) (xB (dC, dI) (tysA cs) (va_A (wD_177 h cs gI gL gA gQ) sz) (fun u : RS => wD_177 h cs u.1 u.2.1 u.2.2.1 u.2.2.2)) (va_A (wD_177 h cs gI gL gA gQ) sz)) 0 0 (va_A (wD_177 h cs gI gL gA gQ) sz) := by
  refine Met.ofW (cc := cX10_offAll) (maxL := 2) (ret := none) (by decide) rfl ?_
  intro p e s m args below meth c s₁ B hml hv
  obtain ⟨rfl, hsz, hP, hK, hD0, hN⟩ := hv
  have hx := B.exec
  have hb := B.bytes
  have hr := B.returns
  have hts := atoms_spec (ws := wsX10_offAll) B.pre
  have hown : s.vm.findClass RX10 = some m.cls := findClass_of_methodNamed B.named
  have hlocks := B.notSynchronized
  subst hsz
  have hD := hD0.self (sz := s.heap.size)
  generalize hAe : va_A (wD_177 h cs gI gL gA gQ) s.heap.size = A0 at hD ⊢
  have hA : ∀ q : Nat, s.heap.size ≤ q → A0 q := fun q h => by rw [← hAe]; exact Or.inr h
  have hl := lv_entry ([.ref (h 0)]) (n := 2) (Nat.le_of_ble_eq_true rfl)
  rw [lg_entry_eq]
  generalize (lg_sl ([.ref (h 0)]) ++ List.replicate (2 - (lg_sl ([.ref (h 0)])).length) Slot.unset).toArray = ls at hl ⊢
  have hl : lv_has ls 2 [(0, .ref (h 0))] := hl
  generalize hH : s.heap = H at hP ⊢
  have hS : va_S A0 s.heap H [] := by rw [← hH]; exact va_S.rf
  have hinX10 : ∀ w ∈ wsX100, w ∈ wsX10_offAll := by decide +kernel
  refine lv_iconst (v := nI 0) hx hb dX10_offAll_0 (by decide) ?_
  refine lv_istore_n (lv' := [(1, .int (nI 0)), (0, .ref (h 0))]) hx hb dX10_offAll_1 rfl hl (by decide) rfl (fun ls hl => ?_)
  refine lv_iload_n hx hb dX10_offAll_2 rfl (lv_at hl 0 rfl) ?_
  refine lv_aload_n hx hb dX10_offAll_3 rfl (lv_at hl 1 rfl) ?_
  refine xj_i (wc := (wD_177 h cs gI gL gA gQ)) (wr := ([] : va_W)) hP hD hS hA [0, 1, 2, 3, 4, 5, 6, 7, 8, 9, 10, 11, 12, 13, 14, 15, 16] [] rfl rfl (by decide) (by decide) (va_runV (As := []) (rest := [.int (nI 0)]) ⟨hx, hb, hml, hown, hts⟩ (a_X10_words_179 l dC dI h cs H.size gI gL gA gQ ) (cwV 0 hts gX10_offAll_X10_words rfl rfl rfl (by decide +kernel) ⟨Nat.le_of_ble_eq_true rfl, Nat.le_of_ble_eq_true rfl⟩) (xpV (wc := (wD_177 h cs gI gL gA gQ)) hP hD hK hN [0, 1, 2, 3, 4, 5, 6, 7, 8, 9, 10, 11, 12, 13, 14, 15, 16] rfl (by decide) 0 (ci := 10) rfl rfl _) rfl rfl hl.1 rfl (lv_room (Nat.le_of_ble_eq_true rfl)) dX10_offAll_4 ⟨Nat.zero_le _, Nat.zero_le _⟩) (fun r_2 u_1 H locs hw hP hD hS => ?_)
  obtain ⟨hf_3, rfl⟩ := hw
  have hP : va_P (dC, dI) vwCl (wD_177 h cs gI gL gA gQ) H := hP
  have hD : va_D A0 (wD_177 h cs gI gL gA gQ) := hD
  obtain rfl := hf_3
  refine lv_icmp_ge (tgt := 27) hx hb dX10_offAll_7 (by decide) (fun c9 => False.elim (by revert c9; decide +kernel)) (fun _ => ?_)
  refine lv_aload_n hx hb dX10_offAll_10 rfl (lv_at hl 1 rfl) ?_
  refine va_get (D := (dC, dI)) (ci := 10) (v := .ref (h 16)) (C := RX10) (T := TX10) (N := 28) hx hb hts hinX10 hown hK hP 0 rfl rfl 16 (by decide) (hts (.fieldLink RX10 38 "MixedWordsModel" "offs" "[I") (by decide +kernel)) (fun _ h9 => h9) rfl dX10_offAll_11 ?_
  refine lv_iload_n hx hb dX10_offAll_14 rfl (lv_at hl 0 rfl) ?_
  refine lv_aload_n hx hb dX10_offAll_15 rfl (lv_at hl 1 rfl) ?_
  refine lv_iload_n hx hb dX10_offAll_16 rfl (lv_at hl 0 rfl) ?_
  refine xj_i (wc := (wD_177 h cs gI gL gA gQ)) (wr := ([] : va_W)) hP hD hS hA [0, 1, 2, 3, 4, 5, 6, 7, 8, 9, 10, 11, 12, 13, 14, 15, 16] [] rfl rfl (by decide) (by decide) (va_runV (As := [.int (nI 0)]) (rest := [.int (nI 0), .ref (h 16)]) ⟨hx, hb, hml, hown, hts⟩ (a_X10_offOf_181 l dC dI h cs H.size gI gL gA gQ ) (cwV 1 hts gX10_offAll_X10_offOf rfl rfl rfl (by decide +kernel) ⟨Nat.le_of_ble_eq_true rfl, Nat.le_of_ble_eq_true rfl⟩) (xpV (wc := (wD_177 h cs gI gL gA gQ)) hP hD hK hN [0, 1, 2, 3, 4, 5, 6, 7, 8, 9, 10, 11, 12, 13, 14, 15, 16] rfl (by decide) 0 (ci := 10) rfl rfl _) rfl rfl hl.1 rfl (lv_room (Nat.le_of_ble_eq_true rfl)) dX10_offAll_17 ⟨Nat.zero_le _, Nat.zero_le _⟩) (fun r_5 u_4 H locs hw hP hD hS => ?_)
  obtain ⟨hf_6, rfl⟩ := hw
  have hP : va_P (dC, dI) vwCl (wD_177 h cs gI gL gA gQ) H := hP
  have hD : va_D A0 (wD_177 h cs gI gL gA gQ) := hD
  obtain rfl := hf_6
  refine xa_iastS hx hb hK hP hD hS 7 0 rfl rfl (by omega) (by decide) (by decide +kernel) dX10_offAll_20 (fun H locs hP hD hS => ?_)
  refine lv_iinc (v := nI 1) (lv' := [(1, .int (nI 1)), (0, .ref (h 0))]) hx hb dX10_offAll_21 hl (k := 0) rfl (by decide +kernel) (by decide) rfl (fun ls hl => ?_)
  refine lv_goto (tgt := 2) hx hb dX10_offAll_24 (by decide) ?_
  refine lv_iload_n hx hb dX10_offAll_2 rfl (lv_at hl 0 rfl) ?_
  refine lv_aload_n hx hb dX10_offAll_3 rfl (lv_at hl 1 rfl) ?_
  refine xj_i (wc := (wD_177 h cs gI gL gA gQ)) (wr := ([] : va_W)) hP hD hS hA [0, 1, 2, 3, 4, 5, 6, 7, 8, 9, 10, 11, 12, 13, 14, 15, 16] [] rfl rfl (by decide) (by decide) (va_runV (As := []) (rest := [.int (nI 1)]) ⟨hx, hb, hml, hown, hts⟩ (a_X10_words_179 l dC dI h cs H.size gI gL gA gQ ) (cwV 0 hts gX10_offAll_X10_words rfl rfl rfl (by decide +kernel) ⟨Nat.le_of_ble_eq_true rfl, Nat.le_of_ble_eq_true rfl⟩) (xpV (wc := (wD_177 h cs gI gL gA gQ)) hP hD hK hN [0, 1, 2, 3, 4, 5, 6, 7, 8, 9, 10, 11, 12, 13, 14, 15, 16] rfl (by decide) 0 (ci := 10) rfl rfl _) rfl rfl hl.1 rfl (lv_room (Nat.le_of_ble_eq_true rfl)) dX10_offAll_4 ⟨Nat.zero_le _, Nat.zero_le _⟩) (fun r_8 u_7 H locs hw hP hD hS => ?_)
  obtain ⟨hf_9, rfl⟩ := hw
  have hP : va_P (dC, dI) vwCl (wD_177 h cs gI gL gA gQ) H := hP
  have hD : va_D A0 (wD_177 h cs gI gL gA gQ) := hD
  obtain rfl := hf_9
  refine lv_icmp_ge (tgt := 27) hx hb dX10_offAll_7 (by decide) (fun c9 => False.elim (by revert c9; decide +kernel)) (fun _ => ?_)
  refine lv_aload_n hx hb dX10_offAll_10 rfl (lv_at hl 1 rfl) ?_
  refine va_get (D := (dC, dI)) (ci := 10) (v := .ref (h 16)) (C := RX10) (T := TX10) (N := 28) hx hb hts hinX10 hown hK hP 0 rfl rfl 16 (by decide) (hts (.fieldLink RX10 38 "MixedWordsModel" "offs" "[I") (by decide +kernel)) (fun _ h9 => h9) rfl dX10_offAll_11 ?_
  refine lv_iload_n hx hb dX10_offAll_14 rfl (lv_at hl 0 rfl) ?_
  refine lv_aload_n hx hb dX10_offAll_15 rfl (lv_at hl 1 rfl) ?_
  refine lv_iload_n hx hb dX10_offAll_16 rfl (lv_at hl 0 rfl) ?_
  refine xj_i (wc := (wD_177 h cs gI gL gA gQ)) (wr := ([] : va_W)) hP hD hS hA [0, 1, 2, 3, 4, 5, 6, 7, 8, 9, 10, 11, 12, 13, 14, 15, 16] [] rfl rfl (by decide) (by decide) (va_runV (As := [.int (nI 1)]) (rest := [.int (nI 1), .ref (h 16)]) ⟨hx, hb, hml, hown, hts⟩ (a_X10_offOf_186 l dC dI h cs H.size gI gL gA gQ ) (cwV 1 hts gX10_offAll_X10_offOf rfl rfl rfl (by decide +kernel) ⟨Nat.le_of_ble_eq_true rfl, Nat.le_of_ble_eq_true rfl⟩) (xpV (wc := (wD_177 h cs gI gL gA gQ)) hP hD hK hN [0, 1, 2, 3, 4, 5, 6, 7, 8, 9, 10, 11, 12, 13, 14, 15, 16] rfl (by decide) 0 (ci := 10) rfl rfl _) rfl rfl hl.1 rfl (lv_room (Nat.le_of_ble_eq_true rfl)) dX10_offAll_17 ⟨Nat.zero_le _, Nat.zero_le _⟩) (fun r_11 u_10 H locs hw hP hD hS => ?_)
  obtain ⟨hf_12, rfl⟩ := hw
  have hP : va_P (dC, dI) vwCl (wD_177 h cs gI gL gA gQ) H := hP
  have hD : va_D A0 (wD_177 h cs gI gL gA gQ) := hD
  obtain rfl := hf_12
  refine xa_iastS hx hb hK hP hD hS 7 0 rfl rfl (by omega) (by decide) (by decide +kernel) dX10_offAll_20 (fun H locs hP hD hS => ?_)
  refine lv_iinc (v := nI 2) (lv' := [(1, .int (nI 2)), (0, .ref (h 0))]) hx hb dX10_offAll_21 hl (k := 0) rfl (by decide +kernel) (by decide) rfl (fun ls hl => ?_)
  refine lv_goto (tgt := 2) hx hb dX10_offAll_24 (by decide) ?_
  refine lv_iload_n hx hb dX10_offAll_2 rfl (lv_at hl 0 rfl) ?_
  refine lv_aload_n hx hb dX10_offAll_3 rfl (lv_at hl 1 rfl) ?_
  refine xj_i (wc := (wD_177 h cs gI gL gA gQ)) (wr := ([] : va_W)) hP hD hS hA [0, 1, 2, 3, 4, 5, 6, 7, 8, 9, 10, 11, 12, 13, 14, 15, 16] [] rfl rfl (by decide) (by decide) (va_runV (As := []) (rest := [.int (nI 2)]) ⟨hx, hb, hml, hown, hts⟩ (a_X10_words_179 l dC dI h cs H.size gI gL gA gQ ) (cwV 0 hts gX10_offAll_X10_words rfl rfl rfl (by decide +kernel) ⟨Nat.le_of_ble_eq_true rfl, Nat.le_of_ble_eq_true rfl⟩) (xpV (wc := (wD_177 h cs gI gL gA gQ)) hP hD hK hN [0, 1, 2, 3, 4, 5, 6, 7, 8, 9, 10, 11, 12, 13, 14, 15, 16] rfl (by decide) 0 (ci := 10) rfl rfl _) rfl rfl hl.1 rfl (lv_room (Nat.le_of_ble_eq_true rfl)) dX10_offAll_4 ⟨Nat.zero_le _, Nat.zero_le _⟩) (fun r_14 u_13 H locs hw hP hD hS => ?_)
  obtain ⟨hf_15, rfl⟩ := hw
  have hP : va_P (dC, dI) vwCl (wD_177 h cs gI gL gA gQ) H := hP
  have hD : va_D A0 (wD_177 h cs gI gL gA gQ) := hD
  obtain rfl := hf_15
  refine lv_icmp_ge (tgt := 27) hx hb dX10_offAll_7 (by decide) (fun c9 => False.elim (by revert c9; decide +kernel)) (fun _ => ?_)
  refine lv_aload_n hx hb dX10_offAll_10 rfl (lv_at hl 1 rfl) ?_
  refine va_get (D := (dC, dI)) (ci := 10) (v := .ref (h 16)) (C := RX10) (T := TX10) (N := 28) hx hb hts hinX10 hown hK hP 0 rfl rfl 16 (by decide) (hts (.fieldLink RX10 38 "MixedWordsModel" "offs" "[I") (by decide +kernel)) (fun _ h9 => h9) rfl dX10_offAll_11 ?_
  refine lv_iload_n hx hb dX10_offAll_14 rfl (lv_at hl 0 rfl) ?_
  refine lv_aload_n hx hb dX10_offAll_15 rfl (lv_at hl 1 rfl) ?_
  refine lv_iload_n hx hb dX10_offAll_16 rfl (lv_at hl 0 rfl) ?_
  refine xj_i (wc := (wD_177 h cs gI gL gA gQ)) (wr := ([] : va_W)) hP hD hS hA [0, 1, 2, 3, 4, 5, 6, 7, 8, 9, 10, 11, 12, 13, 14, 15, 16] [] rfl rfl (by decide) (by decide) (va_runV (As := [.int (nI 2)]) (rest := [.int (nI 2), .ref (h 16)]) ⟨hx, hb, hml, hown, hts⟩ (a_X10_offOf_191 l dC dI h cs H.size gI gL gA gQ ) (cwV 1 hts gX10_offAll_X10_offOf rfl rfl rfl (by decide +kernel) ⟨Nat.le_of_ble_eq_true rfl, Nat.le_of_ble_eq_true rfl⟩) (xpV (wc := (wD_177 h cs gI gL gA gQ)) hP hD hK hN [0, 1, 2, 3, 4, 5, 6, 7, 8, 9, 10, 11, 12, 13, 14, 15, 16] rfl (by decide) 0 (ci := 10) rfl rfl _) rfl rfl hl.1 rfl (lv_room (Nat.le_of_ble_eq_true rfl)) dX10_offAll_17 ⟨Nat.zero_le _, Nat.zero_le _⟩) (fun r_17 u_16 H locs hw hP hD hS => ?_)
  obtain ⟨hf_18, rfl⟩ := hw
  have hP : va_P (dC, dI) vwCl (wD_177 h cs gI gL gA gQ) H := hP
  have hD : va_D A0 (wD_177 h cs gI gL gA gQ) := hD
  obtain rfl := hf_18
  refine xa_iastS hx hb hK hP hD hS 7 0 rfl rfl (by omega) (by decide) (by decide +kernel) dX10_offAll_20 (fun H locs hP hD hS => ?_)
  refine lv_iinc (v := nI 3) (lv' := [(1, .int (nI 3)), (0, .ref (h 0))]) hx hb dX10_offAll_21 hl (k := 0) rfl (by decide +kernel) (by decide) rfl (fun ls hl => ?_)
  refine lv_goto (tgt := 2) hx hb dX10_offAll_24 (by decide) ?_
  refine lv_iload_n hx hb dX10_offAll_2 rfl (lv_at hl 0 rfl) ?_
  refine lv_aload_n hx hb dX10_offAll_3 rfl (lv_at hl 1 rfl) ?_
  refine xj_i (wc := (wD_177 h cs gI gL gA gQ)) (wr := ([] : va_W)) hP hD hS hA [0, 1, 2, 3, 4, 5, 6, 7, 8, 9, 10, 11, 12, 13, 14, 15, 16] [] rfl rfl (by decide) (by decide) (va_runV (As := []) (rest := [.int (nI 3)]) ⟨hx, hb, hml, hown, hts⟩ (a_X10_words_179 l dC dI h cs H.size gI gL gA gQ ) (cwV 0 hts gX10_offAll_X10_words rfl rfl rfl (by decide +kernel) ⟨Nat.le_of_ble_eq_true rfl, Nat.le_of_ble_eq_true rfl⟩) (xpV (wc := (wD_177 h cs gI gL gA gQ)) hP hD hK hN [0, 1, 2, 3, 4, 5, 6, 7, 8, 9, 10, 11, 12, 13, 14, 15, 16] rfl (by decide) 0 (ci := 10) rfl rfl _) rfl rfl hl.1 rfl (lv_room (Nat.le_of_ble_eq_true rfl)) dX10_offAll_4 ⟨Nat.zero_le _, Nat.zero_le _⟩) (fun r_20 u_19 H locs hw hP hD hS => ?_)
  obtain ⟨hf_21, rfl⟩ := hw
  have hP : va_P (dC, dI) vwCl (wD_177 h cs gI gL gA gQ) H := hP
  have hD : va_D A0 (wD_177 h cs gI gL gA gQ) := hD
  obtain rfl := hf_21
  refine lv_icmp_ge (tgt := 27) hx hb dX10_offAll_7 (by decide) (fun c9 => False.elim (by revert c9; decide +kernel)) (fun _ => ?_)
  refine lv_aload_n hx hb dX10_offAll_10 rfl (lv_at hl 1 rfl) ?_
  refine va_get (D := (dC, dI)) (ci := 10) (v := .ref (h 16)) (C := RX10) (T := TX10) (N := 28) hx hb hts hinX10 hown hK hP 0 rfl rfl 16 (by decide) (hts (.fieldLink RX10 38 "MixedWordsModel" "offs" "[I") (by decide +kernel)) (fun _ h9 => h9) rfl dX10_offAll_11 ?_
  refine lv_iload_n hx hb dX10_offAll_14 rfl (lv_at hl 0 rfl) ?_
  refine lv_aload_n hx hb dX10_offAll_15 rfl (lv_at hl 1 rfl) ?_
  refine lv_iload_n hx hb dX10_offAll_16 rfl (lv_at hl 0 rfl) ?_
  refine xj_i (wc := (wD_177 h cs gI gL gA gQ)) (wr := ([] : va_W)) hP hD hS hA [0, 1, 2, 3, 4, 5, 6, 7, 8, 9, 10, 11, 12, 13, 14, 15, 16] [] rfl rfl (by decide) (by decide) (va_runV (As := [.int (nI 3)]) (rest := [.int (nI 3), .ref (h 16)]) ⟨hx, hb, hml, hown, hts⟩ (a_X10_offOf_196 l dC dI h cs H.size gI gL gA gQ ) (cwV 1 hts gX10_offAll_X10_offOf rfl rfl rfl (by decide +kernel) ⟨Nat.le_of_ble_eq_true rfl, Nat.le_of_ble_eq_true rfl⟩) (xpV (wc := (wD_177 h cs gI gL gA gQ)) hP hD hK hN [0, 1, 2, 3, 4, 5, 6, 7, 8, 9, 10, 11, 12, 13, 14, 15, 16] rfl (by decide) 0 (ci := 10) rfl rfl _) rfl rfl hl.1 rfl (lv_room (Nat.le_of_ble_eq_true rfl)) dX10_offAll_17 ⟨Nat.zero_le _, Nat.zero_le _⟩) (fun r_23 u_22 H locs hw hP hD hS => ?_)
  obtain ⟨hf_24, rfl⟩ := hw
  have hP : va_P (dC, dI) vwCl (wD_177 h cs gI gL gA gQ) H := hP
  have hD : va_D A0 (wD_177 h cs gI gL gA gQ) := hD
  obtain rfl := hf_24
  refine xa_iastS hx hb hK hP hD hS 7 0 rfl rfl (by omega) (by decide) (by decide +kernel) dX10_offAll_20 (fun H locs hP hD hS => ?_)
  refine lv_iinc (v := nI 4) (lv' := [(1, .int (nI 4)), (0, .ref (h 0))]) hx hb dX10_offAll_21 hl (k := 0) rfl (by decide +kernel) (by decide) rfl (fun ls hl => ?_)
  refine lv_goto (tgt := 2) hx hb dX10_offAll_24 (by decide) ?_
  refine lv_iload_n hx hb dX10_offAll_2 rfl (lv_at hl 0 rfl) ?_
  refine lv_aload_n hx hb dX10_offAll_3 rfl (lv_at hl 1 rfl) ?_
  refine xj_i (wc := (wD_177 h cs gI gL gA gQ)) (wr := ([] : va_W)) hP hD hS hA [0, 1, 2, 3, 4, 5, 6, 7, 8, 9, 10, 11, 12, 13, 14, 15, 16] [] rfl rfl (by decide) (by decide) (va_runV (As := []) (rest := [.int (nI 4)]) ⟨hx, hb, hml, hown, hts⟩ (a_X10_words_179 l dC dI h cs H.size gI gL gA gQ ) (cwV 0 hts gX10_offAll_X10_words rfl rfl rfl (by decide +kernel) ⟨Nat.le_of_ble_eq_true rfl, Nat.le_of_ble_eq_true rfl⟩) (xpV (wc := (wD_177 h cs gI gL gA gQ)) hP hD hK hN [0, 1, 2, 3, 4, 5, 6, 7, 8, 9, 10, 11, 12, 13, 14, 15, 16] rfl (by decide) 0 (ci := 10) rfl rfl _) rfl rfl hl.1 rfl (lv_room (Nat.le_of_ble_eq_true rfl)) dX10_offAll_4 ⟨Nat.zero_le _, Nat.zero_le _⟩) (fun r_26 u_25 H locs hw hP hD hS => ?_)
  obtain ⟨hf_27, rfl⟩ := hw
  have hP : va_P (dC, dI) vwCl (wD_177 h cs gI gL gA gQ) H := hP
  have hD : va_D A0 (wD_177 h cs gI gL gA gQ) := hD
  obtain rfl := hf_27
  refine lv_icmp_ge (tgt := 27) hx hb dX10_offAll_7 (by decide) (fun _ => ?_) (fun c9 => False.elim (by revert c9; decide +kernel))
  exact xr_v hx hb hr hlocks hK hS dX10_offAll_27 (gI, gL, gA, gQ) ⟨trivial, rfl⟩ hP hD
set_option maxHeartbeats 4000000 in
set_option maxRecDepth 100000 in
theorem f_X10_nearest (l : Launch) (dC : Nat → ClassId) (dI : Nat → Nat → Nat) (h : Nat → Nat) (cs : Nat → ClassId) (sz : Nat) (I : Nat → Int32) (L : Nat → Int64) (A : Nat → Nat → Int32) (Q : Nat → Nat → Int64) (x : Int32) : Met l yX10_nearest wsX10_nearest ({ frames := 3, cells := 0, slots := 0, locals := 70 }) (va_Pc [.ref (h 0), .int x] (xPre (dC, dI) (rW h cs gI gL gA gQ) (tysA cs) sz)) (va_Qi (fun (r : Int32) (u : RS) => (r = an_nearest x) ∧ u = (gI, gL, gA, gQ)) (xB (dC, dI) (tysA cs) (va_A (rW h cs gI gL gA gQ) sz) (fun u : RS => rW h cs u.1 u.2.1 u.2.2.1 u.2.2.2)) (va_A (rW h cs gI gL gA gQ) sz)) 0 0 (va_A (rW h cs gI gL gA gQ) sz) := by
  refine Met.ofW (cc := cX10_nearest) (maxL := 6) (ret := (some .int)) (by decide) rfl ?_
  intro p e s m args below meth c s₁ B hml hv
  obtain ⟨rfl, hsz, hP, hK, hD0, hN⟩ := hv
  have hx := B.exec
  have hb := B.bytes
  have hr := B.returns
  have hts := atoms_spec (ws := wsX10_nearest) B.pre
  have hown : s.vm.findClass RX10 = some m.cls := findClass_of_methodNamed B.named
  have hlocks := B.notSynchronized
  subst hsz
  have hD := hD0.self (sz := s.heap.size)
  generalize hAe : va_A (rW h cs gI gL gA gQ) s.heap.size = A0 at hD ⊢
  have hA : ∀ q : Nat, s.heap.size ≤ q → A0 q := fun q h => by rw [← hAe]; exact Or.inr h
  have hl := lv_entry ([.ref (h 0), .int x]) (n := 6) (Nat.le_of_ble_eq_true rfl)
  rw [lg_entry_eq]
  generalize (lg_sl ([.ref (h 0), .int x]) ++ List.replicate (6 - (lg_sl ([.ref (h 0), .int x])).length) Slot.unset).toArray = ls at hl ⊢
  have hl : lv_has ls 6 [(0, .ref (h 0)), (1, .int x)] := hl
  generalize hH : s.heap = H at hP ⊢
  have hS : va_S A0 s.heap H [] := by rw [← hH]; exact va_S.rf
  have hinX10 : ∀ w ∈ wsX100, w ∈ wsX10_nearest := by decide +kernel
  rcases splR x 0 3 (by decide) with ⟨i_x, h_x, g_x, rfl⟩ | hz_x
  · skip
    rcases (show i_x = 0 ∨ i_x = 1 ∨ i_x = 2 ∨ i_x = 3 by omega) with rfl | rfl | rfl | rfl
    · skip
      refine lv_aload_n hx hb dX10_nearest_0 rfl (lv_at hl 0 rfl) ?_
      refine lv_iload_n hx hb dX10_nearest_1 rfl (lv_at hl 1 rfl) ?_
      refine xj_i (wc := (wD_177 h cs gI gL gA gQ)) (wr := ([] : va_W)) hP hD hS hA [0, 1, 2, 3, 4, 5, 6, 7, 8, 9, 10, 11, 12, 13, 14, 15, 16] [] rfl rfl (by decide) (by decide) (va_runV (As := [.int (nI 0)]) (rest := []) ⟨hx, hb, hml, hown, hts⟩ (a_X10_isWord_178 l dC dI h cs H.size gI gL gA gQ ) (cwV 1 hts gX10_nearest_X10_isWord rfl rfl rfl (by decide +kernel) ⟨Nat.le_of_ble_eq_true rfl, Nat.le_of_ble_eq_true rfl⟩) (xpV (wc := (wD_177 h cs gI gL gA gQ)) hP hD hK hN [0, 1, 2, 3, 4, 5, 6, 7, 8, 9, 10, 11, 12, 13, 14, 15, 16] rfl (by decide) 0 (ci := 10) rfl rfl _) rfl rfl hl.1 rfl (lv_room (Nat.le_of_ble_eq_true rfl)) dX10_nearest_2 ⟨Nat.zero_le _, Nat.zero_le _⟩) (fun r_2 u_1 H locs hw hP hD hS => ?_)
      obtain ⟨hf_3, rfl⟩ := hw
      have hP : va_P (dC, dI) vwCl (rW h cs gI gL gA gQ) H := hP
      have hD : va_D A0 (rW h cs gI gL gA gQ) := hD
      obtain rfl := hf_3
      refine lv_if_ne (tgt := 10) hx hb dX10_nearest_5 (by decide) (fun _ => ?_) (fun c9 => False.elim (by revert c9; decide +kernel))
      refine lv_aload_n hx hb dX10_nearest_10 rfl (lv_at hl 0 rfl) ?_
      refine xj_v (wc := (wD_177 h cs gI gL gA gQ)) (wr := ([] : va_W)) hP hD hS hA [0, 1, 2, 3, 4, 5, 6, 7, 8, 9, 10, 11, 12, 13, 14, 15, 16] [] rfl rfl (by decide) (by decide) (va_runV (As := []) (rest := []) ⟨hx, hb, hml, hown, hts⟩ (a_X10_offAll_199 l dC dI h cs H.size gI gL gA gQ ) (cwV 0 hts gX10_nearest_X10_offAll rfl rfl rfl (by decide +kernel) ⟨Nat.le_of_ble_eq_true rfl, Nat.le_of_ble_eq_true rfl⟩) (xpV (wc := (wD_177 h cs gI gL gA gQ)) hP hD hK hN [0, 1, 2, 3, 4, 5, 6, 7, 8, 9, 10, 11, 12, 13, 14, 15, 16] rfl (by decide) 0 (ci := 10) rfl rfl _) rfl rfl hl.1 rfl (lv_room (Nat.le_of_ble_eq_true rfl)) dX10_nearest_11 ⟨Nat.zero_le _, Nat.zero_le _⟩) (fun u_4 H locs hw hP hD hS => ?_)
      obtain ⟨hf_6, rfl⟩ := hw
      have hP : va_P (dC, dI) vwCl (rW h cs gI gL gA gQ) H := hP
      have hD : va_D A0 (rW h cs gI gL gA gQ) := hD
      refine lv_iconst (v := (-1)) hx hb dX10_nearest_14 (by decide) ?_
      refine lv_istore_n (lv' := [(2, .int (-1)), (0, .ref (h 0)), (1, .int (nI 0))]) hx hb dX10_nearest_15 rfl hl (by decide) rfl (fun ls hl => ?_)
      refine lv_iconst (v := nI 0) hx hb dX10_nearest_16 (by decide) ?_
      refine lv_istore_n (lv' := [(3, .int (nI 0)), (2, .int (-1)), (0, .ref (h 0)), (1, .int (nI 0))]) hx hb dX10_nearest_17 rfl hl (by decide) rfl (fun ls hl => ?_)
      refine lv_iload_n hx hb dX10_nearest_18 rfl (lv_at hl 0 rfl) ?_
      refine lv_aload_n hx hb dX10_nearest_19 rfl (lv_at hl 2 rfl) ?_
      refine xj_i (wc := (wD_177 h cs gI gL gA gQ)) (wr := ([] : va_W)) hP hD hS hA [0, 1, 2, 3, 4, 5, 6, 7, 8, 9, 10, 11, 12, 13, 14, 15, 16] [] rfl rfl (by decide) (by decide) (va_runV (As := []) (rest := [.int (nI 0)]) ⟨hx, hb, hml, hown, hts⟩ (a_X10_words_179 l dC dI h cs H.size gI gL gA gQ ) (cwV 0 hts gX10_nearest_X10_words rfl rfl rfl (by decide +kernel) ⟨Nat.le_of_ble_eq_true rfl, Nat.le_of_ble_eq_true rfl⟩) (xpV (wc := (wD_177 h cs gI gL gA gQ)) hP hD hK hN [0, 1, 2, 3, 4, 5, 6, 7, 8, 9, 10, 11, 12, 13, 14, 15, 16] rfl (by decide) 0 (ci := 10) rfl rfl _) rfl rfl hl.1 rfl (lv_room (Nat.le_of_ble_eq_true rfl)) dX10_nearest_20 ⟨Nat.zero_le _, Nat.zero_le _⟩) (fun r_8 u_7 H locs hw hP hD hS => ?_)
      obtain ⟨hf_9, rfl⟩ := hw
      have hP : va_P (dC, dI) vwCl (rW h cs gI gL gA gQ) H := hP
      have hD : va_D A0 (rW h cs gI gL gA gQ) := hD
      obtain rfl := hf_9
      refine lv_icmp_ge (tgt := 113) hx hb dX10_nearest_23 (by decide) (fun c9 => False.elim (by revert c9; decide +kernel)) (fun _ => ?_)
      refine lv_iconst (v := nI 0) hx hb dX10_nearest_26 (by decide) ?_
      refine lv_istore (lv' := [(4, .int (nI 0)), (3, .int (nI 0)), (2, .int (-1)), (0, .ref (h 0)), (1, .int (nI 0))]) hx hb dX10_nearest_27 hl (by decide) rfl (fun ls hl => ?_)
      refine lv_iconst (v := nI 0) hx hb dX10_nearest_29 (by decide) ?_
      refine lv_istore (lv' := [(5, .int (nI 0)), (4, .int (nI 0)), (3, .int (nI 0)), (2, .int (-1)), (0, .ref (h 0)), (1, .int (nI 0))]) hx hb dX10_nearest_30 hl (by decide) rfl (fun ls hl => ?_)
      refine lv_iload hx hb dX10_nearest_32 (lv_at hl 0 rfl) ?_
      refine lv_aload_n hx hb dX10_nearest_34 rfl (lv_at hl 4 rfl) ?_
      refine xj_i (wc := (wD_177 h cs gI gL gA gQ)) (wr := ([] : va_W)) hP hD hS hA [0, 1, 2, 3, 4, 5, 6, 7, 8, 9, 10, 11, 12, 13, 14, 15, 16] [] rfl rfl (by decide) (by decide) (va_runV (As := []) (rest := [.int (nI 0)]) ⟨hx, hb, hml, hown, hts⟩ (a_X10_words_179 l dC dI h cs H.size gI gL gA gQ ) (cwV 0 hts gX10_nearest_X10_words rfl rfl rfl (by decide +kernel) ⟨Nat.le_of_ble_eq_true rfl, Nat.le_of_ble_eq_true rfl⟩) (xpV (wc := (wD_177 h cs gI gL gA gQ)) hP hD hK hN [0, 1, 2, 3, 4, 5, 6, 7, 8, 9, 10, 11, 12, 13, 14, 15, 16] rfl (by decide) 0 (ci := 10) rfl rfl _) rfl rfl hl.1 rfl (lv_room (Nat.le_of_ble_eq_true rfl)) dX10_nearest_35 ⟨Nat.zero_le _, Nat.zero_le _⟩) (fun r_11 u_10 H locs hw hP hD hS => ?_)
      obtain ⟨hf_12, rfl⟩ := hw
      have hP : va_P (dC, dI) vwCl (rW h cs gI gL gA gQ) H := hP
      have hD : va_D A0 (rW h cs gI gL gA gQ) := hD
      obtain rfl := hf_12
      refine lv_icmp_ge (tgt := 95) hx hb dX10_nearest_38 (by decide) (fun c9 => False.elim (by revert c9; decide +kernel)) (fun _ => ?_)
      refine lv_iload hx hb dX10_nearest_41 (lv_at hl 1 rfl) ?_
      refine lv_aload_n hx hb dX10_nearest_43 rfl (lv_at hl 4 rfl) ?_
      refine va_get (D := (dC, dI)) (ci := 10) (v := .ref (h 16)) (C := RX10) (T := TX10) (N := 28) hx hb hts hinX10 hown hK hP 0 rfl rfl 16 (by decide) (hts (.fieldLink RX10 38 "MixedWordsModel" "offs" "[I") (by decide +kernel)) (fun _ h9 => h9) rfl dX10_nearest_44 ?_
      refine lv_iload hx hb dX10_nearest_47 (lv_at hl 0 rfl) ?_
      refine xa_iald hx hb hK hP 7 0 rfl rfl (by omega) (by decide) dX10_nearest_49 ?_
      refine xt_i (y := nI 0) (by decide +kernel) ?_
      refine lv_aload_n hx hb dX10_nearest_50 rfl (lv_at hl 4 rfl) ?_
      refine va_get (D := (dC, dI)) (ci := 10) (v := .ref (h 16)) (C := RX10) (T := TX10) (N := 28) hx hb hts hinX10 hown hK hP 0 rfl rfl 16 (by decide) (hts (.fieldLink RX10 38 "MixedWordsModel" "offs" "[I") (by decide +kernel)) (fun _ h9 => h9) rfl dX10_nearest_51 ?_
      refine lv_iload_n hx hb dX10_nearest_54 rfl (lv_at hl 2 rfl) ?_
      refine xa_iald hx hb hK hP 7 0 rfl rfl (by omega) (by decide) dX10_nearest_55 ?_
      refine xt_i (y := nI 0) (by decide +kernel) ?_
      refine lv_icmp_lt (tgt := 81) hx hb dX10_nearest_56 (by decide) (fun c9 => False.elim (by revert c9; decide +kernel)) (fun _ => ?_)
      refine lv_aload_n hx hb dX10_nearest_59 rfl (lv_at hl 4 rfl) ?_
      refine va_get (D := (dC, dI)) (ci := 10) (v := .ref (h 16)) (C := RX10) (T := TX10) (N := 28) hx hb hts hinX10 hown hK hP 0 rfl rfl 16 (by decide) (hts (.fieldLink RX10 38 "MixedWordsModel" "offs" "[I") (by decide +kernel)) (fun _ h9 => h9) rfl dX10_nearest_60 ?_
      refine lv_iload hx hb dX10_nearest_63 (lv_at hl 0 rfl) ?_
      refine xa_iald hx hb hK hP 7 0 rfl rfl (by omega) (by decide) dX10_nearest_65 ?_
      refine xt_i (y := nI 0) (by decide +kernel) ?_
      refine lv_aload_n hx hb dX10_nearest_66 rfl (lv_at hl 4 rfl) ?_
      refine va_get (D := (dC, dI)) (ci := 10) (v := .ref (h 16)) (C := RX10) (T := TX10) (N := 28) hx hb hts hinX10 hown hK hP 0 rfl rfl 16 (by decide) (hts (.fieldLink RX10 38 "MixedWordsModel" "offs" "[I") (by decide +kernel)) (fun _ h9 => h9) rfl dX10_nearest_67 ?_
      refine lv_iload_n hx hb dX10_nearest_70 rfl (lv_at hl 2 rfl) ?_
      refine xa_iald hx hb hK hP 7 0 rfl rfl (by omega) (by decide) dX10_nearest_71 ?_
      refine xt_i (y := nI 0) (by decide +kernel) ?_
      refine lv_icmp_ne (tgt := 85) hx hb dX10_nearest_72 (by decide) (fun c9 => False.elim (by revert c9; decide +kernel)) (fun _ => ?_)
      refine lv_iload hx hb dX10_nearest_75 (lv_at hl 0 rfl) ?_
      refine lv_iload_n hx hb dX10_nearest_77 rfl (lv_at hl 2 rfl) ?_
      refine lv_icmp_ge (tgt := 85) hx hb dX10_nearest_78 (by decide) (fun _ => ?_) (fun c9 => False.elim (by revert c9; decide +kernel))
      refine lv_iconst (v := nI 0) hx hb dX10_nearest_85 (by decide) ?_
      refine lv_iadd hx hb dX10_nearest_86 ?_
      refine xt_i (y := nI 0) (by decide +kernel) ?_
      refine lv_istore (lv' := [(4, .int (nI 0)), (5, .int (nI 0)), (3, .int (nI 0)), (2, .int (-1)), (0, .ref (h 0)), (1, .int (nI 0))]) hx hb dX10_nearest_87 hl (by decide) rfl (fun ls hl => ?_)
      refine lv_iinc (v := nI 1) (lv' := [(5, .int (nI 1)), (4, .int (nI 0)), (3, .int (nI 0)), (2, .int (-1)), (0, .ref (h 0)), (1, .int (nI 0))]) hx hb dX10_nearest_89 hl (k := 1) rfl (by decide +kernel) (by decide) rfl (fun ls hl => ?_)
      refine lv_goto (tgt := 32) hx hb dX10_nearest_92 (by decide) ?_
      refine lv_iload hx hb dX10_nearest_32 (lv_at hl 0 rfl) ?_
      refine lv_aload_n hx hb dX10_nearest_34 rfl (lv_at hl 4 rfl) ?_
      refine xj_i (wc := (wD_177 h cs gI gL gA gQ)) (wr := ([] : va_W)) hP hD hS hA [0, 1, 2, 3, 4, 5, 6, 7, 8, 9, 10, 11, 12, 13, 14, 15, 16] [] rfl rfl (by decide) (by decide) (va_runV (As := []) (rest := [.int (nI 1)]) ⟨hx, hb, hml, hown, hts⟩ (a_X10_words_179 l dC dI h cs H.size gI gL gA gQ ) (cwV 0 hts gX10_nearest_X10_words rfl rfl rfl (by decide +kernel) ⟨Nat.le_of_ble_eq_true rfl, Nat.le_of_ble_eq_true rfl⟩) (xpV (wc := (wD_177 h cs gI gL gA gQ)) hP hD hK hN [0, 1, 2, 3, 4, 5, 6, 7, 8, 9, 10, 11, 12, 13, 14, 15, 16] rfl (by decide) 0 (ci := 10) rfl rfl _) rfl rfl hl.1 rfl (lv_room (Nat.le_of_ble_eq_true rfl)) dX10_nearest_35 ⟨Nat.zero_le _, Nat.zero_le _⟩) (fun r_14 u_13 H locs hw hP hD hS => ?_)
      obtain ⟨hf_15, rfl⟩ := hw
      have hP : va_P (dC, dI) vwCl (rW h cs gI gL gA gQ) H := hP
      have hD : va_D A0 (rW h cs gI gL gA gQ) := hD
      obtain rfl := hf_15
      refine lv_icmp_ge (tgt := 95) hx hb dX10_nearest_38 (by decide) (fun c9 => False.elim (by revert c9; decide +kernel)) (fun _ => ?_)
      refine lv_iload hx hb dX10_nearest_41 (lv_at hl 1 rfl) ?_
      refine lv_aload_n hx hb dX10_nearest_43 rfl (lv_at hl 4 rfl) ?_
      refine va_get (D := (dC, dI)) (ci := 10) (v := .ref (h 16)) (C := RX10) (T := TX10) (N := 28) hx hb hts hinX10 hown hK hP 0 rfl rfl 16 (by decide) (hts (.fieldLink RX10 38 "MixedWordsModel" "offs" "[I") (by decide +kernel)) (fun _ h9 => h9) rfl dX10_nearest_44 ?_
      refine lv_iload hx hb dX10_nearest_47 (lv_at hl 0 rfl) ?_
      refine xa_iald hx hb hK hP 7 0 rfl rfl (by omega) (by decide) dX10_nearest_49 ?_
      refine xt_i (y := nI 0) (by decide +kernel) ?_
      refine lv_aload_n hx hb dX10_nearest_50 rfl (lv_at hl 4 rfl) ?_
      refine va_get (D := (dC, dI)) (ci := 10) (v := .ref (h 16)) (C := RX10) (T := TX10) (N := 28) hx hb hts hinX10 hown hK hP 0 rfl rfl 16 (by decide) (hts (.fieldLink RX10 38 "MixedWordsModel" "offs" "[I") (by decide +kernel)) (fun _ h9 => h9) rfl dX10_nearest_51 ?_
      refine lv_iload_n hx hb dX10_nearest_54 rfl (lv_at hl 2 rfl) ?_
      refine xa_iald hx hb hK hP 7 0 rfl rfl (by omega) (by decide) dX10_nearest_55 ?_
      refine xt_i (y := nI 0) (by decide +kernel) ?_
      refine lv_icmp_lt (tgt := 81) hx hb dX10_nearest_56 (by decide) (fun c9 => False.elim (by revert c9; decide +kernel)) (fun _ => ?_)
      refine lv_aload_n hx hb dX10_nearest_59 rfl (lv_at hl 4 rfl) ?_
      refine va_get (D := (dC, dI)) (ci := 10) (v := .ref (h 16)) (C := RX10) (T := TX10) (N := 28) hx hb hts hinX10 hown hK hP 0 rfl rfl 16 (by decide) (hts (.fieldLink RX10 38 "MixedWordsModel" "offs" "[I") (by decide +kernel)) (fun _ h9 => h9) rfl dX10_nearest_60 ?_
      refine lv_iload hx hb dX10_nearest_63 (lv_at hl 0 rfl) ?_
      refine xa_iald hx hb hK hP 7 0 rfl rfl (by omega) (by decide) dX10_nearest_65 ?_
      refine xt_i (y := nI 0) (by decide +kernel) ?_
      refine lv_aload_n hx hb dX10_nearest_66 rfl (lv_at hl 4 rfl) ?_
      refine va_get (D := (dC, dI)) (ci := 10) (v := .ref (h 16)) (C := RX10) (T := TX10) (N := 28) hx hb hts hinX10 hown hK hP 0 rfl rfl 16 (by decide) (hts (.fieldLink RX10 38 "MixedWordsModel" "offs" "[I") (by decide +kernel)) (fun _ h9 => h9) rfl dX10_nearest_67 ?_
      refine lv_iload_n hx hb dX10_nearest_70 rfl (lv_at hl 2 rfl) ?_
      refine xa_iald hx hb hK hP 7 0 rfl rfl (by omega) (by decide) dX10_nearest_71 ?_
      refine xt_i (y := nI 0) (by decide +kernel) ?_
      refine lv_icmp_ne (tgt := 85) hx hb dX10_nearest_72 (by decide) (fun c9 => False.elim (by revert c9; decide +kernel)) (fun _ => ?_)
      refine lv_iload hx hb dX10_nearest_75 (lv_at hl 0 rfl) ?_
      refine lv_iload_n hx hb dX10_nearest_77 rfl (lv_at hl 2 rfl) ?_
      refine lv_icmp_ge (tgt := 85) hx hb dX10_nearest_78 (by decide) (fun _ => ?_) (fun c9 => False.elim (by revert c9; decide +kernel))
      refine lv_iconst (v := nI 0) hx hb dX10_nearest_85 (by decide) ?_
      refine lv_iadd hx hb dX10_nearest_86 ?_
      refine xt_i (y := nI 0) (by decide +kernel) ?_
      refine lv_istore (lv' := [(4, .int (nI 0)), (5, .int (nI 1)), (3, .int (nI 0)), (2, .int (-1)), (0, .ref (h 0)), (1, .int (nI 0))]) hx hb dX10_nearest_87 hl (by decide) rfl (fun ls hl => ?_)
      refine lv_iinc (v := nI 2) (lv' := [(5, .int (nI 2)), (4, .int (nI 0)), (3, .int (nI 0)), (2, .int (-1)), (0, .ref (h 0)), (1, .int (nI 0))]) hx hb dX10_nearest_89 hl (k := 1) rfl (by decide +kernel) (by decide) rfl (fun ls hl => ?_)
      refine lv_goto (tgt := 32) hx hb dX10_nearest_92 (by decide) ?_
      refine lv_iload hx hb dX10_nearest_32 (lv_at hl 0 rfl) ?_
      refine lv_aload_n hx hb dX10_nearest_34 rfl (lv_at hl 4 rfl) ?_
      refine xj_i (wc := (wD_177 h cs gI gL gA gQ)) (wr := ([] : va_W)) hP hD hS hA [0, 1, 2, 3, 4, 5, 6, 7, 8, 9, 10, 11, 12, 13, 14, 15, 16] [] rfl rfl (by decide) (by decide) (va_runV (As := []) (rest := [.int (nI 2)]) ⟨hx, hb, hml, hown, hts⟩ (a_X10_words_179 l dC dI h cs H.size gI gL gA gQ ) (cwV 0 hts gX10_nearest_X10_words rfl rfl rfl (by decide +kernel) ⟨Nat.le_of_ble_eq_true rfl, Nat.le_of_ble_eq_true rfl⟩) (xpV (wc := (wD_177 h cs gI gL gA gQ)) hP hD hK hN [0, 1, 2, 3, 4, 5, 6, 7, 8, 9, 10, 11, 12, 13, 14, 15, 16] rfl (by decide) 0 (ci := 10) rfl rfl _) rfl rfl hl.1 rfl (lv_room (Nat.le_of_ble_eq_true rfl)) dX10_nearest_35 ⟨Nat.zero_le _, Nat.zero_le _⟩) (fun r_17 u_16 H locs hw hP hD hS => ?_)
      obtain ⟨hf_18, rfl⟩ := hw
      have hP : va_P (dC, dI) vwCl (rW h cs gI gL gA gQ) H := hP
      have hD : va_D A0 (rW h cs gI gL gA gQ) := hD
      obtain rfl := hf_18
      refine lv_icmp_ge (tgt := 95) hx hb dX10_nearest_38 (by decide) (fun c9 => False.elim (by revert c9; decide +kernel)) (fun _ => ?_)
      refine lv_iload hx hb dX10_nearest_41 (lv_at hl 1 rfl) ?_
      refine lv_aload_n hx hb dX10_nearest_43 rfl (lv_at hl 4 rfl) ?_
      refine va_get (D := (dC, dI)) (ci := 10) (v := .ref (h 16)) (C := RX10) (T := TX10) (N := 28) hx hb hts hinX10 hown hK hP 0 rfl rfl 16 (by decide) (hts (.fieldLink RX10 38 "MixedWordsModel" "offs" "[I") (by decide +kernel)) (fun _ h9 => h9) rfl dX10_nearest_44 ?_
      refine lv_iload hx hb dX10_nearest_47 (lv_at hl 0 rfl) ?_
      refine xa_iald hx hb hK hP 7 0 rfl rfl (by omega) (by decide) dX10_nearest_49 ?_
      refine xt_i (y := nI 0) (by decide +kernel) ?_
      refine lv_aload_n hx hb dX10_nearest_50 rfl (lv_at hl 4 rfl) ?_
      refine va_get (D := (dC, dI)) (ci := 10) (v := .ref (h 16)) (C := RX10) (T := TX10) (N := 28) hx hb hts hinX10 hown hK hP 0 rfl rfl 16 (by decide) (hts (.fieldLink RX10 38 "MixedWordsModel" "offs" "[I") (by decide +kernel)) (fun _ h9 => h9) rfl dX10_nearest_51 ?_
      refine lv_iload_n hx hb dX10_nearest_54 rfl (lv_at hl 2 rfl) ?_
      refine xa_iald hx hb hK hP 7 0 rfl rfl (by omega) (by decide) dX10_nearest_55 ?_
      refine xt_i (y := nI 0) (by decide +kernel) ?_
      refine lv_icmp_lt (tgt := 81) hx hb dX10_nearest_56 (by decide) (fun c9 => False.elim (by revert c9; decide +kernel)) (fun _ => ?_)
      refine lv_aload_n hx hb dX10_nearest_59 rfl (lv_at hl 4 rfl) ?_
      refine va_get (D := (dC, dI)) (ci := 10) (v := .ref (h 16)) (C := RX10) (T := TX10) (N := 28) hx hb hts hinX10 hown hK hP 0 rfl rfl 16 (by decide) (hts (.fieldLink RX10 38 "MixedWordsModel" "offs" "[I") (by decide +kernel)) (fun _ h9 => h9) rfl dX10_nearest_60 ?_
      refine lv_iload hx hb dX10_nearest_63 (lv_at hl 0 rfl) ?_
      refine xa_iald hx hb hK hP 7 0 rfl rfl (by omega) (by decide) dX10_nearest_65 ?_
      refine xt_i (y := nI 0) (by decide +kernel) ?_
      refine lv_aload_n hx hb dX10_nearest_66 rfl (lv_at hl 4 rfl) ?_
      refine va_get (D := (dC, dI)) (ci := 10) (v := .ref (h 16)) (C := RX10) (T := TX10) (N := 28) hx hb hts hinX10 hown hK hP 0 rfl rfl 16 (by decide) (hts (.fieldLink RX10 38 "MixedWordsModel" "offs" "[I") (by decide +kernel)) (fun _ h9 => h9) rfl dX10_nearest_67 ?_
      refine lv_iload_n hx hb dX10_nearest_70 rfl (lv_at hl 2 rfl) ?_
      refine xa_iald hx hb hK hP 7 0 rfl rfl (by omega) (by decide) dX10_nearest_71 ?_
      refine xt_i (y := nI 0) (by decide +kernel) ?_
      refine lv_icmp_ne (tgt := 85) hx hb dX10_nearest_72 (by decide) (fun c9 => False.elim (by revert c9; decide +kernel)) (fun _ => ?_)
      refine lv_iload hx hb dX10_nearest_75 (lv_at hl 0 rfl) ?_
      refine lv_iload_n hx hb dX10_nearest_77 rfl (lv_at hl 2 rfl) ?_
      refine lv_icmp_ge (tgt := 85) hx hb dX10_nearest_78 (by decide) (fun _ => ?_) (fun c9 => False.elim (by revert c9; decide +kernel))
      refine lv_iconst (v := nI 0) hx hb dX10_nearest_85 (by decide) ?_
      refine lv_iadd hx hb dX10_nearest_86 ?_
      refine xt_i (y := nI 0) (by decide +kernel) ?_
      refine lv_istore (lv' := [(4, .int (nI 0)), (5, .int (nI 2)), (3, .int (nI 0)), (2, .int (-1)), (0, .ref (h 0)), (1, .int (nI 0))]) hx hb dX10_nearest_87 hl (by decide) rfl (fun ls hl => ?_)
      refine lv_iinc (v := nI 3) (lv' := [(5, .int (nI 3)), (4, .int (nI 0)), (3, .int (nI 0)), (2, .int (-1)), (0, .ref (h 0)), (1, .int (nI 0))]) hx hb dX10_nearest_89 hl (k := 1) rfl (by decide +kernel) (by decide) rfl (fun ls hl => ?_)
      refine lv_goto (tgt := 32) hx hb dX10_nearest_92 (by decide) ?_
      refine lv_iload hx hb dX10_nearest_32 (lv_at hl 0 rfl) ?_
      refine lv_aload_n hx hb dX10_nearest_34 rfl (lv_at hl 4 rfl) ?_
      refine xj_i (wc := (wD_177 h cs gI gL gA gQ)) (wr := ([] : va_W)) hP hD hS hA [0, 1, 2, 3, 4, 5, 6, 7, 8, 9, 10, 11, 12, 13, 14, 15, 16] [] rfl rfl (by decide) (by decide) (va_runV (As := []) (rest := [.int (nI 3)]) ⟨hx, hb, hml, hown, hts⟩ (a_X10_words_179 l dC dI h cs H.size gI gL gA gQ ) (cwV 0 hts gX10_nearest_X10_words rfl rfl rfl (by decide +kernel) ⟨Nat.le_of_ble_eq_true rfl, Nat.le_of_ble_eq_true rfl⟩) (xpV (wc := (wD_177 h cs gI gL gA gQ)) hP hD hK hN [0, 1, 2, 3, 4, 5, 6, 7, 8, 9, 10, 11, 12, 13, 14, 15, 16] rfl (by decide) 0 (ci := 10) rfl rfl _) rfl rfl hl.1 rfl (lv_room (Nat.le_of_ble_eq_true rfl)) dX10_nearest_35 ⟨Nat.zero_le _, Nat.zero_le _⟩) (fun r_20 u_19 H locs hw hP hD hS => ?_)
      obtain ⟨hf_21, rfl⟩ := hw
      have hP : va_P (dC, dI) vwCl (rW h cs gI gL gA gQ) H := hP
      have hD : va_D A0 (rW h cs gI gL gA gQ) := hD
      obtain rfl := hf_21
      refine lv_icmp_ge (tgt := 95) hx hb dX10_nearest_38 (by decide) (fun c9 => False.elim (by revert c9; decide +kernel)) (fun _ => ?_)
      refine lv_iload hx hb dX10_nearest_41 (lv_at hl 1 rfl) ?_
      refine lv_aload_n hx hb dX10_nearest_43 rfl (lv_at hl 4 rfl) ?_
      refine va_get (D := (dC, dI)) (ci := 10) (v := .ref (h 16)) (C := RX10) (T := TX10) (N := 28) hx hb hts hinX10 hown hK hP 0 rfl rfl 16 (by decide) (hts (.fieldLink RX10 38 "MixedWordsModel" "offs" "[I") (by decide +kernel)) (fun _ h9 => h9) rfl dX10_nearest_44 ?_
      refine lv_iload hx hb dX10_nearest_47 (lv_at hl 0 rfl) ?_
      refine xa_iald hx hb hK hP 7 0 rfl rfl (by omega) (by decide) dX10_nearest_49 ?_
      refine xt_i (y := nI 0) (by decide +kernel) ?_
      refine lv_aload_n hx hb dX10_nearest_50 rfl (lv_at hl 4 rfl) ?_
      refine va_get (D := (dC, dI)) (ci := 10) (v := .ref (h 16)) (C := RX10) (T := TX10) (N := 28) hx hb hts hinX10 hown hK hP 0 rfl rfl 16 (by decide) (hts (.fieldLink RX10 38 "MixedWordsModel" "offs" "[I") (by decide +kernel)) (fun _ h9 => h9) rfl dX10_nearest_51 ?_
      refine lv_iload_n hx hb dX10_nearest_54 rfl (lv_at hl 2 rfl) ?_
      refine xa_iald hx hb hK hP 7 0 rfl rfl (by omega) (by decide) dX10_nearest_55 ?_
      refine xt_i (y := nI 0) (by decide +kernel) ?_
      refine lv_icmp_lt (tgt := 81) hx hb dX10_nearest_56 (by decide) (fun c9 => False.elim (by revert c9; decide +kernel)) (fun _ => ?_)
      refine lv_aload_n hx hb dX10_nearest_59 rfl (lv_at hl 4 rfl) ?_
      refine va_get (D := (dC, dI)) (ci := 10) (v := .ref (h 16)) (C := RX10) (T := TX10) (N := 28) hx hb hts hinX10 hown hK hP 0 rfl rfl 16 (by decide) (hts (.fieldLink RX10 38 "MixedWordsModel" "offs" "[I") (by decide +kernel)) (fun _ h9 => h9) rfl dX10_nearest_60 ?_
      refine lv_iload hx hb dX10_nearest_63 (lv_at hl 0 rfl) ?_
      refine xa_iald hx hb hK hP 7 0 rfl rfl (by omega) (by decide) dX10_nearest_65 ?_
      refine xt_i (y := nI 0) (by decide +kernel) ?_
      refine lv_aload_n hx hb dX10_nearest_66 rfl (lv_at hl 4 rfl) ?_
      refine va_get (D := (dC, dI)) (ci := 10) (v := .ref (h 16)) (C := RX10) (T := TX10) (N := 28) hx hb hts hinX10 hown hK hP 0 rfl rfl 16 (by decide) (hts (.fieldLink RX10 38 "MixedWordsModel" "offs" "[I") (by decide +kernel)) (fun _ h9 => h9) rfl dX10_nearest_67 ?_
      refine lv_iload_n hx hb dX10_nearest_70 rfl (lv_at hl 2 rfl) ?_
      refine xa_iald hx hb hK hP 7 0 rfl rfl (by omega) (by decide) dX10_nearest_71 ?_
      refine xt_i (y := nI 0) (by decide +kernel) ?_
      refine lv_icmp_ne (tgt := 85) hx hb dX10_nearest_72 (by decide) (fun c9 => False.elim (by revert c9; decide +kernel)) (fun _ => ?_)
      refine lv_iload hx hb dX10_nearest_75 (lv_at hl 0 rfl) ?_
      refine lv_iload_n hx hb dX10_nearest_77 rfl (lv_at hl 2 rfl) ?_
      refine lv_icmp_ge (tgt := 85) hx hb dX10_nearest_78 (by decide) (fun _ => ?_) (fun c9 => False.elim (by revert c9; decide +kernel))
      refine lv_iconst (v := nI 0) hx hb dX10_nearest_85 (by decide) ?_
      refine lv_iadd hx hb dX10_nearest_86 ?_
      refine xt_i (y := nI 0) (by decide +kernel) ?_
      refine lv_istore (lv' := [(4, .int (nI 0)), (5, .int (nI 3)), (3, .int (nI 0)), (2, .int (-1)), (0, .ref (h 0)), (1, .int (nI 0))]) hx hb dX10_nearest_87 hl (by decide) rfl (fun ls hl => ?_)
      refine lv_iinc (v := nI 4) (lv' := [(5, .int (nI 4)), (4, .int (nI 0)), (3, .int (nI 0)), (2, .int (-1)), (0, .ref (h 0)), (1, .int (nI 0))]) hx hb dX10_nearest_89 hl (k := 1) rfl (by decide +kernel) (by decide) rfl (fun ls hl => ?_)
      refine lv_goto (tgt := 32) hx hb dX10_nearest_92 (by decide) ?_
      refine lv_iload hx hb dX10_nearest_32 (lv_at hl 0 rfl) ?_
      refine lv_aload_n hx hb dX10_nearest_34 rfl (lv_at hl 4 rfl) ?_
      refine xj_i (wc := (wD_177 h cs gI gL gA gQ)) (wr := ([] : va_W)) hP hD hS hA [0, 1, 2, 3, 4, 5, 6, 7, 8, 9, 10, 11, 12, 13, 14, 15, 16] [] rfl rfl (by decide) (by decide) (va_runV (As := []) (rest := [.int (nI 4)]) ⟨hx, hb, hml, hown, hts⟩ (a_X10_words_179 l dC dI h cs H.size gI gL gA gQ ) (cwV 0 hts gX10_nearest_X10_words rfl rfl rfl (by decide +kernel) ⟨Nat.le_of_ble_eq_true rfl, Nat.le_of_ble_eq_true rfl⟩) (xpV (wc := (wD_177 h cs gI gL gA gQ)) hP hD hK hN [0, 1, 2, 3, 4, 5, 6, 7, 8, 9, 10, 11, 12, 13, 14, 15, 16] rfl (by decide) 0 (ci := 10) rfl rfl _) rfl rfl hl.1 rfl (lv_room (Nat.le_of_ble_eq_true rfl)) dX10_nearest_35 ⟨Nat.zero_le _, Nat.zero_le _⟩) (fun r_23 u_22 H locs hw hP hD hS => ?_)
      obtain ⟨hf_24, rfl⟩ := hw
      have hP : va_P (dC, dI) vwCl (rW h cs gI gL gA gQ) H := hP
      have hD : va_D A0 (rW h cs gI gL gA gQ) := hD
      obtain rfl := hf_24
      refine lv_icmp_ge (tgt := 95) hx hb dX10_nearest_38 (by decide) (fun _ => ?_) (fun c9 => False.elim (by revert c9; decide +kernel))
      refine lv_iload hx hb dX10_nearest_95 (lv_at hl 1 rfl) ?_
      refine lv_iload_n hx hb dX10_nearest_97 rfl (lv_at hl 5 rfl) ?_
      refine lv_icmp_ne (tgt := 105) hx hb dX10_nearest_98 (by decide) (fun c9 => False.elim (by revert c9; decide +kernel)) (fun _ => ?_)
      refine lv_iload_n hx hb dX10_nearest_101 rfl (lv_at hl 2 rfl) ?_
      refine lv_goto (tgt := 106) hx hb dX10_nearest_102 (by decide) ?_
      refine lv_istore_n (lv' := [(2, .int (nI 0)), (5, .int (nI 4)), (4, .int (nI 0)), (3, .int (nI 0)), (0, .ref (h 0)), (1, .int (nI 0))]) hx hb dX10_nearest_106 rfl hl (by decide) rfl (fun ls hl => ?_)
      refine lv_iinc (v := nI 1) (lv' := [(3, .int (nI 1)), (2, .int (nI 0)), (5, .int (nI 4)), (4, .int (nI 0)), (0, .ref (h 0)), (1, .int (nI 0))]) hx hb dX10_nearest_107 hl (k := 3) rfl (by decide +kernel) (by decide) rfl (fun ls hl => ?_)
      refine lv_goto (tgt := 18) hx hb dX10_nearest_110 (by decide) ?_
      refine lv_iload_n hx hb dX10_nearest_18 rfl (lv_at hl 0 rfl) ?_
      refine lv_aload_n hx hb dX10_nearest_19 rfl (lv_at hl 4 rfl) ?_
      refine xj_i (wc := (wD_177 h cs gI gL gA gQ)) (wr := ([] : va_W)) hP hD hS hA [0, 1, 2, 3, 4, 5, 6, 7, 8, 9, 10, 11, 12, 13, 14, 15, 16] [] rfl rfl (by decide) (by decide) (va_runV (As := []) (rest := [.int (nI 1)]) ⟨hx, hb, hml, hown, hts⟩ (a_X10_words_179 l dC dI h cs H.size gI gL gA gQ ) (cwV 0 hts gX10_nearest_X10_words rfl rfl rfl (by decide +kernel) ⟨Nat.le_of_ble_eq_true rfl, Nat.le_of_ble_eq_true rfl⟩) (xpV (wc := (wD_177 h cs gI gL gA gQ)) hP hD hK hN [0, 1, 2, 3, 4, 5, 6, 7, 8, 9, 10, 11, 12, 13, 14, 15, 16] rfl (by decide) 0 (ci := 10) rfl rfl _) rfl rfl hl.1 rfl (lv_room (Nat.le_of_ble_eq_true rfl)) dX10_nearest_20 ⟨Nat.zero_le _, Nat.zero_le _⟩) (fun r_26 u_25 H locs hw hP hD hS => ?_)
      obtain ⟨hf_27, rfl⟩ := hw
      have hP : va_P (dC, dI) vwCl (rW h cs gI gL gA gQ) H := hP
      have hD : va_D A0 (rW h cs gI gL gA gQ) := hD
      obtain rfl := hf_27
      refine lv_icmp_ge (tgt := 113) hx hb dX10_nearest_23 (by decide) (fun c9 => False.elim (by revert c9; decide +kernel)) (fun _ => ?_)
      refine lv_iconst (v := nI 0) hx hb dX10_nearest_26 (by decide) ?_
      refine lv_istore (lv' := [(4, .int (nI 0)), (3, .int (nI 1)), (2, .int (nI 0)), (5, .int (nI 4)), (0, .ref (h 0)), (1, .int (nI 0))]) hx hb dX10_nearest_27 hl (by decide) rfl (fun ls hl => ?_)
      refine lv_iconst (v := nI 0) hx hb dX10_nearest_29 (by decide) ?_
      refine lv_istore (lv' := [(5, .int (nI 0)), (4, .int (nI 0)), (3, .int (nI 1)), (2, .int (nI 0)), (0, .ref (h 0)), (1, .int (nI 0))]) hx hb dX10_nearest_30 hl (by decide) rfl (fun ls hl => ?_)
      refine lv_iload hx hb dX10_nearest_32 (lv_at hl 0 rfl) ?_
      refine lv_aload_n hx hb dX10_nearest_34 rfl (lv_at hl 4 rfl) ?_
      refine xj_i (wc := (wD_177 h cs gI gL gA gQ)) (wr := ([] : va_W)) hP hD hS hA [0, 1, 2, 3, 4, 5, 6, 7, 8, 9, 10, 11, 12, 13, 14, 15, 16] [] rfl rfl (by decide) (by decide) (va_runV (As := []) (rest := [.int (nI 0)]) ⟨hx, hb, hml, hown, hts⟩ (a_X10_words_179 l dC dI h cs H.size gI gL gA gQ ) (cwV 0 hts gX10_nearest_X10_words rfl rfl rfl (by decide +kernel) ⟨Nat.le_of_ble_eq_true rfl, Nat.le_of_ble_eq_true rfl⟩) (xpV (wc := (wD_177 h cs gI gL gA gQ)) hP hD hK hN [0, 1, 2, 3, 4, 5, 6, 7, 8, 9, 10, 11, 12, 13, 14, 15, 16] rfl (by decide) 0 (ci := 10) rfl rfl _) rfl rfl hl.1 rfl (lv_room (Nat.le_of_ble_eq_true rfl)) dX10_nearest_35 ⟨Nat.zero_le _, Nat.zero_le _⟩) (fun r_29 u_28 H locs hw hP hD hS => ?_)
      obtain ⟨hf_30, rfl⟩ := hw
      have hP : va_P (dC, dI) vwCl (rW h cs gI gL gA gQ) H := hP
      have hD : va_D A0 (rW h cs gI gL gA gQ) := hD
      obtain rfl := hf_30
      refine lv_icmp_ge (tgt := 95) hx hb dX10_nearest_38 (by decide) (fun c9 => False.elim (by revert c9; decide +kernel)) (fun _ => ?_)
      refine lv_iload hx hb dX10_nearest_41 (lv_at hl 1 rfl) ?_
      refine lv_aload_n hx hb dX10_nearest_43 rfl (lv_at hl 4 rfl) ?_
      refine va_get (D := (dC, dI)) (ci := 10) (v := .ref (h 16)) (C := RX10) (T := TX10) (N := 28) hx hb hts hinX10 hown hK hP 0 rfl rfl 16 (by decide) (hts (.fieldLink RX10 38 "MixedWordsModel" "offs" "[I") (by decide +kernel)) (fun _ h9 => h9) rfl dX10_nearest_44 ?_
      refine lv_iload hx hb dX10_nearest_47 (lv_at hl 0 rfl) ?_
      refine xa_iald hx hb hK hP 7 0 rfl rfl (by omega) (by decide) dX10_nearest_49 ?_
      refine xt_i (y := nI 0) (by decide +kernel) ?_
      refine lv_aload_n hx hb dX10_nearest_50 rfl (lv_at hl 4 rfl) ?_
      refine va_get (D := (dC, dI)) (ci := 10) (v := .ref (h 16)) (C := RX10) (T := TX10) (N := 28) hx hb hts hinX10 hown hK hP 0 rfl rfl 16 (by decide) (hts (.fieldLink RX10 38 "MixedWordsModel" "offs" "[I") (by decide +kernel)) (fun _ h9 => h9) rfl dX10_nearest_51 ?_
      refine lv_iload_n hx hb dX10_nearest_54 rfl (lv_at hl 2 rfl) ?_
      refine xa_iald hx hb hK hP 7 0 rfl rfl (by omega) (by decide) dX10_nearest_55 ?_
      refine xt_i (y := nI 0) (by decide +kernel) ?_
      refine lv_icmp_lt (tgt := 81) hx hb dX10_nearest_56 (by decide) (fun c9 => False.elim (by revert c9; decide +kernel)) (fun _ => ?_)
      refine lv_aload_n hx hb dX10_nearest_59 rfl (lv_at hl 4 rfl) ?_
      refine va_get (D := (dC, dI)) (ci := 10) (v := .ref (h 16)) (C := RX10) (T := TX10) (N := 28) hx hb hts hinX10 hown hK hP 0 rfl rfl 16 (by decide) (hts (.fieldLink RX10 38 "MixedWordsModel" "offs" "[I") (by decide +kernel)) (fun _ h9 => h9) rfl dX10_nearest_60 ?_
      refine lv_iload hx hb dX10_nearest_63 (lv_at hl 0 rfl) ?_
      refine xa_iald hx hb hK hP 7 0 rfl rfl (by omega) (by decide) dX10_nearest_65 ?_
      refine xt_i (y := nI 0) (by decide +kernel) ?_
      refine lv_aload_n hx hb dX10_nearest_66 rfl (lv_at hl 4 rfl) ?_
      refine va_get (D := (dC, dI)) (ci := 10) (v := .ref (h 16)) (C := RX10) (T := TX10) (N := 28) hx hb hts hinX10 hown hK hP 0 rfl rfl 16 (by decide) (hts (.fieldLink RX10 38 "MixedWordsModel" "offs" "[I") (by decide +kernel)) (fun _ h9 => h9) rfl dX10_nearest_67 ?_
      refine lv_iload_n hx hb dX10_nearest_70 rfl (lv_at hl 2 rfl) ?_
      refine xa_iald hx hb hK hP 7 0 rfl rfl (by omega) (by decide) dX10_nearest_71 ?_
      refine xt_i (y := nI 0) (by decide +kernel) ?_
      refine lv_icmp_ne (tgt := 85) hx hb dX10_nearest_72 (by decide) (fun c9 => False.elim (by revert c9; decide +kernel)) (fun _ => ?_)
      refine lv_iload hx hb dX10_nearest_75 (lv_at hl 0 rfl) ?_
      refine lv_iload_n hx hb dX10_nearest_77 rfl (lv_at hl 2 rfl) ?_
      refine lv_icmp_ge (tgt := 85) hx hb dX10_nearest_78 (by decide) (fun c9 => False.elim (by revert c9; decide +kernel)) (fun _ => ?_)
      refine lv_iconst (v := nI 1) hx hb dX10_nearest_81 (by decide) ?_
      refine lv_goto (tgt := 86) hx hb dX10_nearest_82 (by decide) ?_
      refine lv_iadd hx hb dX10_nearest_86 ?_
      refine xt_i (y := nI 1) (by decide +kernel) ?_
      refine lv_istore (lv' := [(4, .int (nI 1)), (5, .int (nI 0)), (3, .int (nI 1)), (2, .int (nI 0)), (0, .ref (h 0)), (1, .int (nI 0))]) hx hb dX10_nearest_87 hl (by decide) rfl (fun ls hl => ?_)
      refine lv_iinc (v := nI 1) (lv' := [(5, .int (nI 1)), (4, .int (nI 1)), (3, .int (nI 1)), (2, .int (nI 0)), (0, .ref (h 0)), (1, .int (nI 0))]) hx hb dX10_nearest_89 hl (k := 1) rfl (by decide +kernel) (by decide) rfl (fun ls hl => ?_)
      refine lv_goto (tgt := 32) hx hb dX10_nearest_92 (by decide) ?_
      refine lv_iload hx hb dX10_nearest_32 (lv_at hl 0 rfl) ?_
      refine lv_aload_n hx hb dX10_nearest_34 rfl (lv_at hl 4 rfl) ?_
      refine xj_i (wc := (wD_177 h cs gI gL gA gQ)) (wr := ([] : va_W)) hP hD hS hA [0, 1, 2, 3, 4, 5, 6, 7, 8, 9, 10, 11, 12, 13, 14, 15, 16] [] rfl rfl (by decide) (by decide) (va_runV (As := []) (rest := [.int (nI 1)]) ⟨hx, hb, hml, hown, hts⟩ (a_X10_words_179 l dC dI h cs H.size gI gL gA gQ ) (cwV 0 hts gX10_nearest_X10_words rfl rfl rfl (by decide +kernel) ⟨Nat.le_of_ble_eq_true rfl, Nat.le_of_ble_eq_true rfl⟩) (xpV (wc := (wD_177 h cs gI gL gA gQ)) hP hD hK hN [0, 1, 2, 3, 4, 5, 6, 7, 8, 9, 10, 11, 12, 13, 14, 15, 16] rfl (by decide) 0 (ci := 10) rfl rfl _) rfl rfl hl.1 rfl (lv_room (Nat.le_of_ble_eq_true rfl)) dX10_nearest_35 ⟨Nat.zero_le _, Nat.zero_le _⟩) (fun r_32 u_31 H locs hw hP hD hS => ?_)
      obtain ⟨hf_33, rfl⟩ := hw
      have hP : va_P (dC, dI) vwCl (rW h cs gI gL gA gQ) H := hP
      have hD : va_D A0 (rW h cs gI gL gA gQ) := hD
      obtain rfl := hf_33
      refine lv_icmp_ge (tgt := 95) hx hb dX10_nearest_38 (by decide) (fun c9 => False.elim (by revert c9; decide +kernel)) (fun _ => ?_)
      refine lv_iload hx hb dX10_nearest_41 (lv_at hl 1 rfl) ?_
      refine lv_aload_n hx hb dX10_nearest_43 rfl (lv_at hl 4 rfl) ?_
      refine va_get (D := (dC, dI)) (ci := 10) (v := .ref (h 16)) (C := RX10) (T := TX10) (N := 28) hx hb hts hinX10 hown hK hP 0 rfl rfl 16 (by decide) (hts (.fieldLink RX10 38 "MixedWordsModel" "offs" "[I") (by decide +kernel)) (fun _ h9 => h9) rfl dX10_nearest_44 ?_
      refine lv_iload hx hb dX10_nearest_47 (lv_at hl 0 rfl) ?_
      refine xa_iald hx hb hK hP 7 0 rfl rfl (by omega) (by decide) dX10_nearest_49 ?_
      refine xt_i (y := nI 0) (by decide +kernel) ?_
      refine lv_aload_n hx hb dX10_nearest_50 rfl (lv_at hl 4 rfl) ?_
      refine va_get (D := (dC, dI)) (ci := 10) (v := .ref (h 16)) (C := RX10) (T := TX10) (N := 28) hx hb hts hinX10 hown hK hP 0 rfl rfl 16 (by decide) (hts (.fieldLink RX10 38 "MixedWordsModel" "offs" "[I") (by decide +kernel)) (fun _ h9 => h9) rfl dX10_nearest_51 ?_
      refine lv_iload_n hx hb dX10_nearest_54 rfl (lv_at hl 2 rfl) ?_
      refine xa_iald hx hb hK hP 7 0 rfl rfl (by omega) (by decide) dX10_nearest_55 ?_
      refine xt_i (y := nI 0) (by decide +kernel) ?_
      refine lv_icmp_lt (tgt := 81) hx hb dX10_nearest_56 (by decide) (fun c9 => False.elim (by revert c9; decide +kernel)) (fun _ => ?_)
      refine lv_aload_n hx hb dX10_nearest_59 rfl (lv_at hl 4 rfl) ?_
      refine va_get (D := (dC, dI)) (ci := 10) (v := .ref (h 16)) (C := RX10) (T := TX10) (N := 28) hx hb hts hinX10 hown hK hP 0 rfl rfl 16 (by decide) (hts (.fieldLink RX10 38 "MixedWordsModel" "offs" "[I") (by decide +kernel)) (fun _ h9 => h9) rfl dX10_nearest_60 ?_
      refine lv_iload hx hb dX10_nearest_63 (lv_at hl 0 rfl) ?_
      refine xa_iald hx hb hK hP 7 0 rfl rfl (by omega) (by decide) dX10_nearest_65 ?_
      refine xt_i (y := nI 0) (by decide +kernel) ?_
      refine lv_aload_n hx hb dX10_nearest_66 rfl (lv_at hl 4 rfl) ?_
      refine va_get (D := (dC, dI)) (ci := 10) (v := .ref (h 16)) (C := RX10) (T := TX10) (N := 28) hx hb hts hinX10 hown hK hP 0 rfl rfl 16 (by decide) (hts (.fieldLink RX10 38 "MixedWordsModel" "offs" "[I") (by decide +kernel)) (fun _ h9 => h9) rfl dX10_nearest_67 ?_
      refine lv_iload_n hx hb dX10_nearest_70 rfl (lv_at hl 2 rfl) ?_
      refine xa_iald hx hb hK hP 7 0 rfl rfl (by omega) (by decide) dX10_nearest_71 ?_
      refine xt_i (y := nI 0) (by decide +kernel) ?_
      refine lv_icmp_ne (tgt := 85) hx hb dX10_nearest_72 (by decide) (fun c9 => False.elim (by revert c9; decide +kernel)) (fun _ => ?_)
      refine lv_iload hx hb dX10_nearest_75 (lv_at hl 0 rfl) ?_
      refine lv_iload_n hx hb dX10_nearest_77 rfl (lv_at hl 2 rfl) ?_
      refine lv_icmp_ge (tgt := 85) hx hb dX10_nearest_78 (by decide) (fun _ => ?_) (fun c9 => False.elim (by revert c9; decide +kernel))
      refine lv_iconst (v := nI 0) hx hb dX10_nearest_85 (by decide) ?_
      refine lv_iadd hx hb dX10_nearest_86 ?_
      refine xt_i (y := nI 1) (by decide +kernel) ?_
      refine lv_istore (lv' := [(4, .int (nI 1)), (5, .int (nI 1)), (3, .int (nI 1)), (2, .int (nI 0)), (0, .ref (h 0)), (1, .int (nI 0))]) hx hb dX10_nearest_87 hl (by decide) rfl (fun ls hl => ?_)
      refine lv_iinc (v := nI 2) (lv' := [(5, .int (nI 2)), (4, .int (nI 1)), (3, .int (nI 1)), (2, .int (nI 0)), (0, .ref (h 0)), (1, .int (nI 0))]) hx hb dX10_nearest_89 hl (k := 1) rfl (by decide +kernel) (by decide) rfl (fun ls hl => ?_)
      refine lv_goto (tgt := 32) hx hb dX10_nearest_92 (by decide) ?_
      refine lv_iload hx hb dX10_nearest_32 (lv_at hl 0 rfl) ?_
      refine lv_aload_n hx hb dX10_nearest_34 rfl (lv_at hl 4 rfl) ?_
      refine xj_i (wc := (wD_177 h cs gI gL gA gQ)) (wr := ([] : va_W)) hP hD hS hA [0, 1, 2, 3, 4, 5, 6, 7, 8, 9, 10, 11, 12, 13, 14, 15, 16] [] rfl rfl (by decide) (by decide) (va_runV (As := []) (rest := [.int (nI 2)]) ⟨hx, hb, hml, hown, hts⟩ (a_X10_words_179 l dC dI h cs H.size gI gL gA gQ ) (cwV 0 hts gX10_nearest_X10_words rfl rfl rfl (by decide +kernel) ⟨Nat.le_of_ble_eq_true rfl, Nat.le_of_ble_eq_true rfl⟩) (xpV (wc := (wD_177 h cs gI gL gA gQ)) hP hD hK hN [0, 1, 2, 3, 4, 5, 6, 7, 8, 9, 10, 11, 12, 13, 14, 15, 16] rfl (by decide) 0 (ci := 10) rfl rfl _) rfl rfl hl.1 rfl (lv_room (Nat.le_of_ble_eq_true rfl)) dX10_nearest_35 ⟨Nat.zero_le _, Nat.zero_le _⟩) (fun r_35 u_34 H locs hw hP hD hS => ?_)
      obtain ⟨hf_36, rfl⟩ := hw
      have hP : va_P (dC, dI) vwCl (rW h cs gI gL gA gQ) H := hP
      have hD : va_D A0 (rW h cs gI gL gA gQ) := hD
      obtain rfl := hf_36
      refine lv_icmp_ge (tgt := 95) hx hb dX10_nearest_38 (by decide) (fun c9 => False.elim (by revert c9; decide +kernel)) (fun _ => ?_)
      refine lv_iload hx hb dX10_nearest_41 (lv_at hl 1 rfl) ?_
      refine lv_aload_n hx hb dX10_nearest_43 rfl (lv_at hl 4 rfl) ?_
      refine va_get (D := (dC, dI)) (ci := 10) (v := .ref (h 16)) (C := RX10) (T := TX10) (N := 28) hx hb hts hinX10 hown hK hP 0 rfl rfl 16 (by decide) (hts (.fieldLink RX10 38 "MixedWordsModel" "offs" "[I") (by decide +kernel)) (fun _ h9 => h9) rfl dX10_nearest_44 ?_
      refine lv_iload hx hb dX10_nearest_47 (lv_at hl 0 rfl) ?_
      refine xa_iald hx hb hK hP 7 0 rfl rfl (by omega) (by decide) dX10_nearest_49 ?_
      refine xt_i (y := nI 0) (by decide +kernel) ?_
      refine lv_aload_n hx hb dX10_nearest_50 rfl (lv_at hl 4 rfl) ?_
      refine va_get (D := (dC, dI)) (ci := 10) (v := .ref (h 16)) (C := RX10) (T := TX10) (N := 28) hx hb hts hinX10 hown hK hP 0 rfl rfl 16 (by decide) (hts (.fieldLink RX10 38 "MixedWordsModel" "offs" "[I") (by decide +kernel)) (fun _ h9 => h9) rfl dX10_nearest_51 ?_
      refine lv_iload_n hx hb dX10_nearest_54 rfl (lv_at hl 2 rfl) ?_
      refine xa_iald hx hb hK hP 7 0 rfl rfl (by omega) (by decide) dX10_nearest_55 ?_
      refine xt_i (y := nI 0) (by decide +kernel) ?_
      refine lv_icmp_lt (tgt := 81) hx hb dX10_nearest_56 (by decide) (fun c9 => False.elim (by revert c9; decide +kernel)) (fun _ => ?_)
      refine lv_aload_n hx hb dX10_nearest_59 rfl (lv_at hl 4 rfl) ?_
      refine va_get (D := (dC, dI)) (ci := 10) (v := .ref (h 16)) (C := RX10) (T := TX10) (N := 28) hx hb hts hinX10 hown hK hP 0 rfl rfl 16 (by decide) (hts (.fieldLink RX10 38 "MixedWordsModel" "offs" "[I") (by decide +kernel)) (fun _ h9 => h9) rfl dX10_nearest_60 ?_
      refine lv_iload hx hb dX10_nearest_63 (lv_at hl 0 rfl) ?_
      refine xa_iald hx hb hK hP 7 0 rfl rfl (by omega) (by decide) dX10_nearest_65 ?_
      refine xt_i (y := nI 0) (by decide +kernel) ?_
      refine lv_aload_n hx hb dX10_nearest_66 rfl (lv_at hl 4 rfl) ?_
      refine va_get (D := (dC, dI)) (ci := 10) (v := .ref (h 16)) (C := RX10) (T := TX10) (N := 28) hx hb hts hinX10 hown hK hP 0 rfl rfl 16 (by decide) (hts (.fieldLink RX10 38 "MixedWordsModel" "offs" "[I") (by decide +kernel)) (fun _ h9 => h9) rfl dX10_nearest_67 ?_
      refine lv_iload_n hx hb dX10_nearest_70 rfl (lv_at hl 2 rfl) ?_
      refine xa_iald hx hb hK hP 7 0 rfl rfl (by omega) (by decide) dX10_nearest_71 ?_
      refine xt_i (y := nI 0) (by decide +kernel) ?_
      refine lv_icmp_ne (tgt := 85) hx hb dX10_nearest_72 (by decide) (fun c9 => False.elim (by revert c9; decide +kernel)) (fun _ => ?_)
      refine lv_iload hx hb dX10_nearest_75 (lv_at hl 0 rfl) ?_
      refine lv_iload_n hx hb dX10_nearest_77 rfl (lv_at hl 2 rfl) ?_
      refine lv_icmp_ge (tgt := 85) hx hb dX10_nearest_78 (by decide) (fun _ => ?_) (fun c9 => False.elim (by revert c9; decide +kernel))
      refine lv_iconst (v := nI 0) hx hb dX10_nearest_85 (by decide) ?_
      refine lv_iadd hx hb dX10_nearest_86 ?_
      refine xt_i (y := nI 1) (by decide +kernel) ?_
      refine lv_istore (lv' := [(4, .int (nI 1)), (5, .int (nI 2)), (3, .int (nI 1)), (2, .int (nI 0)), (0, .ref (h 0)), (1, .int (nI 0))]) hx hb dX10_nearest_87 hl (by decide) rfl (fun ls hl => ?_)
      refine lv_iinc (v := nI 3) (lv' := [(5, .int (nI 3)), (4, .int (nI 1)), (3, .int (nI 1)), (2, .int (nI 0)), (0, .ref (h 0)), (1, .int (nI 0))]) hx hb dX10_nearest_89 hl (k := 1) rfl (by decide +kernel) (by decide) rfl (fun ls hl => ?_)
      refine lv_goto (tgt := 32) hx hb dX10_nearest_92 (by decide) ?_
      refine lv_iload hx hb dX10_nearest_32 (lv_at hl 0 rfl) ?_
      refine lv_aload_n hx hb dX10_nearest_34 rfl (lv_at hl 4 rfl) ?_
      refine xj_i (wc := (wD_177 h cs gI gL gA gQ)) (wr := ([] : va_W)) hP hD hS hA [0, 1, 2, 3, 4, 5, 6, 7, 8, 9, 10, 11, 12, 13, 14, 15, 16] [] rfl rfl (by decide) (by decide) (va_runV (As := []) (rest := [.int (nI 3)]) ⟨hx, hb, hml, hown, hts⟩ (a_X10_words_179 l dC dI h cs H.size gI gL gA gQ ) (cwV 0 hts gX10_nearest_X10_words rfl rfl rfl (by decide +kernel) ⟨Nat.le_of_ble_eq_true rfl, Nat.le_of_ble_eq_true rfl⟩) (xpV (wc := (wD_177 h cs gI gL gA gQ)) hP hD hK hN [0, 1, 2, 3, 4, 5, 6, 7, 8, 9, 10, 11, 12, 13, 14, 15, 16] rfl (by decide) 0 (ci := 10) rfl rfl _) rfl rfl hl.1 rfl (lv_room (Nat.le_of_ble_eq_true rfl)) dX10_nearest_35 ⟨Nat.zero_le _, Nat.zero_le _⟩) (fun r_38 u_37 H locs hw hP hD hS => ?_)
      obtain ⟨hf_39, rfl⟩ := hw
      have hP : va_P (dC, dI) vwCl (rW h cs gI gL gA gQ) H := hP
      have hD : va_D A0 (rW h cs gI gL gA gQ) := hD
      obtain rfl := hf_39
      refine lv_icmp_ge (tgt := 95) hx hb dX10_nearest_38 (by decide) (fun c9 => False.elim (by revert c9; decide +kernel)) (fun _ => ?_)
      refine lv_iload hx hb dX10_nearest_41 (lv_at hl 1 rfl) ?_
      refine lv_aload_n hx hb dX10_nearest_43 rfl (lv_at hl 4 rfl) ?_
      refine va_get (D := (dC, dI)) (ci := 10) (v := .ref (h 16)) (C := RX10) (T := TX10) (N := 28) hx hb hts hinX10 hown hK hP 0 rfl rfl 16 (by decide) (hts (.fieldLink RX10 38 "MixedWordsModel" "offs" "[I") (by decide +kernel)) (fun _ h9 => h9) rfl dX10_nearest_44 ?_
      refine lv_iload hx hb dX10_nearest_47 (lv_at hl 0 rfl) ?_
      refine xa_iald hx hb hK hP 7 0 rfl rfl (by omega) (by decide) dX10_nearest_49 ?_
      refine xt_i (y := nI 0) (by decide +kernel) ?_
      refine lv_aload_n hx hb dX10_nearest_50 rfl (lv_at hl 4 rfl) ?_
      refine va_get (D := (dC, dI)) (ci := 10) (v := .ref (h 16)) (C := RX10) (T := TX10) (N := 28) hx hb hts hinX10 hown hK hP 0 rfl rfl 16 (by decide) (hts (.fieldLink RX10 38 "MixedWordsModel" "offs" "[I") (by decide +kernel)) (fun _ h9 => h9) rfl dX10_nearest_51 ?_
      refine lv_iload_n hx hb dX10_nearest_54 rfl (lv_at hl 2 rfl) ?_
      refine xa_iald hx hb hK hP 7 0 rfl rfl (by omega) (by decide) dX10_nearest_55 ?_
      refine xt_i (y := nI 0) (by decide +kernel) ?_
      refine lv_icmp_lt (tgt := 81) hx hb dX10_nearest_56 (by decide) (fun c9 => False.elim (by revert c9; decide +kernel)) (fun _ => ?_)
      refine lv_aload_n hx hb dX10_nearest_59 rfl (lv_at hl 4 rfl) ?_
      refine va_get (D := (dC, dI)) (ci := 10) (v := .ref (h 16)) (C := RX10) (T := TX10) (N := 28) hx hb hts hinX10 hown hK hP 0 rfl rfl 16 (by decide) (hts (.fieldLink RX10 38 "MixedWordsModel" "offs" "[I") (by decide +kernel)) (fun _ h9 => h9) rfl dX10_nearest_60 ?_
      refine lv_iload hx hb dX10_nearest_63 (lv_at hl 0 rfl) ?_
      refine xa_iald hx hb hK hP 7 0 rfl rfl (by omega) (by decide) dX10_nearest_65 ?_
      refine xt_i (y := nI 0) (by decide +kernel) ?_
      refine lv_aload_n hx hb dX10_nearest_66 rfl (lv_at hl 4 rfl) ?_
      refine va_get (D := (dC, dI)) (ci := 10) (v := .ref (h 16)) (C := RX10) (T := TX10) (N := 28) hx hb hts hinX10 hown hK hP 0 rfl rfl 16 (by decide) (hts (.fieldLink RX10 38 "MixedWordsModel" "offs" "[I") (by decide +kernel)) (fun _ h9 => h9) rfl dX10_nearest_67 ?_
      refine lv_iload_n hx hb dX10_nearest_70 rfl (lv_at hl 2 rfl) ?_
      refine xa_iald hx hb hK hP 7 0 rfl rfl (by omega) (by decide) dX10_nearest_71 ?_
      refine xt_i (y := nI 0) (by decide +kernel) ?_
      refine lv_icmp_ne (tgt := 85) hx hb dX10_nearest_72 (by decide) (fun c9 => False.elim (by revert c9; decide +kernel)) (fun _ => ?_)
      refine lv_iload hx hb dX10_nearest_75 (lv_at hl 0 rfl) ?_
      refine lv_iload_n hx hb dX10_nearest_77 rfl (lv_at hl 2 rfl) ?_
      refine lv_icmp_ge (tgt := 85) hx hb dX10_nearest_78 (by decide) (fun _ => ?_) (fun c9 => False.elim (by revert c9; decide +kernel))
      refine lv_iconst (v := nI 0) hx hb dX10_nearest_85 (by decide) ?_
      refine lv_iadd hx hb dX10_nearest_86 ?_
      refine xt_i (y := nI 1) (by decide +kernel) ?_
      refine lv_istore (lv' := [(4, .int (nI 1)), (5, .int (nI 3)), (3, .int (nI 1)), (2, .int (nI 0)), (0, .ref (h 0)), (1, .int (nI 0))]) hx hb dX10_nearest_87 hl (by decide) rfl (fun ls hl => ?_)
      refine lv_iinc (v := nI 4) (lv' := [(5, .int (nI 4)), (4, .int (nI 1)), (3, .int (nI 1)), (2, .int (nI 0)), (0, .ref (h 0)), (1, .int (nI 0))]) hx hb dX10_nearest_89 hl (k := 1) rfl (by decide +kernel) (by decide) rfl (fun ls hl => ?_)
      refine lv_goto (tgt := 32) hx hb dX10_nearest_92 (by decide) ?_
      refine lv_iload hx hb dX10_nearest_32 (lv_at hl 0 rfl) ?_
      refine lv_aload_n hx hb dX10_nearest_34 rfl (lv_at hl 4 rfl) ?_
      refine xj_i (wc := (wD_177 h cs gI gL gA gQ)) (wr := ([] : va_W)) hP hD hS hA [0, 1, 2, 3, 4, 5, 6, 7, 8, 9, 10, 11, 12, 13, 14, 15, 16] [] rfl rfl (by decide) (by decide) (va_runV (As := []) (rest := [.int (nI 4)]) ⟨hx, hb, hml, hown, hts⟩ (a_X10_words_179 l dC dI h cs H.size gI gL gA gQ ) (cwV 0 hts gX10_nearest_X10_words rfl rfl rfl (by decide +kernel) ⟨Nat.le_of_ble_eq_true rfl, Nat.le_of_ble_eq_true rfl⟩) (xpV (wc := (wD_177 h cs gI gL gA gQ)) hP hD hK hN [0, 1, 2, 3, 4, 5, 6, 7, 8, 9, 10, 11, 12, 13, 14, 15, 16] rfl (by decide) 0 (ci := 10) rfl rfl _) rfl rfl hl.1 rfl (lv_room (Nat.le_of_ble_eq_true rfl)) dX10_nearest_35 ⟨Nat.zero_le _, Nat.zero_le _⟩) (fun r_41 u_40 H locs hw hP hD hS => ?_)
      obtain ⟨hf_42, rfl⟩ := hw
      have hP : va_P (dC, dI) vwCl (rW h cs gI gL gA gQ) H := hP
      have hD : va_D A0 (rW h cs gI gL gA gQ) := hD
      obtain rfl := hf_42
      refine lv_icmp_ge (tgt := 95) hx hb dX10_nearest_38 (by decide) (fun _ => ?_) (fun c9 => False.elim (by revert c9; decide +kernel))
      refine lv_iload hx hb dX10_nearest_95 (lv_at hl 1 rfl) ?_
      refine lv_iload_n hx hb dX10_nearest_97 rfl (lv_at hl 5 rfl) ?_
      refine lv_icmp_ne (tgt := 105) hx hb dX10_nearest_98 (by decide) (fun _ => ?_) (fun c9 => False.elim (by revert c9; decide +kernel))
      refine lv_iload_n hx hb dX10_nearest_105 rfl (lv_at hl 3 rfl) ?_
      refine lv_istore_n (lv' := [(2, .int (nI 0)), (5, .int (nI 4)), (4, .int (nI 1)), (3, .int (nI 1)), (0, .ref (h 0)), (1, .int (nI 0))]) hx hb dX10_nearest_106 rfl hl (by decide) rfl (fun ls hl => ?_)
      refine lv_iinc (v := nI 2) (lv' := [(3, .int (nI 2)), (2, .int (nI 0)), (5, .int (nI 4)), (4, .int (nI 1)), (0, .ref (h 0)), (1, .int (nI 0))]) hx hb dX10_nearest_107 hl (k := 3) rfl (by decide +kernel) (by decide) rfl (fun ls hl => ?_)
      refine lv_goto (tgt := 18) hx hb dX10_nearest_110 (by decide) ?_
      refine lv_iload_n hx hb dX10_nearest_18 rfl (lv_at hl 0 rfl) ?_
      refine lv_aload_n hx hb dX10_nearest_19 rfl (lv_at hl 4 rfl) ?_
      refine xj_i (wc := (wD_177 h cs gI gL gA gQ)) (wr := ([] : va_W)) hP hD hS hA [0, 1, 2, 3, 4, 5, 6, 7, 8, 9, 10, 11, 12, 13, 14, 15, 16] [] rfl rfl (by decide) (by decide) (va_runV (As := []) (rest := [.int (nI 2)]) ⟨hx, hb, hml, hown, hts⟩ (a_X10_words_179 l dC dI h cs H.size gI gL gA gQ ) (cwV 0 hts gX10_nearest_X10_words rfl rfl rfl (by decide +kernel) ⟨Nat.le_of_ble_eq_true rfl, Nat.le_of_ble_eq_true rfl⟩) (xpV (wc := (wD_177 h cs gI gL gA gQ)) hP hD hK hN [0, 1, 2, 3, 4, 5, 6, 7, 8, 9, 10, 11, 12, 13, 14, 15, 16] rfl (by decide) 0 (ci := 10) rfl rfl _) rfl rfl hl.1 rfl (lv_room (Nat.le_of_ble_eq_true rfl)) dX10_nearest_20 ⟨Nat.zero_le _, Nat.zero_le _⟩) (fun r_44 u_43 H locs hw hP hD hS => ?_)
      obtain ⟨hf_45, rfl⟩ := hw
      have hP : va_P (dC, dI) vwCl (rW h cs gI gL gA gQ) H := hP
      have hD : va_D A0 (rW h cs gI gL gA gQ) := hD
      obtain rfl := hf_45
      refine lv_icmp_ge (tgt := 113) hx hb dX10_nearest_23 (by decide) (fun c9 => False.elim (by revert c9; decide +kernel)) (fun _ => ?_)
      refine lv_iconst (v := nI 0) hx hb dX10_nearest_26 (by decide) ?_
      refine lv_istore (lv' := [(4, .int (nI 0)), (3, .int (nI 2)), (2, .int (nI 0)), (5, .int (nI 4)), (0, .ref (h 0)), (1, .int (nI 0))]) hx hb dX10_nearest_27 hl (by decide) rfl (fun ls hl => ?_)
      refine lv_iconst (v := nI 0) hx hb dX10_nearest_29 (by decide) ?_
      refine lv_istore (lv' := [(5, .int (nI 0)), (4, .int (nI 0)), (3, .int (nI 2)), (2, .int (nI 0)), (0, .ref (h 0)), (1, .int (nI 0))]) hx hb dX10_nearest_30 hl (by decide) rfl (fun ls hl => ?_)
      refine lv_iload hx hb dX10_nearest_32 (lv_at hl 0 rfl) ?_
      refine lv_aload_n hx hb dX10_nearest_34 rfl (lv_at hl 4 rfl) ?_
      refine xj_i (wc := (wD_177 h cs gI gL gA gQ)) (wr := ([] : va_W)) hP hD hS hA [0, 1, 2, 3, 4, 5, 6, 7, 8, 9, 10, 11, 12, 13, 14, 15, 16] [] rfl rfl (by decide) (by decide) (va_runV (As := []) (rest := [.int (nI 0)]) ⟨hx, hb, hml, hown, hts⟩ (a_X10_words_179 l dC dI h cs H.size gI gL gA gQ ) (cwV 0 hts gX10_nearest_X10_words rfl rfl rfl (by decide +kernel) ⟨Nat.le_of_ble_eq_true rfl, Nat.le_of_ble_eq_true rfl⟩) (xpV (wc := (wD_177 h cs gI gL gA gQ)) hP hD hK hN [0, 1, 2, 3, 4, 5, 6, 7, 8, 9, 10, 11, 12, 13, 14, 15, 16] rfl (by decide) 0 (ci := 10) rfl rfl _) rfl rfl hl.1 rfl (lv_room (Nat.le_of_ble_eq_true rfl)) dX10_nearest_35 ⟨Nat.zero_le _, Nat.zero_le _⟩) (fun r_47 u_46 H locs hw hP hD hS => ?_)
      obtain ⟨hf_48, rfl⟩ := hw
      have hP : va_P (dC, dI) vwCl (rW h cs gI gL gA gQ) H := hP
      have hD : va_D A0 (rW h cs gI gL gA gQ) := hD
      obtain rfl := hf_48
      refine lv_icmp_ge (tgt := 95) hx hb dX10_nearest_38 (by decide) (fun c9 => False.elim (by revert c9; decide +kernel)) (fun _ => ?_)
      refine lv_iload hx hb dX10_nearest_41 (lv_at hl 1 rfl) ?_
      refine lv_aload_n hx hb dX10_nearest_43 rfl (lv_at hl 4 rfl) ?_
      refine va_get (D := (dC, dI)) (ci := 10) (v := .ref (h 16)) (C := RX10) (T := TX10) (N := 28) hx hb hts hinX10 hown hK hP 0 rfl rfl 16 (by decide) (hts (.fieldLink RX10 38 "MixedWordsModel" "offs" "[I") (by decide +kernel)) (fun _ h9 => h9) rfl dX10_nearest_44 ?_
      refine lv_iload hx hb dX10_nearest_47 (lv_at hl 0 rfl) ?_
      refine xa_iald hx hb hK hP 7 0 rfl rfl (by omega) (by decide) dX10_nearest_49 ?_
      refine xt_i (y := nI 0) (by decide +kernel) ?_
      refine lv_aload_n hx hb dX10_nearest_50 rfl (lv_at hl 4 rfl) ?_
      refine va_get (D := (dC, dI)) (ci := 10) (v := .ref (h 16)) (C := RX10) (T := TX10) (N := 28) hx hb hts hinX10 hown hK hP 0 rfl rfl 16 (by decide) (hts (.fieldLink RX10 38 "MixedWordsModel" "offs" "[I") (by decide +kernel)) (fun _ h9 => h9) rfl dX10_nearest_51 ?_
      refine lv_iload_n hx hb dX10_nearest_54 rfl (lv_at hl 2 rfl) ?_
      refine xa_iald hx hb hK hP 7 0 rfl rfl (by omega) (by decide) dX10_nearest_55 ?_
      refine xt_i (y := nI 0) (by decide +kernel) ?_
      refine lv_icmp_lt (tgt := 81) hx hb dX10_nearest_56 (by decide) (fun c9 => False.elim (by revert c9; decide +kernel)) (fun _ => ?_)
      refine lv_aload_n hx hb dX10_nearest_59 rfl (lv_at hl 4 rfl) ?_
      refine va_get (D := (dC, dI)) (ci := 10) (v := .ref (h 16)) (C := RX10) (T := TX10) (N := 28) hx hb hts hinX10 hown hK hP 0 rfl rfl 16 (by decide) (hts (.fieldLink RX10 38 "MixedWordsModel" "offs" "[I") (by decide +kernel)) (fun _ h9 => h9) rfl dX10_nearest_60 ?_
      refine lv_iload hx hb dX10_nearest_63 (lv_at hl 0 rfl) ?_
      refine xa_iald hx hb hK hP 7 0 rfl rfl (by omega) (by decide) dX10_nearest_65 ?_
      refine xt_i (y := nI 0) (by decide +kernel) ?_
      refine lv_aload_n hx hb dX10_nearest_66 rfl (lv_at hl 4 rfl) ?_
      refine va_get (D := (dC, dI)) (ci := 10) (v := .ref (h 16)) (C := RX10) (T := TX10) (N := 28) hx hb hts hinX10 hown hK hP 0 rfl rfl 16 (by decide) (hts (.fieldLink RX10 38 "MixedWordsModel" "offs" "[I") (by decide +kernel)) (fun _ h9 => h9) rfl dX10_nearest_67 ?_
      refine lv_iload_n hx hb dX10_nearest_70 rfl (lv_at hl 2 rfl) ?_
      refine xa_iald hx hb hK hP 7 0 rfl rfl (by omega) (by decide) dX10_nearest_71 ?_
      refine xt_i (y := nI 0) (by decide +kernel) ?_
      refine lv_icmp_ne (tgt := 85) hx hb dX10_nearest_72 (by decide) (fun c9 => False.elim (by revert c9; decide +kernel)) (fun _ => ?_)
      refine lv_iload hx hb dX10_nearest_75 (lv_at hl 0 rfl) ?_
      refine lv_iload_n hx hb dX10_nearest_77 rfl (lv_at hl 2 rfl) ?_
      refine lv_icmp_ge (tgt := 85) hx hb dX10_nearest_78 (by decide) (fun c9 => False.elim (by revert c9; decide +kernel)) (fun _ => ?_)
      refine lv_iconst (v := nI 1) hx hb dX10_nearest_81 (by decide) ?_
      refine lv_goto (tgt := 86) hx hb dX10_nearest_82 (by decide) ?_
      refine lv_iadd hx hb dX10_nearest_86 ?_
      refine xt_i (y := nI 1) (by decide +kernel) ?_
      refine lv_istore (lv' := [(4, .int (nI 1)), (5, .int (nI 0)), (3, .int (nI 2)), (2, .int (nI 0)), (0, .ref (h 0)), (1, .int (nI 0))]) hx hb dX10_nearest_87 hl (by decide) rfl (fun ls hl => ?_)
      refine lv_iinc (v := nI 1) (lv' := [(5, .int (nI 1)), (4, .int (nI 1)), (3, .int (nI 2)), (2, .int (nI 0)), (0, .ref (h 0)), (1, .int (nI 0))]) hx hb dX10_nearest_89 hl (k := 1) rfl (by decide +kernel) (by decide) rfl (fun ls hl => ?_)
      refine lv_goto (tgt := 32) hx hb dX10_nearest_92 (by decide) ?_
      refine lv_iload hx hb dX10_nearest_32 (lv_at hl 0 rfl) ?_
      refine lv_aload_n hx hb dX10_nearest_34 rfl (lv_at hl 4 rfl) ?_
      refine xj_i (wc := (wD_177 h cs gI gL gA gQ)) (wr := ([] : va_W)) hP hD hS hA [0, 1, 2, 3, 4, 5, 6, 7, 8, 9, 10, 11, 12, 13, 14, 15, 16] [] rfl rfl (by decide) (by decide) (va_runV (As := []) (rest := [.int (nI 1)]) ⟨hx, hb, hml, hown, hts⟩ (a_X10_words_179 l dC dI h cs H.size gI gL gA gQ ) (cwV 0 hts gX10_nearest_X10_words rfl rfl rfl (by decide +kernel) ⟨Nat.le_of_ble_eq_true rfl, Nat.le_of_ble_eq_true rfl⟩) (xpV (wc := (wD_177 h cs gI gL gA gQ)) hP hD hK hN [0, 1, 2, 3, 4, 5, 6, 7, 8, 9, 10, 11, 12, 13, 14, 15, 16] rfl (by decide) 0 (ci := 10) rfl rfl _) rfl rfl hl.1 rfl (lv_room (Nat.le_of_ble_eq_true rfl)) dX10_nearest_35 ⟨Nat.zero_le _, Nat.zero_le _⟩) (fun r_50 u_49 H locs hw hP hD hS => ?_)
      obtain ⟨hf_51, rfl⟩ := hw
      have hP : va_P (dC, dI) vwCl (rW h cs gI gL gA gQ) H := hP
      have hD : va_D A0 (rW h cs gI gL gA gQ) := hD
      obtain rfl := hf_51
      refine lv_icmp_ge (tgt := 95) hx hb dX10_nearest_38 (by decide) (fun c9 => False.elim (by revert c9; decide +kernel)) (fun _ => ?_)
      refine lv_iload hx hb dX10_nearest_41 (lv_at hl 1 rfl) ?_
      refine lv_aload_n hx hb dX10_nearest_43 rfl (lv_at hl 4 rfl) ?_
      refine va_get (D := (dC, dI)) (ci := 10) (v := .ref (h 16)) (C := RX10) (T := TX10) (N := 28) hx hb hts hinX10 hown hK hP 0 rfl rfl 16 (by decide) (hts (.fieldLink RX10 38 "MixedWordsModel" "offs" "[I") (by decide +kernel)) (fun _ h9 => h9) rfl dX10_nearest_44 ?_
      refine lv_iload hx hb dX10_nearest_47 (lv_at hl 0 rfl) ?_
      refine xa_iald hx hb hK hP 7 0 rfl rfl (by omega) (by decide) dX10_nearest_49 ?_
      refine xt_i (y := nI 0) (by decide +kernel) ?_
      refine lv_aload_n hx hb dX10_nearest_50 rfl (lv_at hl 4 rfl) ?_
      refine va_get (D := (dC, dI)) (ci := 10) (v := .ref (h 16)) (C := RX10) (T := TX10) (N := 28) hx hb hts hinX10 hown hK hP 0 rfl rfl 16 (by decide) (hts (.fieldLink RX10 38 "MixedWordsModel" "offs" "[I") (by decide +kernel)) (fun _ h9 => h9) rfl dX10_nearest_51 ?_
      refine lv_iload_n hx hb dX10_nearest_54 rfl (lv_at hl 2 rfl) ?_
      refine xa_iald hx hb hK hP 7 0 rfl rfl (by omega) (by decide) dX10_nearest_55 ?_
      refine xt_i (y := nI 0) (by decide +kernel) ?_
      refine lv_icmp_lt (tgt := 81) hx hb dX10_nearest_56 (by decide) (fun c9 => False.elim (by revert c9; decide +kernel)) (fun _ => ?_)
      refine lv_aload_n hx hb dX10_nearest_59 rfl (lv_at hl 4 rfl) ?_
      refine va_get (D := (dC, dI)) (ci := 10) (v := .ref (h 16)) (C := RX10) (T := TX10) (N := 28) hx hb hts hinX10 hown hK hP 0 rfl rfl 16 (by decide) (hts (.fieldLink RX10 38 "MixedWordsModel" "offs" "[I") (by decide +kernel)) (fun _ h9 => h9) rfl dX10_nearest_60 ?_
      refine lv_iload hx hb dX10_nearest_63 (lv_at hl 0 rfl) ?_
      refine xa_iald hx hb hK hP 7 0 rfl rfl (by omega) (by decide) dX10_nearest_65 ?_
      refine xt_i (y := nI 0) (by decide +kernel) ?_
      refine lv_aload_n hx hb dX10_nearest_66 rfl (lv_at hl 4 rfl) ?_
      refine va_get (D := (dC, dI)) (ci := 10) (v := .ref (h 16)) (C := RX10) (T := TX10) (N := 28) hx hb hts hinX10 hown hK hP 0 rfl rfl 16 (by decide) (hts (.fieldLink RX10 38 "MixedWordsModel" "offs" "[I") (by decide +kernel)) (fun _ h9 => h9) rfl dX10_nearest_67 ?_
      refine lv_iload_n hx hb dX10_nearest_70 rfl (lv_at hl 2 rfl) ?_
      refine xa_iald hx hb hK hP 7 0 rfl rfl (by omega) (by decide) dX10_nearest_71 ?_
      refine xt_i (y := nI 0) (by decide +kernel) ?_
      refine lv_icmp_ne (tgt := 85) hx hb dX10_nearest_72 (by decide) (fun c9 => False.elim (by revert c9; decide +kernel)) (fun _ => ?_)
      refine lv_iload hx hb dX10_nearest_75 (lv_at hl 0 rfl) ?_
      refine lv_iload_n hx hb dX10_nearest_77 rfl (lv_at hl 2 rfl) ?_
      refine lv_icmp_ge (tgt := 85) hx hb dX10_nearest_78 (by decide) (fun c9 => False.elim (by revert c9; decide +kernel)) (fun _ => ?_)
      refine lv_iconst (v := nI 1) hx hb dX10_nearest_81 (by decide) ?_
      refine lv_goto (tgt := 86) hx hb dX10_nearest_82 (by decide) ?_
      refine lv_iadd hx hb dX10_nearest_86 ?_
      refine xt_i (y := nI 2) (by decide +kernel) ?_
      refine lv_istore (lv' := [(4, .int (nI 2)), (5, .int (nI 1)), (3, .int (nI 2)), (2, .int (nI 0)), (0, .ref (h 0)), (1, .int (nI 0))]) hx hb dX10_nearest_87 hl (by decide) rfl (fun ls hl => ?_)
      refine lv_iinc (v := nI 2) (lv' := [(5, .int (nI 2)), (4, .int (nI 2)), (3, .int (nI 2)), (2, .int (nI 0)), (0, .ref (h 0)), (1, .int (nI 0))]) hx hb dX10_nearest_89 hl (k := 1) rfl (by decide +kernel) (by decide) rfl (fun ls hl => ?_)
      refine lv_goto (tgt := 32) hx hb dX10_nearest_92 (by decide) ?_
      refine lv_iload hx hb dX10_nearest_32 (lv_at hl 0 rfl) ?_
      refine lv_aload_n hx hb dX10_nearest_34 rfl (lv_at hl 4 rfl) ?_
      refine xj_i (wc := (wD_177 h cs gI gL gA gQ)) (wr := ([] : va_W)) hP hD hS hA [0, 1, 2, 3, 4, 5, 6, 7, 8, 9, 10, 11, 12, 13, 14, 15, 16] [] rfl rfl (by decide) (by decide) (va_runV (As := []) (rest := [.int (nI 2)]) ⟨hx, hb, hml, hown, hts⟩ (a_X10_words_179 l dC dI h cs H.size gI gL gA gQ ) (cwV 0 hts gX10_nearest_X10_words rfl rfl rfl (by decide +kernel) ⟨Nat.le_of_ble_eq_true rfl, Nat.le_of_ble_eq_true rfl⟩) (xpV (wc := (wD_177 h cs gI gL gA gQ)) hP hD hK hN [0, 1, 2, 3, 4, 5, 6, 7, 8, 9, 10, 11, 12, 13, 14, 15, 16] rfl (by decide) 0 (ci := 10) rfl rfl _) rfl rfl hl.1 rfl (lv_room (Nat.le_of_ble_eq_true rfl)) dX10_nearest_35 ⟨Nat.zero_le _, Nat.zero_le _⟩) (fun r_53 u_52 H locs hw hP hD hS => ?_)
      obtain ⟨hf_54, rfl⟩ := hw
      have hP : va_P (dC, dI) vwCl (rW h cs gI gL gA gQ) H := hP
      have hD : va_D A0 (rW h cs gI gL gA gQ) := hD
      obtain rfl := hf_54
      refine lv_icmp_ge (tgt := 95) hx hb dX10_nearest_38 (by decide) (fun c9 => False.elim (by revert c9; decide +kernel)) (fun _ => ?_)
      refine lv_iload hx hb dX10_nearest_41 (lv_at hl 1 rfl) ?_
      refine lv_aload_n hx hb dX10_nearest_43 rfl (lv_at hl 4 rfl) ?_
      refine va_get (D := (dC, dI)) (ci := 10) (v := .ref (h 16)) (C := RX10) (T := TX10) (N := 28) hx hb hts hinX10 hown hK hP 0 rfl rfl 16 (by decide) (hts (.fieldLink RX10 38 "MixedWordsModel" "offs" "[I") (by decide +kernel)) (fun _ h9 => h9) rfl dX10_nearest_44 ?_
      refine lv_iload hx hb dX10_nearest_47 (lv_at hl 0 rfl) ?_
      refine xa_iald hx hb hK hP 7 0 rfl rfl (by omega) (by decide) dX10_nearest_49 ?_
      refine xt_i (y := nI 0) (by decide +kernel) ?_
      refine lv_aload_n hx hb dX10_nearest_50 rfl (lv_at hl 4 rfl) ?_
      refine va_get (D := (dC, dI)) (ci := 10) (v := .ref (h 16)) (C := RX10) (T := TX10) (N := 28) hx hb hts hinX10 hown hK hP 0 rfl rfl 16 (by decide) (hts (.fieldLink RX10 38 "MixedWordsModel" "offs" "[I") (by decide +kernel)) (fun _ h9 => h9) rfl dX10_nearest_51 ?_
      refine lv_iload_n hx hb dX10_nearest_54 rfl (lv_at hl 2 rfl) ?_
      refine xa_iald hx hb hK hP 7 0 rfl rfl (by omega) (by decide) dX10_nearest_55 ?_
      refine xt_i (y := nI 0) (by decide +kernel) ?_
      refine lv_icmp_lt (tgt := 81) hx hb dX10_nearest_56 (by decide) (fun c9 => False.elim (by revert c9; decide +kernel)) (fun _ => ?_)
      refine lv_aload_n hx hb dX10_nearest_59 rfl (lv_at hl 4 rfl) ?_
      refine va_get (D := (dC, dI)) (ci := 10) (v := .ref (h 16)) (C := RX10) (T := TX10) (N := 28) hx hb hts hinX10 hown hK hP 0 rfl rfl 16 (by decide) (hts (.fieldLink RX10 38 "MixedWordsModel" "offs" "[I") (by decide +kernel)) (fun _ h9 => h9) rfl dX10_nearest_60 ?_
      refine lv_iload hx hb dX10_nearest_63 (lv_at hl 0 rfl) ?_
      refine xa_iald hx hb hK hP 7 0 rfl rfl (by omega) (by decide) dX10_nearest_65 ?_
      refine xt_i (y := nI 0) (by decide +kernel) ?_
      refine lv_aload_n hx hb dX10_nearest_66 rfl (lv_at hl 4 rfl) ?_
      refine va_get (D := (dC, dI)) (ci := 10) (v := .ref (h 16)) (C := RX10) (T := TX10) (N := 28) hx hb hts hinX10 hown hK hP 0 rfl rfl 16 (by decide) (hts (.fieldLink RX10 38 "MixedWordsModel" "offs" "[I") (by decide +kernel)) (fun _ h9 => h9) rfl dX10_nearest_67 ?_
      refine lv_iload_n hx hb dX10_nearest_70 rfl (lv_at hl 2 rfl) ?_
      refine xa_iald hx hb hK hP 7 0 rfl rfl (by omega) (by decide) dX10_nearest_71 ?_
      refine xt_i (y := nI 0) (by decide +kernel) ?_
      refine lv_icmp_ne (tgt := 85) hx hb dX10_nearest_72 (by decide) (fun c9 => False.elim (by revert c9; decide +kernel)) (fun _ => ?_)
      refine lv_iload hx hb dX10_nearest_75 (lv_at hl 0 rfl) ?_
      refine lv_iload_n hx hb dX10_nearest_77 rfl (lv_at hl 2 rfl) ?_
      refine lv_icmp_ge (tgt := 85) hx hb dX10_nearest_78 (by decide) (fun _ => ?_) (fun c9 => False.elim (by revert c9; decide +kernel))
      refine lv_iconst (v := nI 0) hx hb dX10_nearest_85 (by decide) ?_
      refine lv_iadd hx hb dX10_nearest_86 ?_
      refine xt_i (y := nI 2) (by decide +kernel) ?_
      refine lv_istore (lv' := [(4, .int (nI 2)), (5, .int (nI 2)), (3, .int (nI 2)), (2, .int (nI 0)), (0, .ref (h 0)), (1, .int (nI 0))]) hx hb dX10_nearest_87 hl (by decide) rfl (fun ls hl => ?_)
      refine lv_iinc (v := nI 3) (lv' := [(5, .int (nI 3)), (4, .int (nI 2)), (3, .int (nI 2)), (2, .int (nI 0)), (0, .ref (h 0)), (1, .int (nI 0))]) hx hb dX10_nearest_89 hl (k := 1) rfl (by decide +kernel) (by decide) rfl (fun ls hl => ?_)
      refine lv_goto (tgt := 32) hx hb dX10_nearest_92 (by decide) ?_
      refine lv_iload hx hb dX10_nearest_32 (lv_at hl 0 rfl) ?_
      refine lv_aload_n hx hb dX10_nearest_34 rfl (lv_at hl 4 rfl) ?_
      refine xj_i (wc := (wD_177 h cs gI gL gA gQ)) (wr := ([] : va_W)) hP hD hS hA [0, 1, 2, 3, 4, 5, 6, 7, 8, 9, 10, 11, 12, 13, 14, 15, 16] [] rfl rfl (by decide) (by decide) (va_runV (As := []) (rest := [.int (nI 3)]) ⟨hx, hb, hml, hown, hts⟩ (a_X10_words_179 l dC dI h cs H.size gI gL gA gQ ) (cwV 0 hts gX10_nearest_X10_words rfl rfl rfl (by decide +kernel) ⟨Nat.le_of_ble_eq_true rfl, Nat.le_of_ble_eq_true rfl⟩) (xpV (wc := (wD_177 h cs gI gL gA gQ)) hP hD hK hN [0, 1, 2, 3, 4, 5, 6, 7, 8, 9, 10, 11, 12, 13, 14, 15, 16] rfl (by decide) 0 (ci := 10) rfl rfl _) rfl rfl hl.1 rfl (lv_room (Nat.le_of_ble_eq_true rfl)) dX10_nearest_35 ⟨Nat.zero_le _, Nat.zero_le _⟩) (fun r_56 u_55 H locs hw hP hD hS => ?_)
      obtain ⟨hf_57, rfl⟩ := hw
      have hP : va_P (dC, dI) vwCl (rW h cs gI gL gA gQ) H := hP
      have hD : va_D A0 (rW h cs gI gL gA gQ) := hD
      obtain rfl := hf_57
      refine lv_icmp_ge (tgt := 95) hx hb dX10_nearest_38 (by decide) (fun c9 => False.elim (by revert c9; decide +kernel)) (fun _ => ?_)
      refine lv_iload hx hb dX10_nearest_41 (lv_at hl 1 rfl) ?_
      refine lv_aload_n hx hb dX10_nearest_43 rfl (lv_at hl 4 rfl) ?_
      refine va_get (D := (dC, dI)) (ci := 10) (v := .ref (h 16)) (C := RX10) (T := TX10) (N := 28) hx hb hts hinX10 hown hK hP 0 rfl rfl 16 (by decide) (hts (.fieldLink RX10 38 "MixedWordsModel" "offs" "[I") (by decide +kernel)) (fun _ h9 => h9) rfl dX10_nearest_44 ?_
      refine lv_iload hx hb dX10_nearest_47 (lv_at hl 0 rfl) ?_
      refine xa_iald hx hb hK hP 7 0 rfl rfl (by omega) (by decide) dX10_nearest_49 ?_
      refine xt_i (y := nI 0) (by decide +kernel) ?_
      refine lv_aload_n hx hb dX10_nearest_50 rfl (lv_at hl 4 rfl) ?_
      refine va_get (D := (dC, dI)) (ci := 10) (v := .ref (h 16)) (C := RX10) (T := TX10) (N := 28) hx hb hts hinX10 hown hK hP 0 rfl rfl 16 (by decide) (hts (.fieldLink RX10 38 "MixedWordsModel" "offs" "[I") (by decide +kernel)) (fun _ h9 => h9) rfl dX10_nearest_51 ?_
      refine lv_iload_n hx hb dX10_nearest_54 rfl (lv_at hl 2 rfl) ?_
      refine xa_iald hx hb hK hP 7 0 rfl rfl (by omega) (by decide) dX10_nearest_55 ?_
      refine xt_i (y := nI 0) (by decide +kernel) ?_
      refine lv_icmp_lt (tgt := 81) hx hb dX10_nearest_56 (by decide) (fun c9 => False.elim (by revert c9; decide +kernel)) (fun _ => ?_)
      refine lv_aload_n hx hb dX10_nearest_59 rfl (lv_at hl 4 rfl) ?_
      refine va_get (D := (dC, dI)) (ci := 10) (v := .ref (h 16)) (C := RX10) (T := TX10) (N := 28) hx hb hts hinX10 hown hK hP 0 rfl rfl 16 (by decide) (hts (.fieldLink RX10 38 "MixedWordsModel" "offs" "[I") (by decide +kernel)) (fun _ h9 => h9) rfl dX10_nearest_60 ?_
      refine lv_iload hx hb dX10_nearest_63 (lv_at hl 0 rfl) ?_
      refine xa_iald hx hb hK hP 7 0 rfl rfl (by omega) (by decide) dX10_nearest_65 ?_
      refine xt_i (y := nI 0) (by decide +kernel) ?_
      refine lv_aload_n hx hb dX10_nearest_66 rfl (lv_at hl 4 rfl) ?_
      refine va_get (D := (dC, dI)) (ci := 10) (v := .ref (h 16)) (C := RX10) (T := TX10) (N := 28) hx hb hts hinX10 hown hK hP 0 rfl rfl 16 (by decide) (hts (.fieldLink RX10 38 "MixedWordsModel" "offs" "[I") (by decide +kernel)) (fun _ h9 => h9) rfl dX10_nearest_67 ?_
      refine lv_iload_n hx hb dX10_nearest_70 rfl (lv_at hl 2 rfl) ?_
      refine xa_iald hx hb hK hP 7 0 rfl rfl (by omega) (by decide) dX10_nearest_71 ?_
      refine xt_i (y := nI 0) (by decide +kernel) ?_
      refine lv_icmp_ne (tgt := 85) hx hb dX10_nearest_72 (by decide) (fun c9 => False.elim (by revert c9; decide +kernel)) (fun _ => ?_)
      refine lv_iload hx hb dX10_nearest_75 (lv_at hl 0 rfl) ?_
      refine lv_iload_n hx hb dX10_nearest_77 rfl (lv_at hl 2 rfl) ?_
      refine lv_icmp_ge (tgt := 85) hx hb dX10_nearest_78 (by decide) (fun _ => ?_) (fun c9 => False.elim (by revert c9; decide +kernel))
      refine lv_iconst (v := nI 0) hx hb dX10_nearest_85 (by decide) ?_
      refine lv_iadd hx hb dX10_nearest_86 ?_
      refine xt_i (y := nI 2) (by decide +kernel) ?_
      refine lv_istore (lv' := [(4, .int (nI 2)), (5, .int (nI 3)), (3, .int (nI 2)), (2, .int (nI 0)), (0, .ref (h 0)), (1, .int (nI 0))]) hx hb dX10_nearest_87 hl (by decide) rfl (fun ls hl => ?_)
      refine lv_iinc (v := nI 4) (lv' := [(5, .int (nI 4)), (4, .int (nI 2)), (3, .int (nI 2)), (2, .int (nI 0)), (0, .ref (h 0)), (1, .int (nI 0))]) hx hb dX10_nearest_89 hl (k := 1) rfl (by decide +kernel) (by decide) rfl (fun ls hl => ?_)
      refine lv_goto (tgt := 32) hx hb dX10_nearest_92 (by decide) ?_
      refine lv_iload hx hb dX10_nearest_32 (lv_at hl 0 rfl) ?_
      refine lv_aload_n hx hb dX10_nearest_34 rfl (lv_at hl 4 rfl) ?_
      refine xj_i (wc := (wD_177 h cs gI gL gA gQ)) (wr := ([] : va_W)) hP hD hS hA [0, 1, 2, 3, 4, 5, 6, 7, 8, 9, 10, 11, 12, 13, 14, 15, 16] [] rfl rfl (by decide) (by decide) (va_runV (As := []) (rest := [.int (nI 4)]) ⟨hx, hb, hml, hown, hts⟩ (a_X10_words_179 l dC dI h cs H.size gI gL gA gQ ) (cwV 0 hts gX10_nearest_X10_words rfl rfl rfl (by decide +kernel) ⟨Nat.le_of_ble_eq_true rfl, Nat.le_of_ble_eq_true rfl⟩) (xpV (wc := (wD_177 h cs gI gL gA gQ)) hP hD hK hN [0, 1, 2, 3, 4, 5, 6, 7, 8, 9, 10, 11, 12, 13, 14, 15, 16] rfl (by decide) 0 (ci := 10) rfl rfl _) rfl rfl hl.1 rfl (lv_room (Nat.le_of_ble_eq_true rfl)) dX10_nearest_35 ⟨Nat.zero_le _, Nat.zero_le _⟩) (fun r_59 u_58 H locs hw hP hD hS => ?_)
      obtain ⟨hf_60, rfl⟩ := hw
      have hP : va_P (dC, dI) vwCl (rW h cs gI gL gA gQ) H := hP
      have hD : va_D A0 (rW h cs gI gL gA gQ) := hD
      obtain rfl := hf_60
      refine lv_icmp_ge (tgt := 95) hx hb dX10_nearest_38 (by decide) (fun _ => ?_) (fun c9 => False.elim (by revert c9; decide +kernel))
      refine lv_iload hx hb dX10_nearest_95 (lv_at hl 1 rfl) ?_
      refine lv_iload_n hx hb dX10_nearest_97 rfl (lv_at hl 5 rfl) ?_
      refine lv_icmp_ne (tgt := 105) hx hb dX10_nearest_98 (by decide) (fun _ => ?_) (fun c9 => False.elim (by revert c9; decide +kernel))
      refine lv_iload_n hx hb dX10_nearest_105 rfl (lv_at hl 3 rfl) ?_
      refine lv_istore_n (lv' := [(2, .int (nI 0)), (5, .int (nI 4)), (4, .int (nI 2)), (3, .int (nI 2)), (0, .ref (h 0)), (1, .int (nI 0))]) hx hb dX10_nearest_106 rfl hl (by decide) rfl (fun ls hl => ?_)
      refine lv_iinc (v := nI 3) (lv' := [(3, .int (nI 3)), (2, .int (nI 0)), (5, .int (nI 4)), (4, .int (nI 2)), (0, .ref (h 0)), (1, .int (nI 0))]) hx hb dX10_nearest_107 hl (k := 3) rfl (by decide +kernel) (by decide) rfl (fun ls hl => ?_)
      refine lv_goto (tgt := 18) hx hb dX10_nearest_110 (by decide) ?_
      refine lv_iload_n hx hb dX10_nearest_18 rfl (lv_at hl 0 rfl) ?_
      refine lv_aload_n hx hb dX10_nearest_19 rfl (lv_at hl 4 rfl) ?_
      refine xj_i (wc := (wD_177 h cs gI gL gA gQ)) (wr := ([] : va_W)) hP hD hS hA [0, 1, 2, 3, 4, 5, 6, 7, 8, 9, 10, 11, 12, 13, 14, 15, 16] [] rfl rfl (by decide) (by decide) (va_runV (As := []) (rest := [.int (nI 3)]) ⟨hx, hb, hml, hown, hts⟩ (a_X10_words_179 l dC dI h cs H.size gI gL gA gQ ) (cwV 0 hts gX10_nearest_X10_words rfl rfl rfl (by decide +kernel) ⟨Nat.le_of_ble_eq_true rfl, Nat.le_of_ble_eq_true rfl⟩) (xpV (wc := (wD_177 h cs gI gL gA gQ)) hP hD hK hN [0, 1, 2, 3, 4, 5, 6, 7, 8, 9, 10, 11, 12, 13, 14, 15, 16] rfl (by decide) 0 (ci := 10) rfl rfl _) rfl rfl hl.1 rfl (lv_room (Nat.le_of_ble_eq_true rfl)) dX10_nearest_20 ⟨Nat.zero_le _, Nat.zero_le _⟩) (fun r_62 u_61 H locs hw hP hD hS => ?_)
      obtain ⟨hf_63, rfl⟩ := hw
      have hP : va_P (dC, dI) vwCl (rW h cs gI gL gA gQ) H := hP
      have hD : va_D A0 (rW h cs gI gL gA gQ) := hD
      obtain rfl := hf_63
      refine lv_icmp_ge (tgt := 113) hx hb dX10_nearest_23 (by decide) (fun c9 => False.elim (by revert c9; decide +kernel)) (fun _ => ?_)
      refine lv_iconst (v := nI 0) hx hb dX10_nearest_26 (by decide) ?_
      refine lv_istore (lv' := [(4, .int (nI 0)), (3, .int (nI 3)), (2, .int (nI 0)), (5, .int (nI 4)), (0, .ref (h 0)), (1, .int (nI 0))]) hx hb dX10_nearest_27 hl (by decide) rfl (fun ls hl => ?_)
      refine lv_iconst (v := nI 0) hx hb dX10_nearest_29 (by decide) ?_
      refine lv_istore (lv' := [(5, .int (nI 0)), (4, .int (nI 0)), (3, .int (nI 3)), (2, .int (nI 0)), (0, .ref (h 0)), (1, .int (nI 0))]) hx hb dX10_nearest_30 hl (by decide) rfl (fun ls hl => ?_)
      refine lv_iload hx hb dX10_nearest_32 (lv_at hl 0 rfl) ?_
      refine lv_aload_n hx hb dX10_nearest_34 rfl (lv_at hl 4 rfl) ?_
      refine xj_i (wc := (wD_177 h cs gI gL gA gQ)) (wr := ([] : va_W)) hP hD hS hA [0, 1, 2, 3, 4, 5, 6, 7, 8, 9, 10, 11, 12, 13, 14, 15, 16] [] rfl rfl (by decide) (by decide) (va_runV (As := []) (rest := [.int (nI 0)]) ⟨hx, hb, hml, hown, hts⟩ (a_X10_words_179 l dC dI h cs H.size gI gL gA gQ ) (cwV 0 hts gX10_nearest_X10_words rfl rfl rfl (by decide +kernel) ⟨Nat.le_of_ble_eq_true rfl, Nat.le_of_ble_eq_true rfl⟩) (xpV (wc := (wD_177 h cs gI gL gA gQ)) hP hD hK hN [0, 1, 2, 3, 4, 5, 6, 7, 8, 9, 10, 11, 12, 13, 14, 15, 16] rfl (by decide) 0 (ci := 10) rfl rfl _) rfl rfl hl.1 rfl (lv_room (Nat.le_of_ble_eq_true rfl)) dX10_nearest_35 ⟨Nat.zero_le _, Nat.zero_le _⟩) (fun r_65 u_64 H locs hw hP hD hS => ?_)
      obtain ⟨hf_66, rfl⟩ := hw
      have hP : va_P (dC, dI) vwCl (rW h cs gI gL gA gQ) H := hP
      have hD : va_D A0 (rW h cs gI gL gA gQ) := hD
      obtain rfl := hf_66
      refine lv_icmp_ge (tgt := 95) hx hb dX10_nearest_38 (by decide) (fun c9 => False.elim (by revert c9; decide +kernel)) (fun _ => ?_)
      refine lv_iload hx hb dX10_nearest_41 (lv_at hl 1 rfl) ?_
      refine lv_aload_n hx hb dX10_nearest_43 rfl (lv_at hl 4 rfl) ?_
      refine va_get (D := (dC, dI)) (ci := 10) (v := .ref (h 16)) (C := RX10) (T := TX10) (N := 28) hx hb hts hinX10 hown hK hP 0 rfl rfl 16 (by decide) (hts (.fieldLink RX10 38 "MixedWordsModel" "offs" "[I") (by decide +kernel)) (fun _ h9 => h9) rfl dX10_nearest_44 ?_
      refine lv_iload hx hb dX10_nearest_47 (lv_at hl 0 rfl) ?_
      refine xa_iald hx hb hK hP 7 0 rfl rfl (by omega) (by decide) dX10_nearest_49 ?_
      refine xt_i (y := nI 0) (by decide +kernel) ?_
      refine lv_aload_n hx hb dX10_nearest_50 rfl (lv_at hl 4 rfl) ?_
      refine va_get (D := (dC, dI)) (ci := 10) (v := .ref (h 16)) (C := RX10) (T := TX10) (N := 28) hx hb hts hinX10 hown hK hP 0 rfl rfl 16 (by decide) (hts (.fieldLink RX10 38 "MixedWordsModel" "offs" "[I") (by decide +kernel)) (fun _ h9 => h9) rfl dX10_nearest_51 ?_
      refine lv_iload_n hx hb dX10_nearest_54 rfl (lv_at hl 2 rfl) ?_
      refine xa_iald hx hb hK hP 7 0 rfl rfl (by omega) (by decide) dX10_nearest_55 ?_
      refine xt_i (y := nI 0) (by decide +kernel) ?_
      refine lv_icmp_lt (tgt := 81) hx hb dX10_nearest_56 (by decide) (fun c9 => False.elim (by revert c9; decide +kernel)) (fun _ => ?_)
      refine lv_aload_n hx hb dX10_nearest_59 rfl (lv_at hl 4 rfl) ?_
      refine va_get (D := (dC, dI)) (ci := 10) (v := .ref (h 16)) (C := RX10) (T := TX10) (N := 28) hx hb hts hinX10 hown hK hP 0 rfl rfl 16 (by decide) (hts (.fieldLink RX10 38 "MixedWordsModel" "offs" "[I") (by decide +kernel)) (fun _ h9 => h9) rfl dX10_nearest_60 ?_
      refine lv_iload hx hb dX10_nearest_63 (lv_at hl 0 rfl) ?_
      refine xa_iald hx hb hK hP 7 0 rfl rfl (by omega) (by decide) dX10_nearest_65 ?_
      refine xt_i (y := nI 0) (by decide +kernel) ?_
      refine lv_aload_n hx hb dX10_nearest_66 rfl (lv_at hl 4 rfl) ?_
      refine va_get (D := (dC, dI)) (ci := 10) (v := .ref (h 16)) (C := RX10) (T := TX10) (N := 28) hx hb hts hinX10 hown hK hP 0 rfl rfl 16 (by decide) (hts (.fieldLink RX10 38 "MixedWordsModel" "offs" "[I") (by decide +kernel)) (fun _ h9 => h9) rfl dX10_nearest_67 ?_
      refine lv_iload_n hx hb dX10_nearest_70 rfl (lv_at hl 2 rfl) ?_
      refine xa_iald hx hb hK hP 7 0 rfl rfl (by omega) (by decide) dX10_nearest_71 ?_
      refine xt_i (y := nI 0) (by decide +kernel) ?_
      refine lv_icmp_ne (tgt := 85) hx hb dX10_nearest_72 (by decide) (fun c9 => False.elim (by revert c9; decide +kernel)) (fun _ => ?_)
      refine lv_iload hx hb dX10_nearest_75 (lv_at hl 0 rfl) ?_
      refine lv_iload_n hx hb dX10_nearest_77 rfl (lv_at hl 2 rfl) ?_
      refine lv_icmp_ge (tgt := 85) hx hb dX10_nearest_78 (by decide) (fun c9 => False.elim (by revert c9; decide +kernel)) (fun _ => ?_)
      refine lv_iconst (v := nI 1) hx hb dX10_nearest_81 (by decide) ?_
      refine lv_goto (tgt := 86) hx hb dX10_nearest_82 (by decide) ?_
      refine lv_iadd hx hb dX10_nearest_86 ?_
      refine xt_i (y := nI 1) (by decide +kernel) ?_
      refine lv_istore (lv' := [(4, .int (nI 1)), (5, .int (nI 0)), (3, .int (nI 3)), (2, .int (nI 0)), (0, .ref (h 0)), (1, .int (nI 0))]) hx hb dX10_nearest_87 hl (by decide) rfl (fun ls hl => ?_)
      refine lv_iinc (v := nI 1) (lv' := [(5, .int (nI 1)), (4, .int (nI 1)), (3, .int (nI 3)), (2, .int (nI 0)), (0, .ref (h 0)), (1, .int (nI 0))]) hx hb dX10_nearest_89 hl (k := 1) rfl (by decide +kernel) (by decide) rfl (fun ls hl => ?_)
      refine lv_goto (tgt := 32) hx hb dX10_nearest_92 (by decide) ?_
      refine lv_iload hx hb dX10_nearest_32 (lv_at hl 0 rfl) ?_
      refine lv_aload_n hx hb dX10_nearest_34 rfl (lv_at hl 4 rfl) ?_
      refine xj_i (wc := (wD_177 h cs gI gL gA gQ)) (wr := ([] : va_W)) hP hD hS hA [0, 1, 2, 3, 4, 5, 6, 7, 8, 9, 10, 11, 12, 13, 14, 15, 16] [] rfl rfl (by decide) (by decide) (va_runV (As := []) (rest := [.int (nI 1)]) ⟨hx, hb, hml, hown, hts⟩ (a_X10_words_179 l dC dI h cs H.size gI gL gA gQ ) (cwV 0 hts gX10_nearest_X10_words rfl rfl rfl (by decide +kernel) ⟨Nat.le_of_ble_eq_true rfl, Nat.le_of_ble_eq_true rfl⟩) (xpV (wc := (wD_177 h cs gI gL gA gQ)) hP hD hK hN [0, 1, 2, 3, 4, 5, 6, 7, 8, 9, 10, 11, 12, 13, 14, 15, 16] rfl (by decide) 0 (ci := 10) rfl rfl _) rfl rfl hl.1 rfl (lv_room (Nat.le_of_ble_eq_true rfl)) dX10_nearest_35 ⟨Nat.zero_le _, Nat.zero_le _⟩) (fun r_68 u_67 H locs hw hP hD hS => ?_)
      obtain ⟨hf_69, rfl⟩ := hw
      have hP : va_P (dC, dI) vwCl (rW h cs gI gL gA gQ) H := hP
      have hD : va_D A0 (rW h cs gI gL gA gQ) := hD
      obtain rfl := hf_69
      refine lv_icmp_ge (tgt := 95) hx hb dX10_nearest_38 (by decide) (fun c9 => False.elim (by revert c9; decide +kernel)) (fun _ => ?_)
      refine lv_iload hx hb dX10_nearest_41 (lv_at hl 1 rfl) ?_
      refine lv_aload_n hx hb dX10_nearest_43 rfl (lv_at hl 4 rfl) ?_
      refine va_get (D := (dC, dI)) (ci := 10) (v := .ref (h 16)) (C := RX10) (T := TX10) (N := 28) hx hb hts hinX10 hown hK hP 0 rfl rfl 16 (by decide) (hts (.fieldLink RX10 38 "MixedWordsModel" "offs" "[I") (by decide +kernel)) (fun _ h9 => h9) rfl dX10_nearest_44 ?_
      refine lv_iload hx hb dX10_nearest_47 (lv_at hl 0 rfl) ?_
      refine xa_iald hx hb hK hP 7 0 rfl rfl (by omega) (by decide) dX10_nearest_49 ?_
      refine xt_i (y := nI 0) (by decide +kernel) ?_
      refine lv_aload_n hx hb dX10_nearest_50 rfl (lv_at hl 4 rfl) ?_
      refine va_get (D := (dC, dI)) (ci := 10) (v := .ref (h 16)) (C := RX10) (T := TX10) (N := 28) hx hb hts hinX10 hown hK hP 0 rfl rfl 16 (by decide) (hts (.fieldLink RX10 38 "MixedWordsModel" "offs" "[I") (by decide +kernel)) (fun _ h9 => h9) rfl dX10_nearest_51 ?_
      refine lv_iload_n hx hb dX10_nearest_54 rfl (lv_at hl 2 rfl) ?_
      refine xa_iald hx hb hK hP 7 0 rfl rfl (by omega) (by decide) dX10_nearest_55 ?_
      refine xt_i (y := nI 0) (by decide +kernel) ?_
      refine lv_icmp_lt (tgt := 81) hx hb dX10_nearest_56 (by decide) (fun c9 => False.elim (by revert c9; decide +kernel)) (fun _ => ?_)
      refine lv_aload_n hx hb dX10_nearest_59 rfl (lv_at hl 4 rfl) ?_
      refine va_get (D := (dC, dI)) (ci := 10) (v := .ref (h 16)) (C := RX10) (T := TX10) (N := 28) hx hb hts hinX10 hown hK hP 0 rfl rfl 16 (by decide) (hts (.fieldLink RX10 38 "MixedWordsModel" "offs" "[I") (by decide +kernel)) (fun _ h9 => h9) rfl dX10_nearest_60 ?_
      refine lv_iload hx hb dX10_nearest_63 (lv_at hl 0 rfl) ?_
      refine xa_iald hx hb hK hP 7 0 rfl rfl (by omega) (by decide) dX10_nearest_65 ?_
      refine xt_i (y := nI 0) (by decide +kernel) ?_
      refine lv_aload_n hx hb dX10_nearest_66 rfl (lv_at hl 4 rfl) ?_
      refine va_get (D := (dC, dI)) (ci := 10) (v := .ref (h 16)) (C := RX10) (T := TX10) (N := 28) hx hb hts hinX10 hown hK hP 0 rfl rfl 16 (by decide) (hts (.fieldLink RX10 38 "MixedWordsModel" "offs" "[I") (by decide +kernel)) (fun _ h9 => h9) rfl dX10_nearest_67 ?_
      refine lv_iload_n hx hb dX10_nearest_70 rfl (lv_at hl 2 rfl) ?_
      refine xa_iald hx hb hK hP 7 0 rfl rfl (by omega) (by decide) dX10_nearest_71 ?_
      refine xt_i (y := nI 0) (by decide +kernel) ?_
      refine lv_icmp_ne (tgt := 85) hx hb dX10_nearest_72 (by decide) (fun c9 => False.elim (by revert c9; decide +kernel)) (fun _ => ?_)
      refine lv_iload hx hb dX10_nearest_75 (lv_at hl 0 rfl) ?_
      refine lv_iload_n hx hb dX10_nearest_77 rfl (lv_at hl 2 rfl) ?_
      refine lv_icmp_ge (tgt := 85) hx hb dX10_nearest_78 (by decide) (fun c9 => False.elim (by revert c9; decide +kernel)) (fun _ => ?_)
      refine lv_iconst (v := nI 1) hx hb dX10_nearest_81 (by decide) ?_
      refine lv_goto (tgt := 86) hx hb dX10_nearest_82 (by decide) ?_
      refine lv_iadd hx hb dX10_nearest_86 ?_
      refine xt_i (y := nI 2) (by decide +kernel) ?_
      refine lv_istore (lv' := [(4, .int (nI 2)), (5, .int (nI 1)), (3, .int (nI 3)), (2, .int (nI 0)), (0, .ref (h 0)), (1, .int (nI 0))]) hx hb dX10_nearest_87 hl (by decide) rfl (fun ls hl => ?_)
      refine lv_iinc (v := nI 2) (lv' := [(5, .int (nI 2)), (4, .int (nI 2)), (3, .int (nI 3)), (2, .int (nI 0)), (0, .ref (h 0)), (1, .int (nI 0))]) hx hb dX10_nearest_89 hl (k := 1) rfl (by decide +kernel) (by decide) rfl (fun ls hl => ?_)
      refine lv_goto (tgt := 32) hx hb dX10_nearest_92 (by decide) ?_
      refine lv_iload hx hb dX10_nearest_32 (lv_at hl 0 rfl) ?_
      refine lv_aload_n hx hb dX10_nearest_34 rfl (lv_at hl 4 rfl) ?_
      refine xj_i (wc := (wD_177 h cs gI gL gA gQ)) (wr := ([] : va_W)) hP hD hS hA [0, 1, 2, 3, 4, 5, 6, 7, 8, 9, 10, 11, 12, 13, 14, 15, 16] [] rfl rfl (by decide) (by decide) (va_runV (As := []) (rest := [.int (nI 2)]) ⟨hx, hb, hml, hown, hts⟩ (a_X10_words_179 l dC dI h cs H.size gI gL gA gQ ) (cwV 0 hts gX10_nearest_X10_words rfl rfl rfl (by decide +kernel) ⟨Nat.le_of_ble_eq_true rfl, Nat.le_of_ble_eq_true rfl⟩) (xpV (wc := (wD_177 h cs gI gL gA gQ)) hP hD hK hN [0, 1, 2, 3, 4, 5, 6, 7, 8, 9, 10, 11, 12, 13, 14, 15, 16] rfl (by decide) 0 (ci := 10) rfl rfl _) rfl rfl hl.1 rfl (lv_room (Nat.le_of_ble_eq_true rfl)) dX10_nearest_35 ⟨Nat.zero_le _, Nat.zero_le _⟩) (fun r_71 u_70 H locs hw hP hD hS => ?_)
      obtain ⟨hf_72, rfl⟩ := hw
      have hP : va_P (dC, dI) vwCl (rW h cs gI gL gA gQ) H := hP
      have hD : va_D A0 (rW h cs gI gL gA gQ) := hD
      obtain rfl := hf_72
      refine lv_icmp_ge (tgt := 95) hx hb dX10_nearest_38 (by decide) (fun c9 => False.elim (by revert c9; decide +kernel)) (fun _ => ?_)
      refine lv_iload hx hb dX10_nearest_41 (lv_at hl 1 rfl) ?_
      refine lv_aload_n hx hb dX10_nearest_43 rfl (lv_at hl 4 rfl) ?_
      refine va_get (D := (dC, dI)) (ci := 10) (v := .ref (h 16)) (C := RX10) (T := TX10) (N := 28) hx hb hts hinX10 hown hK hP 0 rfl rfl 16 (by decide) (hts (.fieldLink RX10 38 "MixedWordsModel" "offs" "[I") (by decide +kernel)) (fun _ h9 => h9) rfl dX10_nearest_44 ?_
      refine lv_iload hx hb dX10_nearest_47 (lv_at hl 0 rfl) ?_
      refine xa_iald hx hb hK hP 7 0 rfl rfl (by omega) (by decide) dX10_nearest_49 ?_
      refine xt_i (y := nI 0) (by decide +kernel) ?_
      refine lv_aload_n hx hb dX10_nearest_50 rfl (lv_at hl 4 rfl) ?_
      refine va_get (D := (dC, dI)) (ci := 10) (v := .ref (h 16)) (C := RX10) (T := TX10) (N := 28) hx hb hts hinX10 hown hK hP 0 rfl rfl 16 (by decide) (hts (.fieldLink RX10 38 "MixedWordsModel" "offs" "[I") (by decide +kernel)) (fun _ h9 => h9) rfl dX10_nearest_51 ?_
      refine lv_iload_n hx hb dX10_nearest_54 rfl (lv_at hl 2 rfl) ?_
      refine xa_iald hx hb hK hP 7 0 rfl rfl (by omega) (by decide) dX10_nearest_55 ?_
      refine xt_i (y := nI 0) (by decide +kernel) ?_
      refine lv_icmp_lt (tgt := 81) hx hb dX10_nearest_56 (by decide) (fun c9 => False.elim (by revert c9; decide +kernel)) (fun _ => ?_)
      refine lv_aload_n hx hb dX10_nearest_59 rfl (lv_at hl 4 rfl) ?_
      refine va_get (D := (dC, dI)) (ci := 10) (v := .ref (h 16)) (C := RX10) (T := TX10) (N := 28) hx hb hts hinX10 hown hK hP 0 rfl rfl 16 (by decide) (hts (.fieldLink RX10 38 "MixedWordsModel" "offs" "[I") (by decide +kernel)) (fun _ h9 => h9) rfl dX10_nearest_60 ?_
      refine lv_iload hx hb dX10_nearest_63 (lv_at hl 0 rfl) ?_
      refine xa_iald hx hb hK hP 7 0 rfl rfl (by omega) (by decide) dX10_nearest_65 ?_
      refine xt_i (y := nI 0) (by decide +kernel) ?_
      refine lv_aload_n hx hb dX10_nearest_66 rfl (lv_at hl 4 rfl) ?_
      refine va_get (D := (dC, dI)) (ci := 10) (v := .ref (h 16)) (C := RX10) (T := TX10) (N := 28) hx hb hts hinX10 hown hK hP 0 rfl rfl 16 (by decide) (hts (.fieldLink RX10 38 "MixedWordsModel" "offs" "[I") (by decide +kernel)) (fun _ h9 => h9) rfl dX10_nearest_67 ?_
      refine lv_iload_n hx hb dX10_nearest_70 rfl (lv_at hl 2 rfl) ?_
      refine xa_iald hx hb hK hP 7 0 rfl rfl (by omega) (by decide) dX10_nearest_71 ?_
      refine xt_i (y := nI 0) (by decide +kernel) ?_
      refine lv_icmp_ne (tgt := 85) hx hb dX10_nearest_72 (by decide) (fun c9 => False.elim (by revert c9; decide +kernel)) (fun _ => ?_)
      refine lv_iload hx hb dX10_nearest_75 (lv_at hl 0 rfl) ?_
      refine lv_iload_n hx hb dX10_nearest_77 rfl (lv_at hl 2 rfl) ?_
      refine lv_icmp_ge (tgt := 85) hx hb dX10_nearest_78 (by decide) (fun c9 => False.elim (by revert c9; decide +kernel)) (fun _ => ?_)
      refine lv_iconst (v := nI 1) hx hb dX10_nearest_81 (by decide) ?_
      refine lv_goto (tgt := 86) hx hb dX10_nearest_82 (by decide) ?_
      refine lv_iadd hx hb dX10_nearest_86 ?_
      refine xt_i (y := nI 3) (by decide +kernel) ?_
      refine lv_istore (lv' := [(4, .int (nI 3)), (5, .int (nI 2)), (3, .int (nI 3)), (2, .int (nI 0)), (0, .ref (h 0)), (1, .int (nI 0))]) hx hb dX10_nearest_87 hl (by decide) rfl (fun ls hl => ?_)
      refine lv_iinc (v := nI 3) (lv' := [(5, .int (nI 3)), (4, .int (nI 3)), (3, .int (nI 3)), (2, .int (nI 0)), (0, .ref (h 0)), (1, .int (nI 0))]) hx hb dX10_nearest_89 hl (k := 1) rfl (by decide +kernel) (by decide) rfl (fun ls hl => ?_)
      refine lv_goto (tgt := 32) hx hb dX10_nearest_92 (by decide) ?_
      refine lv_iload hx hb dX10_nearest_32 (lv_at hl 0 rfl) ?_
      refine lv_aload_n hx hb dX10_nearest_34 rfl (lv_at hl 4 rfl) ?_
      refine xj_i (wc := (wD_177 h cs gI gL gA gQ)) (wr := ([] : va_W)) hP hD hS hA [0, 1, 2, 3, 4, 5, 6, 7, 8, 9, 10, 11, 12, 13, 14, 15, 16] [] rfl rfl (by decide) (by decide) (va_runV (As := []) (rest := [.int (nI 3)]) ⟨hx, hb, hml, hown, hts⟩ (a_X10_words_179 l dC dI h cs H.size gI gL gA gQ ) (cwV 0 hts gX10_nearest_X10_words rfl rfl rfl (by decide +kernel) ⟨Nat.le_of_ble_eq_true rfl, Nat.le_of_ble_eq_true rfl⟩) (xpV (wc := (wD_177 h cs gI gL gA gQ)) hP hD hK hN [0, 1, 2, 3, 4, 5, 6, 7, 8, 9, 10, 11, 12, 13, 14, 15, 16] rfl (by decide) 0 (ci := 10) rfl rfl _) rfl rfl hl.1 rfl (lv_room (Nat.le_of_ble_eq_true rfl)) dX10_nearest_35 ⟨Nat.zero_le _, Nat.zero_le _⟩) (fun r_74 u_73 H locs hw hP hD hS => ?_)
      obtain ⟨hf_75, rfl⟩ := hw
      have hP : va_P (dC, dI) vwCl (rW h cs gI gL gA gQ) H := hP
      have hD : va_D A0 (rW h cs gI gL gA gQ) := hD
      obtain rfl := hf_75
      refine lv_icmp_ge (tgt := 95) hx hb dX10_nearest_38 (by decide) (fun c9 => False.elim (by revert c9; decide +kernel)) (fun _ => ?_)
      refine lv_iload hx hb dX10_nearest_41 (lv_at hl 1 rfl) ?_
      refine lv_aload_n hx hb dX10_nearest_43 rfl (lv_at hl 4 rfl) ?_
      refine va_get (D := (dC, dI)) (ci := 10) (v := .ref (h 16)) (C := RX10) (T := TX10) (N := 28) hx hb hts hinX10 hown hK hP 0 rfl rfl 16 (by decide) (hts (.fieldLink RX10 38 "MixedWordsModel" "offs" "[I") (by decide +kernel)) (fun _ h9 => h9) rfl dX10_nearest_44 ?_
      refine lv_iload hx hb dX10_nearest_47 (lv_at hl 0 rfl) ?_
      refine xa_iald hx hb hK hP 7 0 rfl rfl (by omega) (by decide) dX10_nearest_49 ?_
      refine xt_i (y := nI 0) (by decide +kernel) ?_
      refine lv_aload_n hx hb dX10_nearest_50 rfl (lv_at hl 4 rfl) ?_
      refine va_get (D := (dC, dI)) (ci := 10) (v := .ref (h 16)) (C := RX10) (T := TX10) (N := 28) hx hb hts hinX10 hown hK hP 0 rfl rfl 16 (by decide) (hts (.fieldLink RX10 38 "MixedWordsModel" "offs" "[I") (by decide +kernel)) (fun _ h9 => h9) rfl dX10_nearest_51 ?_
      refine lv_iload_n hx hb dX10_nearest_54 rfl (lv_at hl 2 rfl) ?_
      refine xa_iald hx hb hK hP 7 0 rfl rfl (by omega) (by decide) dX10_nearest_55 ?_
      refine xt_i (y := nI 0) (by decide +kernel) ?_
      refine lv_icmp_lt (tgt := 81) hx hb dX10_nearest_56 (by decide) (fun c9 => False.elim (by revert c9; decide +kernel)) (fun _ => ?_)
      refine lv_aload_n hx hb dX10_nearest_59 rfl (lv_at hl 4 rfl) ?_
      refine va_get (D := (dC, dI)) (ci := 10) (v := .ref (h 16)) (C := RX10) (T := TX10) (N := 28) hx hb hts hinX10 hown hK hP 0 rfl rfl 16 (by decide) (hts (.fieldLink RX10 38 "MixedWordsModel" "offs" "[I") (by decide +kernel)) (fun _ h9 => h9) rfl dX10_nearest_60 ?_
      refine lv_iload hx hb dX10_nearest_63 (lv_at hl 0 rfl) ?_
      refine xa_iald hx hb hK hP 7 0 rfl rfl (by omega) (by decide) dX10_nearest_65 ?_
      refine xt_i (y := nI 0) (by decide +kernel) ?_
      refine lv_aload_n hx hb dX10_nearest_66 rfl (lv_at hl 4 rfl) ?_
      refine va_get (D := (dC, dI)) (ci := 10) (v := .ref (h 16)) (C := RX10) (T := TX10) (N := 28) hx hb hts hinX10 hown hK hP 0 rfl rfl 16 (by decide) (hts (.fieldLink RX10 38 "MixedWordsModel" "offs" "[I") (by decide +kernel)) (fun _ h9 => h9) rfl dX10_nearest_67 ?_
      refine lv_iload_n hx hb dX10_nearest_70 rfl (lv_at hl 2 rfl) ?_
      refine xa_iald hx hb hK hP 7 0 rfl rfl (by omega) (by decide) dX10_nearest_71 ?_
      refine xt_i (y := nI 0) (by decide +kernel) ?_
      refine lv_icmp_ne (tgt := 85) hx hb dX10_nearest_72 (by decide) (fun c9 => False.elim (by revert c9; decide +kernel)) (fun _ => ?_)
      refine lv_iload hx hb dX10_nearest_75 (lv_at hl 0 rfl) ?_
      refine lv_iload_n hx hb dX10_nearest_77 rfl (lv_at hl 2 rfl) ?_
      refine lv_icmp_ge (tgt := 85) hx hb dX10_nearest_78 (by decide) (fun _ => ?_) (fun c9 => False.elim (by revert c9; decide +kernel))
      refine lv_iconst (v := nI 0) hx hb dX10_nearest_85 (by decide) ?_
      refine lv_iadd hx hb dX10_nearest_86 ?_
      refine xt_i (y := nI 3) (by decide +kernel) ?_
      refine lv_istore (lv' := [(4, .int (nI 3)), (5, .int (nI 3)), (3, .int (nI 3)), (2, .int (nI 0)), (0, .ref (h 0)), (1, .int (nI 0))]) hx hb dX10_nearest_87 hl (by decide) rfl (fun ls hl => ?_)
      refine lv_iinc (v := nI 4) (lv' := [(5, .int (nI 4)), (4, .int (nI 3)), (3, .int (nI 3)), (2, .int (nI 0)), (0, .ref (h 0)), (1, .int (nI 0))]) hx hb dX10_nearest_89 hl (k := 1) rfl (by decide +kernel) (by decide) rfl (fun ls hl => ?_)
      refine lv_goto (tgt := 32) hx hb dX10_nearest_92 (by decide) ?_
      refine lv_iload hx hb dX10_nearest_32 (lv_at hl 0 rfl) ?_
      refine lv_aload_n hx hb dX10_nearest_34 rfl (lv_at hl 4 rfl) ?_
      refine xj_i (wc := (wD_177 h cs gI gL gA gQ)) (wr := ([] : va_W)) hP hD hS hA [0, 1, 2, 3, 4, 5, 6, 7, 8, 9, 10, 11, 12, 13, 14, 15, 16] [] rfl rfl (by decide) (by decide) (va_runV (As := []) (rest := [.int (nI 4)]) ⟨hx, hb, hml, hown, hts⟩ (a_X10_words_179 l dC dI h cs H.size gI gL gA gQ ) (cwV 0 hts gX10_nearest_X10_words rfl rfl rfl (by decide +kernel) ⟨Nat.le_of_ble_eq_true rfl, Nat.le_of_ble_eq_true rfl⟩) (xpV (wc := (wD_177 h cs gI gL gA gQ)) hP hD hK hN [0, 1, 2, 3, 4, 5, 6, 7, 8, 9, 10, 11, 12, 13, 14, 15, 16] rfl (by decide) 0 (ci := 10) rfl rfl _) rfl rfl hl.1 rfl (lv_room (Nat.le_of_ble_eq_true rfl)) dX10_nearest_35 ⟨Nat.zero_le _, Nat.zero_le _⟩) (fun r_77 u_76 H locs hw hP hD hS => ?_)
      obtain ⟨hf_78, rfl⟩ := hw
      have hP : va_P (dC, dI) vwCl (rW h cs gI gL gA gQ) H := hP
      have hD : va_D A0 (rW h cs gI gL gA gQ) := hD
      obtain rfl := hf_78
      refine lv_icmp_ge (tgt := 95) hx hb dX10_nearest_38 (by decide) (fun _ => ?_) (fun c9 => False.elim (by revert c9; decide +kernel))
      refine lv_iload hx hb dX10_nearest_95 (lv_at hl 1 rfl) ?_
      refine lv_iload_n hx hb dX10_nearest_97 rfl (lv_at hl 5 rfl) ?_
      refine lv_icmp_ne (tgt := 105) hx hb dX10_nearest_98 (by decide) (fun _ => ?_) (fun c9 => False.elim (by revert c9; decide +kernel))
      refine lv_iload_n hx hb dX10_nearest_105 rfl (lv_at hl 3 rfl) ?_
      refine lv_istore_n (lv' := [(2, .int (nI 0)), (5, .int (nI 4)), (4, .int (nI 3)), (3, .int (nI 3)), (0, .ref (h 0)), (1, .int (nI 0))]) hx hb dX10_nearest_106 rfl hl (by decide) rfl (fun ls hl => ?_)
      refine lv_iinc (v := nI 4) (lv' := [(3, .int (nI 4)), (2, .int (nI 0)), (5, .int (nI 4)), (4, .int (nI 3)), (0, .ref (h 0)), (1, .int (nI 0))]) hx hb dX10_nearest_107 hl (k := 3) rfl (by decide +kernel) (by decide) rfl (fun ls hl => ?_)
      refine lv_goto (tgt := 18) hx hb dX10_nearest_110 (by decide) ?_
      refine lv_iload_n hx hb dX10_nearest_18 rfl (lv_at hl 0 rfl) ?_
      refine lv_aload_n hx hb dX10_nearest_19 rfl (lv_at hl 4 rfl) ?_
      refine xj_i (wc := (wD_177 h cs gI gL gA gQ)) (wr := ([] : va_W)) hP hD hS hA [0, 1, 2, 3, 4, 5, 6, 7, 8, 9, 10, 11, 12, 13, 14, 15, 16] [] rfl rfl (by decide) (by decide) (va_runV (As := []) (rest := [.int (nI 4)]) ⟨hx, hb, hml, hown, hts⟩ (a_X10_words_179 l dC dI h cs H.size gI gL gA gQ ) (cwV 0 hts gX10_nearest_X10_words rfl rfl rfl (by decide +kernel) ⟨Nat.le_of_ble_eq_true rfl, Nat.le_of_ble_eq_true rfl⟩) (xpV (wc := (wD_177 h cs gI gL gA gQ)) hP hD hK hN [0, 1, 2, 3, 4, 5, 6, 7, 8, 9, 10, 11, 12, 13, 14, 15, 16] rfl (by decide) 0 (ci := 10) rfl rfl _) rfl rfl hl.1 rfl (lv_room (Nat.le_of_ble_eq_true rfl)) dX10_nearest_20 ⟨Nat.zero_le _, Nat.zero_le _⟩) (fun r_80 u_79 H locs hw hP hD hS => ?_)
      obtain ⟨hf_81, rfl⟩ := hw
      have hP : va_P (dC, dI) vwCl (rW h cs gI gL gA gQ) H := hP
      have hD : va_D A0 (rW h cs gI gL gA gQ) := hD
      obtain rfl := hf_81
      refine lv_icmp_ge (tgt := 113) hx hb dX10_nearest_23 (by decide) (fun _ => ?_) (fun c9 => False.elim (by revert c9; decide +kernel))
      refine lv_iload_n hx hb dX10_nearest_113 rfl (lv_at hl 1 rfl) ?_
      exact xr_i (v := (nI 0)) hx hb hr hlocks hK hS dX10_nearest_114 (gI, gL, gA, gQ) ⟨(by decide +kernel), rfl⟩ hP hD
    · skip
      refine lv_aload_n hx hb dX10_nearest_0 rfl (lv_at hl 0 rfl) ?_
      refine lv_iload_n hx hb dX10_nearest_1 rfl (lv_at hl 1 rfl) ?_
      refine xj_i (wc := (wD_177 h cs gI gL gA gQ)) (wr := ([] : va_W)) hP hD hS hA [0, 1, 2, 3, 4, 5, 6, 7, 8, 9, 10, 11, 12, 13, 14, 15, 16] [] rfl rfl (by decide) (by decide) (va_runV (As := [.int (nI 1)]) (rest := []) ⟨hx, hb, hml, hown, hts⟩ (a_X10_isWord_184 l dC dI h cs H.size gI gL gA gQ ) (cwV 1 hts gX10_nearest_X10_isWord rfl rfl rfl (by decide +kernel) ⟨Nat.le_of_ble_eq_true rfl, Nat.le_of_ble_eq_true rfl⟩) (xpV (wc := (wD_177 h cs gI gL gA gQ)) hP hD hK hN [0, 1, 2, 3, 4, 5, 6, 7, 8, 9, 10, 11, 12, 13, 14, 15, 16] rfl (by decide) 0 (ci := 10) rfl rfl _) rfl rfl hl.1 rfl (lv_room (Nat.le_of_ble_eq_true rfl)) dX10_nearest_2 ⟨Nat.zero_le _, Nat.zero_le _⟩) (fun r_83 u_82 H locs hw hP hD hS => ?_)
      obtain ⟨hf_84, rfl⟩ := hw
      have hP : va_P (dC, dI) vwCl (rW h cs gI gL gA gQ) H := hP
      have hD : va_D A0 (rW h cs gI gL gA gQ) := hD
      obtain rfl := hf_84
      refine lv_if_ne (tgt := 10) hx hb dX10_nearest_5 (by decide) (fun _ => ?_) (fun c9 => False.elim (by revert c9; decide +kernel))
      refine lv_aload_n hx hb dX10_nearest_10 rfl (lv_at hl 0 rfl) ?_
      refine xj_v (wc := (wD_177 h cs gI gL gA gQ)) (wr := ([] : va_W)) hP hD hS hA [0, 1, 2, 3, 4, 5, 6, 7, 8, 9, 10, 11, 12, 13, 14, 15, 16] [] rfl rfl (by decide) (by decide) (va_runV (As := []) (rest := []) ⟨hx, hb, hml, hown, hts⟩ (a_X10_offAll_199 l dC dI h cs H.size gI gL gA gQ ) (cwV 0 hts gX10_nearest_X10_offAll rfl rfl rfl (by decide +kernel) ⟨Nat.le_of_ble_eq_true rfl, Nat.le_of_ble_eq_true rfl⟩) (xpV (wc := (wD_177 h cs gI gL gA gQ)) hP hD hK hN [0, 1, 2, 3, 4, 5, 6, 7, 8, 9, 10, 11, 12, 13, 14, 15, 16] rfl (by decide) 0 (ci := 10) rfl rfl _) rfl rfl hl.1 rfl (lv_room (Nat.le_of_ble_eq_true rfl)) dX10_nearest_11 ⟨Nat.zero_le _, Nat.zero_le _⟩) (fun u_85 H locs hw hP hD hS => ?_)
      obtain ⟨hf_87, rfl⟩ := hw
      have hP : va_P (dC, dI) vwCl (rW h cs gI gL gA gQ) H := hP
      have hD : va_D A0 (rW h cs gI gL gA gQ) := hD
      refine lv_iconst (v := (-1)) hx hb dX10_nearest_14 (by decide) ?_
      refine lv_istore_n (lv' := [(2, .int (-1)), (0, .ref (h 0)), (1, .int (nI 1))]) hx hb dX10_nearest_15 rfl hl (by decide) rfl (fun ls hl => ?_)
      refine lv_iconst (v := nI 0) hx hb dX10_nearest_16 (by decide) ?_
      refine lv_istore_n (lv' := [(3, .int (nI 0)), (2, .int (-1)), (0, .ref (h 0)), (1, .int (nI 1))]) hx hb dX10_nearest_17 rfl hl (by decide) rfl (fun ls hl => ?_)
      refine lv_iload_n hx hb dX10_nearest_18 rfl (lv_at hl 0 rfl) ?_
      refine lv_aload_n hx hb dX10_nearest_19 rfl (lv_at hl 2 rfl) ?_
      refine xj_i (wc := (wD_177 h cs gI gL gA gQ)) (wr := ([] : va_W)) hP hD hS hA [0, 1, 2, 3, 4, 5, 6, 7, 8, 9, 10, 11, 12, 13, 14, 15, 16] [] rfl rfl (by decide) (by decide) (va_runV (As := []) (rest := [.int (nI 0)]) ⟨hx, hb, hml, hown, hts⟩ (a_X10_words_179 l dC dI h cs H.size gI gL gA gQ ) (cwV 0 hts gX10_nearest_X10_words rfl rfl rfl (by decide +kernel) ⟨Nat.le_of_ble_eq_true rfl, Nat.le_of_ble_eq_true rfl⟩) (xpV (wc := (wD_177 h cs gI gL gA gQ)) hP hD hK hN [0, 1, 2, 3, 4, 5, 6, 7, 8, 9, 10, 11, 12, 13, 14, 15, 16] rfl (by decide) 0 (ci := 10) rfl rfl _) rfl rfl hl.1 rfl (lv_room (Nat.le_of_ble_eq_true rfl)) dX10_nearest_20 ⟨Nat.zero_le _, Nat.zero_le _⟩) (fun r_89 u_88 H locs hw hP hD hS => ?_)
      obtain ⟨hf_90, rfl⟩ := hw
      have hP : va_P (dC, dI) vwCl (rW h cs gI gL gA gQ) H := hP
      have hD : va_D A0 (rW h cs gI gL gA gQ) := hD
      obtain rfl := hf_90
      refine lv_icmp_ge (tgt := 113) hx hb dX10_nearest_23 (by decide) (fun c9 => False.elim (by revert c9; decide +kernel)) (fun _ => ?_)
      refine lv_iconst (v := nI 0) hx hb dX10_nearest_26 (by decide) ?_
      refine lv_istore (lv' := [(4, .int (nI 0)), (3, .int (nI 0)), (2, .int (-1)), (0, .ref (h 0)), (1, .int (nI 1))]) hx hb dX10_nearest_27 hl (by decide) rfl (fun ls hl => ?_)
      refine lv_iconst (v := nI 0) hx hb dX10_nearest_29 (by decide) ?_
      refine lv_istore (lv' := [(5, .int (nI 0)), (4, .int (nI 0)), (3, .int (nI 0)), (2, .int (-1)), (0, .ref (h 0)), (1, .int (nI 1))]) hx hb dX10_nearest_30 hl (by decide) rfl (fun ls hl => ?_)
      refine lv_iload hx hb dX10_nearest_32 (lv_at hl 0 rfl) ?_
      refine lv_aload_n hx hb dX10_nearest_34 rfl (lv_at hl 4 rfl) ?_
      refine xj_i (wc := (wD_177 h cs gI gL gA gQ)) (wr := ([] : va_W)) hP hD hS hA [0, 1, 2, 3, 4, 5, 6, 7, 8, 9, 10, 11, 12, 13, 14, 15, 16] [] rfl rfl (by decide) (by decide) (va_runV (As := []) (rest := [.int (nI 0)]) ⟨hx, hb, hml, hown, hts⟩ (a_X10_words_179 l dC dI h cs H.size gI gL gA gQ ) (cwV 0 hts gX10_nearest_X10_words rfl rfl rfl (by decide +kernel) ⟨Nat.le_of_ble_eq_true rfl, Nat.le_of_ble_eq_true rfl⟩) (xpV (wc := (wD_177 h cs gI gL gA gQ)) hP hD hK hN [0, 1, 2, 3, 4, 5, 6, 7, 8, 9, 10, 11, 12, 13, 14, 15, 16] rfl (by decide) 0 (ci := 10) rfl rfl _) rfl rfl hl.1 rfl (lv_room (Nat.le_of_ble_eq_true rfl)) dX10_nearest_35 ⟨Nat.zero_le _, Nat.zero_le _⟩) (fun r_92 u_91 H locs hw hP hD hS => ?_)
      obtain ⟨hf_93, rfl⟩ := hw
      have hP : va_P (dC, dI) vwCl (rW h cs gI gL gA gQ) H := hP
      have hD : va_D A0 (rW h cs gI gL gA gQ) := hD
      obtain rfl := hf_93
      refine lv_icmp_ge (tgt := 95) hx hb dX10_nearest_38 (by decide) (fun c9 => False.elim (by revert c9; decide +kernel)) (fun _ => ?_)
      refine lv_iload hx hb dX10_nearest_41 (lv_at hl 1 rfl) ?_
      refine lv_aload_n hx hb dX10_nearest_43 rfl (lv_at hl 4 rfl) ?_
      refine va_get (D := (dC, dI)) (ci := 10) (v := .ref (h 16)) (C := RX10) (T := TX10) (N := 28) hx hb hts hinX10 hown hK hP 0 rfl rfl 16 (by decide) (hts (.fieldLink RX10 38 "MixedWordsModel" "offs" "[I") (by decide +kernel)) (fun _ h9 => h9) rfl dX10_nearest_44 ?_
      refine lv_iload hx hb dX10_nearest_47 (lv_at hl 0 rfl) ?_
      refine xa_iald hx hb hK hP 7 0 rfl rfl (by omega) (by decide) dX10_nearest_49 ?_
      refine xt_i (y := nI 0) (by decide +kernel) ?_
      refine lv_aload_n hx hb dX10_nearest_50 rfl (lv_at hl 4 rfl) ?_
      refine va_get (D := (dC, dI)) (ci := 10) (v := .ref (h 16)) (C := RX10) (T := TX10) (N := 28) hx hb hts hinX10 hown hK hP 0 rfl rfl 16 (by decide) (hts (.fieldLink RX10 38 "MixedWordsModel" "offs" "[I") (by decide +kernel)) (fun _ h9 => h9) rfl dX10_nearest_51 ?_
      refine lv_iload_n hx hb dX10_nearest_54 rfl (lv_at hl 2 rfl) ?_
      refine xa_iald hx hb hK hP 7 0 rfl rfl (by omega) (by decide) dX10_nearest_55 ?_
      refine xt_i (y := nI 0) (by decide +kernel) ?_
      refine lv_icmp_lt (tgt := 81) hx hb dX10_nearest_56 (by decide) (fun c9 => False.elim (by revert c9; decide +kernel)) (fun _ => ?_)
      refine lv_aload_n hx hb dX10_nearest_59 rfl (lv_at hl 4 rfl) ?_
      refine va_get (D := (dC, dI)) (ci := 10) (v := .ref (h 16)) (C := RX10) (T := TX10) (N := 28) hx hb hts hinX10 hown hK hP 0 rfl rfl 16 (by decide) (hts (.fieldLink RX10 38 "MixedWordsModel" "offs" "[I") (by decide +kernel)) (fun _ h9 => h9) rfl dX10_nearest_60 ?_
      refine lv_iload hx hb dX10_nearest_63 (lv_at hl 0 rfl) ?_
      refine xa_iald hx hb hK hP 7 0 rfl rfl (by omega) (by decide) dX10_nearest_65 ?_
      refine xt_i (y := nI 0) (by decide +kernel) ?_
      refine lv_aload_n hx hb dX10_nearest_66 rfl (lv_at hl 4 rfl) ?_
      refine va_get (D := (dC, dI)) (ci := 10) (v := .ref (h 16)) (C := RX10) (T := TX10) (N := 28) hx hb hts hinX10 hown hK hP 0 rfl rfl 16 (by decide) (hts (.fieldLink RX10 38 "MixedWordsModel" "offs" "[I") (by decide +kernel)) (fun _ h9 => h9) rfl dX10_nearest_67 ?_
      refine lv_iload_n hx hb dX10_nearest_70 rfl (lv_at hl 2 rfl) ?_
      refine xa_iald hx hb hK hP 7 0 rfl rfl (by omega) (by decide) dX10_nearest_71 ?_
      refine xt_i (y := nI 0) (by decide +kernel) ?_
      refine lv_icmp_ne (tgt := 85) hx hb dX10_nearest_72 (by decide) (fun c9 => False.elim (by revert c9; decide +kernel)) (fun _ => ?_)
      refine lv_iload hx hb dX10_nearest_75 (lv_at hl 0 rfl) ?_
      refine lv_iload_n hx hb dX10_nearest_77 rfl (lv_at hl 2 rfl) ?_
      refine lv_icmp_ge (tgt := 85) hx hb dX10_nearest_78 (by decide) (fun _ => ?_) (fun c9 => False.elim (by revert c9; decide +kernel))
      refine lv_iconst (v := nI 0) hx hb dX10_nearest_85 (by decide) ?_
      refine lv_iadd hx hb dX10_nearest_86 ?_
      refine xt_i (y := nI 0) (by decide +kernel) ?_
      refine lv_istore (lv' := [(4, .int (nI 0)), (5, .int (nI 0)), (3, .int (nI 0)), (2, .int (-1)), (0, .ref (h 0)), (1, .int (nI 1))]) hx hb dX10_nearest_87 hl (by decide) rfl (fun ls hl => ?_)
      refine lv_iinc (v := nI 1) (lv' := [(5, .int (nI 1)), (4, .int (nI 0)), (3, .int (nI 0)), (2, .int (-1)), (0, .ref (h 0)), (1, .int (nI 1))]) hx hb dX10_nearest_89 hl (k := 1) rfl (by decide +kernel) (by decide) rfl (fun ls hl => ?_)
      refine lv_goto (tgt := 32) hx hb dX10_nearest_92 (by decide) ?_
      refine lv_iload hx hb dX10_nearest_32 (lv_at hl 0 rfl) ?_
      refine lv_aload_n hx hb dX10_nearest_34 rfl (lv_at hl 4 rfl) ?_
      refine xj_i (wc := (wD_177 h cs gI gL gA gQ)) (wr := ([] : va_W)) hP hD hS hA [0, 1, 2, 3, 4, 5, 6, 7, 8, 9, 10, 11, 12, 13, 14, 15, 16] [] rfl rfl (by decide) (by decide) (va_runV (As := []) (rest := [.int (nI 1)]) ⟨hx, hb, hml, hown, hts⟩ (a_X10_words_179 l dC dI h cs H.size gI gL gA gQ ) (cwV 0 hts gX10_nearest_X10_words rfl rfl rfl (by decide +kernel) ⟨Nat.le_of_ble_eq_true rfl, Nat.le_of_ble_eq_true rfl⟩) (xpV (wc := (wD_177 h cs gI gL gA gQ)) hP hD hK hN [0, 1, 2, 3, 4, 5, 6, 7, 8, 9, 10, 11, 12, 13, 14, 15, 16] rfl (by decide) 0 (ci := 10) rfl rfl _) rfl rfl hl.1 rfl (lv_room (Nat.le_of_ble_eq_true rfl)) dX10_nearest_35 ⟨Nat.zero_le _, Nat.zero_le _⟩) (fun r_95 u_94 H locs hw hP hD hS => ?_)
      obtain ⟨hf_96, rfl⟩ := hw
      have hP : va_P (dC, dI) vwCl (rW h cs gI gL gA gQ) H := hP
      have hD : va_D A0 (rW h cs gI gL gA gQ) := hD
      obtain rfl := hf_96
      refine lv_icmp_ge (tgt := 95) hx hb dX10_nearest_38 (by decide) (fun c9 => False.elim (by revert c9; decide +kernel)) (fun _ => ?_)
      refine lv_iload hx hb dX10_nearest_41 (lv_at hl 1 rfl) ?_
      refine lv_aload_n hx hb dX10_nearest_43 rfl (lv_at hl 4 rfl) ?_
      refine va_get (D := (dC, dI)) (ci := 10) (v := .ref (h 16)) (C := RX10) (T := TX10) (N := 28) hx hb hts hinX10 hown hK hP 0 rfl rfl 16 (by decide) (hts (.fieldLink RX10 38 "MixedWordsModel" "offs" "[I") (by decide +kernel)) (fun _ h9 => h9) rfl dX10_nearest_44 ?_
      refine lv_iload hx hb dX10_nearest_47 (lv_at hl 0 rfl) ?_
      refine xa_iald hx hb hK hP 7 0 rfl rfl (by omega) (by decide) dX10_nearest_49 ?_
      refine xt_i (y := nI 0) (by decide +kernel) ?_
      refine lv_aload_n hx hb dX10_nearest_50 rfl (lv_at hl 4 rfl) ?_
      refine va_get (D := (dC, dI)) (ci := 10) (v := .ref (h 16)) (C := RX10) (T := TX10) (N := 28) hx hb hts hinX10 hown hK hP 0 rfl rfl 16 (by decide) (hts (.fieldLink RX10 38 "MixedWordsModel" "offs" "[I") (by decide +kernel)) (fun _ h9 => h9) rfl dX10_nearest_51 ?_
      refine lv_iload_n hx hb dX10_nearest_54 rfl (lv_at hl 2 rfl) ?_
      refine xa_iald hx hb hK hP 7 0 rfl rfl (by omega) (by decide) dX10_nearest_55 ?_
      refine xt_i (y := nI 0) (by decide +kernel) ?_
      refine lv_icmp_lt (tgt := 81) hx hb dX10_nearest_56 (by decide) (fun c9 => False.elim (by revert c9; decide +kernel)) (fun _ => ?_)
      refine lv_aload_n hx hb dX10_nearest_59 rfl (lv_at hl 4 rfl) ?_
      refine va_get (D := (dC, dI)) (ci := 10) (v := .ref (h 16)) (C := RX10) (T := TX10) (N := 28) hx hb hts hinX10 hown hK hP 0 rfl rfl 16 (by decide) (hts (.fieldLink RX10 38 "MixedWordsModel" "offs" "[I") (by decide +kernel)) (fun _ h9 => h9) rfl dX10_nearest_60 ?_
      refine lv_iload hx hb dX10_nearest_63 (lv_at hl 0 rfl) ?_
      refine xa_iald hx hb hK hP 7 0 rfl rfl (by omega) (by decide) dX10_nearest_65 ?_
      refine xt_i (y := nI 0) (by decide +kernel) ?_
      refine lv_aload_n hx hb dX10_nearest_66 rfl (lv_at hl 4 rfl) ?_
      refine va_get (D := (dC, dI)) (ci := 10) (v := .ref (h 16)) (C := RX10) (T := TX10) (N := 28) hx hb hts hinX10 hown hK hP 0 rfl rfl 16 (by decide) (hts (.fieldLink RX10 38 "MixedWordsModel" "offs" "[I") (by decide +kernel)) (fun _ h9 => h9) rfl dX10_nearest_67 ?_
      refine lv_iload_n hx hb dX10_nearest_70 rfl (lv_at hl 2 rfl) ?_
      refine xa_iald hx hb hK hP 7 0 rfl rfl (by omega) (by decide) dX10_nearest_71 ?_
      refine xt_i (y := nI 0) (by decide +kernel) ?_
      refine lv_icmp_ne (tgt := 85) hx hb dX10_nearest_72 (by decide) (fun c9 => False.elim (by revert c9; decide +kernel)) (fun _ => ?_)
      refine lv_iload hx hb dX10_nearest_75 (lv_at hl 0 rfl) ?_
      refine lv_iload_n hx hb dX10_nearest_77 rfl (lv_at hl 2 rfl) ?_
      refine lv_icmp_ge (tgt := 85) hx hb dX10_nearest_78 (by decide) (fun _ => ?_) (fun c9 => False.elim (by revert c9; decide +kernel))
      refine lv_iconst (v := nI 0) hx hb dX10_nearest_85 (by decide) ?_
      refine lv_iadd hx hb dX10_nearest_86 ?_
      refine xt_i (y := nI 0) (by decide +kernel) ?_
      refine lv_istore (lv' := [(4, .int (nI 0)), (5, .int (nI 1)), (3, .int (nI 0)), (2, .int (-1)), (0, .ref (h 0)), (1, .int (nI 1))]) hx hb dX10_nearest_87 hl (by decide) rfl (fun ls hl => ?_)
      refine lv_iinc (v := nI 2) (lv' := [(5, .int (nI 2)), (4, .int (nI 0)), (3, .int (nI 0)), (2, .int (-1)), (0, .ref (h 0)), (1, .int (nI 1))]) hx hb dX10_nearest_89 hl (k := 1) rfl (by decide +kernel) (by decide) rfl (fun ls hl => ?_)
      refine lv_goto (tgt := 32) hx hb dX10_nearest_92 (by decide) ?_
      refine lv_iload hx hb dX10_nearest_32 (lv_at hl 0 rfl) ?_
      refine lv_aload_n hx hb dX10_nearest_34 rfl (lv_at hl 4 rfl) ?_
      refine xj_i (wc := (wD_177 h cs gI gL gA gQ)) (wr := ([] : va_W)) hP hD hS hA [0, 1, 2, 3, 4, 5, 6, 7, 8, 9, 10, 11, 12, 13, 14, 15, 16] [] rfl rfl (by decide) (by decide) (va_runV (As := []) (rest := [.int (nI 2)]) ⟨hx, hb, hml, hown, hts⟩ (a_X10_words_179 l dC dI h cs H.size gI gL gA gQ ) (cwV 0 hts gX10_nearest_X10_words rfl rfl rfl (by decide +kernel) ⟨Nat.le_of_ble_eq_true rfl, Nat.le_of_ble_eq_true rfl⟩) (xpV (wc := (wD_177 h cs gI gL gA gQ)) hP hD hK hN [0, 1, 2, 3, 4, 5, 6, 7, 8, 9, 10, 11, 12, 13, 14, 15, 16] rfl (by decide) 0 (ci := 10) rfl rfl _) rfl rfl hl.1 rfl (lv_room (Nat.le_of_ble_eq_true rfl)) dX10_nearest_35 ⟨Nat.zero_le _, Nat.zero_le _⟩) (fun r_98 u_97 H locs hw hP hD hS => ?_)
      obtain ⟨hf_99, rfl⟩ := hw
      have hP : va_P (dC, dI) vwCl (rW h cs gI gL gA gQ) H := hP
      have hD : va_D A0 (rW h cs gI gL gA gQ) := hD
      obtain rfl := hf_99
      refine lv_icmp_ge (tgt := 95) hx hb dX10_nearest_38 (by decide) (fun c9 => False.elim (by revert c9; decide +kernel)) (fun _ => ?_)
      refine lv_iload hx hb dX10_nearest_41 (lv_at hl 1 rfl) ?_
      refine lv_aload_n hx hb dX10_nearest_43 rfl (lv_at hl 4 rfl) ?_
      refine va_get (D := (dC, dI)) (ci := 10) (v := .ref (h 16)) (C := RX10) (T := TX10) (N := 28) hx hb hts hinX10 hown hK hP 0 rfl rfl 16 (by decide) (hts (.fieldLink RX10 38 "MixedWordsModel" "offs" "[I") (by decide +kernel)) (fun _ h9 => h9) rfl dX10_nearest_44 ?_
      refine lv_iload hx hb dX10_nearest_47 (lv_at hl 0 rfl) ?_
      refine xa_iald hx hb hK hP 7 0 rfl rfl (by omega) (by decide) dX10_nearest_49 ?_
      refine xt_i (y := nI 0) (by decide +kernel) ?_
      refine lv_aload_n hx hb dX10_nearest_50 rfl (lv_at hl 4 rfl) ?_
      refine va_get (D := (dC, dI)) (ci := 10) (v := .ref (h 16)) (C := RX10) (T := TX10) (N := 28) hx hb hts hinX10 hown hK hP 0 rfl rfl 16 (by decide) (hts (.fieldLink RX10 38 "MixedWordsModel" "offs" "[I") (by decide +kernel)) (fun _ h9 => h9) rfl dX10_nearest_51 ?_
      refine lv_iload_n hx hb dX10_nearest_54 rfl (lv_at hl 2 rfl) ?_
      refine xa_iald hx hb hK hP 7 0 rfl rfl (by omega) (by decide) dX10_nearest_55 ?_
      refine xt_i (y := nI 0) (by decide +kernel) ?_
      refine lv_icmp_lt (tgt := 81) hx hb dX10_nearest_56 (by decide) (fun c9 => False.elim (by revert c9; decide +kernel)) (fun _ => ?_)
      refine lv_aload_n hx hb dX10_nearest_59 rfl (lv_at hl 4 rfl) ?_
      refine va_get (D := (dC, dI)) (ci := 10) (v := .ref (h 16)) (C := RX10) (T := TX10) (N := 28) hx hb hts hinX10 hown hK hP 0 rfl rfl 16 (by decide) (hts (.fieldLink RX10 38 "MixedWordsModel" "offs" "[I") (by decide +kernel)) (fun _ h9 => h9) rfl dX10_nearest_60 ?_
      refine lv_iload hx hb dX10_nearest_63 (lv_at hl 0 rfl) ?_
      refine xa_iald hx hb hK hP 7 0 rfl rfl (by omega) (by decide) dX10_nearest_65 ?_
      refine xt_i (y := nI 0) (by decide +kernel) ?_
      refine lv_aload_n hx hb dX10_nearest_66 rfl (lv_at hl 4 rfl) ?_
      refine va_get (D := (dC, dI)) (ci := 10) (v := .ref (h 16)) (C := RX10) (T := TX10) (N := 28) hx hb hts hinX10 hown hK hP 0 rfl rfl 16 (by decide) (hts (.fieldLink RX10 38 "MixedWordsModel" "offs" "[I") (by decide +kernel)) (fun _ h9 => h9) rfl dX10_nearest_67 ?_
      refine lv_iload_n hx hb dX10_nearest_70 rfl (lv_at hl 2 rfl) ?_
      refine xa_iald hx hb hK hP 7 0 rfl rfl (by omega) (by decide) dX10_nearest_71 ?_
      refine xt_i (y := nI 0) (by decide +kernel) ?_
      refine lv_icmp_ne (tgt := 85) hx hb dX10_nearest_72 (by decide) (fun c9 => False.elim (by revert c9; decide +kernel)) (fun _ => ?_)
      refine lv_iload hx hb dX10_nearest_75 (lv_at hl 0 rfl) ?_
      refine lv_iload_n hx hb dX10_nearest_77 rfl (lv_at hl 2 rfl) ?_
      refine lv_icmp_ge (tgt := 85) hx hb dX10_nearest_78 (by decide) (fun _ => ?_) (fun c9 => False.elim (by revert c9; decide +kernel))
      refine lv_iconst (v := nI 0) hx hb dX10_nearest_85 (by decide) ?_
      refine lv_iadd hx hb dX10_nearest_86 ?_
      refine xt_i (y := nI 0) (by decide +kernel) ?_
      refine lv_istore (lv' := [(4, .int (nI 0)), (5, .int (nI 2)), (3, .int (nI 0)), (2, .int (-1)), (0, .ref (h 0)), (1, .int (nI 1))]) hx hb dX10_nearest_87 hl (by decide) rfl (fun ls hl => ?_)
      refine lv_iinc (v := nI 3) (lv' := [(5, .int (nI 3)), (4, .int (nI 0)), (3, .int (nI 0)), (2, .int (-1)), (0, .ref (h 0)), (1, .int (nI 1))]) hx hb dX10_nearest_89 hl (k := 1) rfl (by decide +kernel) (by decide) rfl (fun ls hl => ?_)
      refine lv_goto (tgt := 32) hx hb dX10_nearest_92 (by decide) ?_
      refine lv_iload hx hb dX10_nearest_32 (lv_at hl 0 rfl) ?_
      refine lv_aload_n hx hb dX10_nearest_34 rfl (lv_at hl 4 rfl) ?_
      refine xj_i (wc := (wD_177 h cs gI gL gA gQ)) (wr := ([] : va_W)) hP hD hS hA [0, 1, 2, 3, 4, 5, 6, 7, 8, 9, 10, 11, 12, 13, 14, 15, 16] [] rfl rfl (by decide) (by decide) (va_runV (As := []) (rest := [.int (nI 3)]) ⟨hx, hb, hml, hown, hts⟩ (a_X10_words_179 l dC dI h cs H.size gI gL gA gQ ) (cwV 0 hts gX10_nearest_X10_words rfl rfl rfl (by decide +kernel) ⟨Nat.le_of_ble_eq_true rfl, Nat.le_of_ble_eq_true rfl⟩) (xpV (wc := (wD_177 h cs gI gL gA gQ)) hP hD hK hN [0, 1, 2, 3, 4, 5, 6, 7, 8, 9, 10, 11, 12, 13, 14, 15, 16] rfl (by decide) 0 (ci := 10) rfl rfl _) rfl rfl hl.1 rfl (lv_room (Nat.le_of_ble_eq_true rfl)) dX10_nearest_35 ⟨Nat.zero_le _, Nat.zero_le _⟩) (fun r_101 u_100 H locs hw hP hD hS => ?_)
      obtain ⟨hf_102, rfl⟩ := hw
      have hP : va_P (dC, dI) vwCl (rW h cs gI gL gA gQ) H := hP
      have hD : va_D A0 (rW h cs gI gL gA gQ) := hD
      obtain rfl := hf_102
      refine lv_icmp_ge (tgt := 95) hx hb dX10_nearest_38 (by decide) (fun c9 => False.elim (by revert c9; decide +kernel)) (fun _ => ?_)
      refine lv_iload hx hb dX10_nearest_41 (lv_at hl 1 rfl) ?_
      refine lv_aload_n hx hb dX10_nearest_43 rfl (lv_at hl 4 rfl) ?_
      refine va_get (D := (dC, dI)) (ci := 10) (v := .ref (h 16)) (C := RX10) (T := TX10) (N := 28) hx hb hts hinX10 hown hK hP 0 rfl rfl 16 (by decide) (hts (.fieldLink RX10 38 "MixedWordsModel" "offs" "[I") (by decide +kernel)) (fun _ h9 => h9) rfl dX10_nearest_44 ?_
      refine lv_iload hx hb dX10_nearest_47 (lv_at hl 0 rfl) ?_
      refine xa_iald hx hb hK hP 7 0 rfl rfl (by omega) (by decide) dX10_nearest_49 ?_
      refine xt_i (y := nI 0) (by decide +kernel) ?_
      refine lv_aload_n hx hb dX10_nearest_50 rfl (lv_at hl 4 rfl) ?_
      refine va_get (D := (dC, dI)) (ci := 10) (v := .ref (h 16)) (C := RX10) (T := TX10) (N := 28) hx hb hts hinX10 hown hK hP 0 rfl rfl 16 (by decide) (hts (.fieldLink RX10 38 "MixedWordsModel" "offs" "[I") (by decide +kernel)) (fun _ h9 => h9) rfl dX10_nearest_51 ?_
      refine lv_iload_n hx hb dX10_nearest_54 rfl (lv_at hl 2 rfl) ?_
      refine xa_iald hx hb hK hP 7 0 rfl rfl (by omega) (by decide) dX10_nearest_55 ?_
      refine xt_i (y := nI 0) (by decide +kernel) ?_
      refine lv_icmp_lt (tgt := 81) hx hb dX10_nearest_56 (by decide) (fun c9 => False.elim (by revert c9; decide +kernel)) (fun _ => ?_)
      refine lv_aload_n hx hb dX10_nearest_59 rfl (lv_at hl 4 rfl) ?_
      refine va_get (D := (dC, dI)) (ci := 10) (v := .ref (h 16)) (C := RX10) (T := TX10) (N := 28) hx hb hts hinX10 hown hK hP 0 rfl rfl 16 (by decide) (hts (.fieldLink RX10 38 "MixedWordsModel" "offs" "[I") (by decide +kernel)) (fun _ h9 => h9) rfl dX10_nearest_60 ?_
      refine lv_iload hx hb dX10_nearest_63 (lv_at hl 0 rfl) ?_
      refine xa_iald hx hb hK hP 7 0 rfl rfl (by omega) (by decide) dX10_nearest_65 ?_
      refine xt_i (y := nI 0) (by decide +kernel) ?_
      refine lv_aload_n hx hb dX10_nearest_66 rfl (lv_at hl 4 rfl) ?_
      refine va_get (D := (dC, dI)) (ci := 10) (v := .ref (h 16)) (C := RX10) (T := TX10) (N := 28) hx hb hts hinX10 hown hK hP 0 rfl rfl 16 (by decide) (hts (.fieldLink RX10 38 "MixedWordsModel" "offs" "[I") (by decide +kernel)) (fun _ h9 => h9) rfl dX10_nearest_67 ?_
      refine lv_iload_n hx hb dX10_nearest_70 rfl (lv_at hl 2 rfl) ?_
      refine xa_iald hx hb hK hP 7 0 rfl rfl (by omega) (by decide) dX10_nearest_71 ?_
      refine xt_i (y := nI 0) (by decide +kernel) ?_
      refine lv_icmp_ne (tgt := 85) hx hb dX10_nearest_72 (by decide) (fun c9 => False.elim (by revert c9; decide +kernel)) (fun _ => ?_)
      refine lv_iload hx hb dX10_nearest_75 (lv_at hl 0 rfl) ?_
      refine lv_iload_n hx hb dX10_nearest_77 rfl (lv_at hl 2 rfl) ?_
      refine lv_icmp_ge (tgt := 85) hx hb dX10_nearest_78 (by decide) (fun _ => ?_) (fun c9 => False.elim (by revert c9; decide +kernel))
      refine lv_iconst (v := nI 0) hx hb dX10_nearest_85 (by decide) ?_
      refine lv_iadd hx hb dX10_nearest_86 ?_
      refine xt_i (y := nI 0) (by decide +kernel) ?_
      refine lv_istore (lv' := [(4, .int (nI 0)), (5, .int (nI 3)), (3, .int (nI 0)), (2, .int (-1)), (0, .ref (h 0)), (1, .int (nI 1))]) hx hb dX10_nearest_87 hl (by decide) rfl (fun ls hl => ?_)
      refine lv_iinc (v := nI 4) (lv' := [(5, .int (nI 4)), (4, .int (nI 0)), (3, .int (nI 0)), (2, .int (-1)), (0, .ref (h 0)), (1, .int (nI 1))]) hx hb dX10_nearest_89 hl (k := 1) rfl (by decide +kernel) (by decide) rfl (fun ls hl => ?_)
      refine lv_goto (tgt := 32) hx hb dX10_nearest_92 (by decide) ?_
      refine lv_iload hx hb dX10_nearest_32 (lv_at hl 0 rfl) ?_
      refine lv_aload_n hx hb dX10_nearest_34 rfl (lv_at hl 4 rfl) ?_
      refine xj_i (wc := (wD_177 h cs gI gL gA gQ)) (wr := ([] : va_W)) hP hD hS hA [0, 1, 2, 3, 4, 5, 6, 7, 8, 9, 10, 11, 12, 13, 14, 15, 16] [] rfl rfl (by decide) (by decide) (va_runV (As := []) (rest := [.int (nI 4)]) ⟨hx, hb, hml, hown, hts⟩ (a_X10_words_179 l dC dI h cs H.size gI gL gA gQ ) (cwV 0 hts gX10_nearest_X10_words rfl rfl rfl (by decide +kernel) ⟨Nat.le_of_ble_eq_true rfl, Nat.le_of_ble_eq_true rfl⟩) (xpV (wc := (wD_177 h cs gI gL gA gQ)) hP hD hK hN [0, 1, 2, 3, 4, 5, 6, 7, 8, 9, 10, 11, 12, 13, 14, 15, 16] rfl (by decide) 0 (ci := 10) rfl rfl _) rfl rfl hl.1 rfl (lv_room (Nat.le_of_ble_eq_true rfl)) dX10_nearest_35 ⟨Nat.zero_le _, Nat.zero_le _⟩) (fun r_104 u_103 H locs hw hP hD hS => ?_)
      obtain ⟨hf_105, rfl⟩ := hw
      have hP : va_P (dC, dI) vwCl (rW h cs gI gL gA gQ) H := hP
      have hD : va_D A0 (rW h cs gI gL gA gQ) := hD
      obtain rfl := hf_105
      refine lv_icmp_ge (tgt := 95) hx hb dX10_nearest_38 (by decide) (fun _ => ?_) (fun c9 => False.elim (by revert c9; decide +kernel))
      refine lv_iload hx hb dX10_nearest_95 (lv_at hl 1 rfl) ?_
      refine lv_iload_n hx hb dX10_nearest_97 rfl (lv_at hl 5 rfl) ?_
      refine lv_icmp_ne (tgt := 105) hx hb dX10_nearest_98 (by decide) (fun _ => ?_) (fun c9 => False.elim (by revert c9; decide +kernel))
      refine lv_iload_n hx hb dX10_nearest_105 rfl (lv_at hl 3 rfl) ?_
      refine lv_istore_n (lv' := [(2, .int (-1)), (5, .int (nI 4)), (4, .int (nI 0)), (3, .int (nI 0)), (0, .ref (h 0)), (1, .int (nI 1))]) hx hb dX10_nearest_106 rfl hl (by decide) rfl (fun ls hl => ?_)
      refine lv_iinc (v := nI 1) (lv' := [(3, .int (nI 1)), (2, .int (-1)), (5, .int (nI 4)), (4, .int (nI 0)), (0, .ref (h 0)), (1, .int (nI 1))]) hx hb dX10_nearest_107 hl (k := 3) rfl (by decide +kernel) (by decide) rfl (fun ls hl => ?_)
      refine lv_goto (tgt := 18) hx hb dX10_nearest_110 (by decide) ?_
      refine lv_iload_n hx hb dX10_nearest_18 rfl (lv_at hl 0 rfl) ?_
      refine lv_aload_n hx hb dX10_nearest_19 rfl (lv_at hl 4 rfl) ?_
      refine xj_i (wc := (wD_177 h cs gI gL gA gQ)) (wr := ([] : va_W)) hP hD hS hA [0, 1, 2, 3, 4, 5, 6, 7, 8, 9, 10, 11, 12, 13, 14, 15, 16] [] rfl rfl (by decide) (by decide) (va_runV (As := []) (rest := [.int (nI 1)]) ⟨hx, hb, hml, hown, hts⟩ (a_X10_words_179 l dC dI h cs H.size gI gL gA gQ ) (cwV 0 hts gX10_nearest_X10_words rfl rfl rfl (by decide +kernel) ⟨Nat.le_of_ble_eq_true rfl, Nat.le_of_ble_eq_true rfl⟩) (xpV (wc := (wD_177 h cs gI gL gA gQ)) hP hD hK hN [0, 1, 2, 3, 4, 5, 6, 7, 8, 9, 10, 11, 12, 13, 14, 15, 16] rfl (by decide) 0 (ci := 10) rfl rfl _) rfl rfl hl.1 rfl (lv_room (Nat.le_of_ble_eq_true rfl)) dX10_nearest_20 ⟨Nat.zero_le _, Nat.zero_le _⟩) (fun r_107 u_106 H locs hw hP hD hS => ?_)
      obtain ⟨hf_108, rfl⟩ := hw
      have hP : va_P (dC, dI) vwCl (rW h cs gI gL gA gQ) H := hP
      have hD : va_D A0 (rW h cs gI gL gA gQ) := hD
      obtain rfl := hf_108
      refine lv_icmp_ge (tgt := 113) hx hb dX10_nearest_23 (by decide) (fun c9 => False.elim (by revert c9; decide +kernel)) (fun _ => ?_)
      refine lv_iconst (v := nI 0) hx hb dX10_nearest_26 (by decide) ?_
      refine lv_istore (lv' := [(4, .int (nI 0)), (3, .int (nI 1)), (2, .int (-1)), (5, .int (nI 4)), (0, .ref (h 0)), (1, .int (nI 1))]) hx hb dX10_nearest_27 hl (by decide) rfl (fun ls hl => ?_)
      refine lv_iconst (v := nI 0) hx hb dX10_nearest_29 (by decide) ?_
      refine lv_istore (lv' := [(5, .int (nI 0)), (4, .int (nI 0)), (3, .int (nI 1)), (2, .int (-1)), (0, .ref (h 0)), (1, .int (nI 1))]) hx hb dX10_nearest_30 hl (by decide) rfl (fun ls hl => ?_)
      refine lv_iload hx hb dX10_nearest_32 (lv_at hl 0 rfl) ?_
      refine lv_aload_n hx hb dX10_nearest_34 rfl (lv_at hl 4 rfl) ?_
      refine xj_i (wc := (wD_177 h cs gI gL gA gQ)) (wr := ([] : va_W)) hP hD hS hA [0, 1, 2, 3, 4, 5, 6, 7, 8, 9, 10, 11, 12, 13, 14, 15, 16] [] rfl rfl (by decide) (by decide) (va_runV (As := []) (rest := [.int (nI 0)]) ⟨hx, hb, hml, hown, hts⟩ (a_X10_words_179 l dC dI h cs H.size gI gL gA gQ ) (cwV 0 hts gX10_nearest_X10_words rfl rfl rfl (by decide +kernel) ⟨Nat.le_of_ble_eq_true rfl, Nat.le_of_ble_eq_true rfl⟩) (xpV (wc := (wD_177 h cs gI gL gA gQ)) hP hD hK hN [0, 1, 2, 3, 4, 5, 6, 7, 8, 9, 10, 11, 12, 13, 14, 15, 16] rfl (by decide) 0 (ci := 10) rfl rfl _) rfl rfl hl.1 rfl (lv_room (Nat.le_of_ble_eq_true rfl)) dX10_nearest_35 ⟨Nat.zero_le _, Nat.zero_le _⟩) (fun r_110 u_109 H locs hw hP hD hS => ?_)
      obtain ⟨hf_111, rfl⟩ := hw
      have hP : va_P (dC, dI) vwCl (rW h cs gI gL gA gQ) H := hP
      have hD : va_D A0 (rW h cs gI gL gA gQ) := hD
      obtain rfl := hf_111
      refine lv_icmp_ge (tgt := 95) hx hb dX10_nearest_38 (by decide) (fun c9 => False.elim (by revert c9; decide +kernel)) (fun _ => ?_)
      refine lv_iload hx hb dX10_nearest_41 (lv_at hl 1 rfl) ?_
      refine lv_aload_n hx hb dX10_nearest_43 rfl (lv_at hl 4 rfl) ?_
      refine va_get (D := (dC, dI)) (ci := 10) (v := .ref (h 16)) (C := RX10) (T := TX10) (N := 28) hx hb hts hinX10 hown hK hP 0 rfl rfl 16 (by decide) (hts (.fieldLink RX10 38 "MixedWordsModel" "offs" "[I") (by decide +kernel)) (fun _ h9 => h9) rfl dX10_nearest_44 ?_
      refine lv_iload hx hb dX10_nearest_47 (lv_at hl 0 rfl) ?_
      refine xa_iald hx hb hK hP 7 0 rfl rfl (by omega) (by decide) dX10_nearest_49 ?_
      refine xt_i (y := nI 0) (by decide +kernel) ?_
      refine lv_aload_n hx hb dX10_nearest_50 rfl (lv_at hl 4 rfl) ?_
      refine va_get (D := (dC, dI)) (ci := 10) (v := .ref (h 16)) (C := RX10) (T := TX10) (N := 28) hx hb hts hinX10 hown hK hP 0 rfl rfl 16 (by decide) (hts (.fieldLink RX10 38 "MixedWordsModel" "offs" "[I") (by decide +kernel)) (fun _ h9 => h9) rfl dX10_nearest_51 ?_
      refine lv_iload_n hx hb dX10_nearest_54 rfl (lv_at hl 2 rfl) ?_
      refine xa_iald hx hb hK hP 7 0 rfl rfl (by omega) (by decide) dX10_nearest_55 ?_
      refine xt_i (y := nI 0) (by decide +kernel) ?_
      refine lv_icmp_lt (tgt := 81) hx hb dX10_nearest_56 (by decide) (fun c9 => False.elim (by revert c9; decide +kernel)) (fun _ => ?_)
      refine lv_aload_n hx hb dX10_nearest_59 rfl (lv_at hl 4 rfl) ?_
      refine va_get (D := (dC, dI)) (ci := 10) (v := .ref (h 16)) (C := RX10) (T := TX10) (N := 28) hx hb hts hinX10 hown hK hP 0 rfl rfl 16 (by decide) (hts (.fieldLink RX10 38 "MixedWordsModel" "offs" "[I") (by decide +kernel)) (fun _ h9 => h9) rfl dX10_nearest_60 ?_
      refine lv_iload hx hb dX10_nearest_63 (lv_at hl 0 rfl) ?_
      refine xa_iald hx hb hK hP 7 0 rfl rfl (by omega) (by decide) dX10_nearest_65 ?_
      refine xt_i (y := nI 0) (by decide +kernel) ?_
      refine lv_aload_n hx hb dX10_nearest_66 rfl (lv_at hl 4 rfl) ?_
      refine va_get (D := (dC, dI)) (ci := 10) (v := .ref (h 16)) (C := RX10) (T := TX10) (N := 28) hx hb hts hinX10 hown hK hP 0 rfl rfl 16 (by decide) (hts (.fieldLink RX10 38 "MixedWordsModel" "offs" "[I") (by decide +kernel)) (fun _ h9 => h9) rfl dX10_nearest_67 ?_
      refine lv_iload_n hx hb dX10_nearest_70 rfl (lv_at hl 2 rfl) ?_
      refine xa_iald hx hb hK hP 7 0 rfl rfl (by omega) (by decide) dX10_nearest_71 ?_
      refine xt_i (y := nI 0) (by decide +kernel) ?_
      refine lv_icmp_ne (tgt := 85) hx hb dX10_nearest_72 (by decide) (fun c9 => False.elim (by revert c9; decide +kernel)) (fun _ => ?_)
      refine lv_iload hx hb dX10_nearest_75 (lv_at hl 0 rfl) ?_
      refine lv_iload_n hx hb dX10_nearest_77 rfl (lv_at hl 2 rfl) ?_
      refine lv_icmp_ge (tgt := 85) hx hb dX10_nearest_78 (by decide) (fun c9 => False.elim (by revert c9; decide +kernel)) (fun _ => ?_)
      refine lv_iconst (v := nI 1) hx hb dX10_nearest_81 (by decide) ?_
      refine lv_goto (tgt := 86) hx hb dX10_nearest_82 (by decide) ?_
      refine lv_iadd hx hb dX10_nearest_86 ?_
      refine xt_i (y := nI 1) (by decide +kernel) ?_
      refine lv_istore (lv' := [(4, .int (nI 1)), (5, .int (nI 0)), (3, .int (nI 1)), (2, .int (-1)), (0, .ref (h 0)), (1, .int (nI 1))]) hx hb dX10_nearest_87 hl (by decide) rfl (fun ls hl => ?_)
      refine lv_iinc (v := nI 1) (lv' := [(5, .int (nI 1)), (4, .int (nI 1)), (3, .int (nI 1)), (2, .int (-1)), (0, .ref (h 0)), (1, .int (nI 1))]) hx hb dX10_nearest_89 hl (k := 1) rfl (by decide +kernel) (by decide) rfl (fun ls hl => ?_)
      refine lv_goto (tgt := 32) hx hb dX10_nearest_92 (by decide) ?_
      refine lv_iload hx hb dX10_nearest_32 (lv_at hl 0 rfl) ?_
      refine lv_aload_n hx hb dX10_nearest_34 rfl (lv_at hl 4 rfl) ?_
      refine xj_i (wc := (wD_177 h cs gI gL gA gQ)) (wr := ([] : va_W)) hP hD hS hA [0, 1, 2, 3, 4, 5, 6, 7, 8, 9, 10, 11, 12, 13, 14, 15, 16] [] rfl rfl (by decide) (by decide) (va_runV (As := []) (rest := [.int (nI 1)]) ⟨hx, hb, hml, hown, hts⟩ (a_X10_words_179 l dC dI h cs H.size gI gL gA gQ ) (cwV 0 hts gX10_nearest_X10_words rfl rfl rfl (by decide +kernel) ⟨Nat.le_of_ble_eq_true rfl, Nat.le_of_ble_eq_true rfl⟩) (xpV (wc := (wD_177 h cs gI gL gA gQ)) hP hD hK hN [0, 1, 2, 3, 4, 5, 6, 7, 8, 9, 10, 11, 12, 13, 14, 15, 16] rfl (by decide) 0 (ci := 10) rfl rfl _) rfl rfl hl.1 rfl (lv_room (Nat.le_of_ble_eq_true rfl)) dX10_nearest_35 ⟨Nat.zero_le _, Nat.zero_le _⟩) (fun r_113 u_112 H locs hw hP hD hS => ?_)
      obtain ⟨hf_114, rfl⟩ := hw
      have hP : va_P (dC, dI) vwCl (rW h cs gI gL gA gQ) H := hP
      have hD : va_D A0 (rW h cs gI gL gA gQ) := hD
      obtain rfl := hf_114
      refine lv_icmp_ge (tgt := 95) hx hb dX10_nearest_38 (by decide) (fun c9 => False.elim (by revert c9; decide +kernel)) (fun _ => ?_)
      refine lv_iload hx hb dX10_nearest_41 (lv_at hl 1 rfl) ?_
      refine lv_aload_n hx hb dX10_nearest_43 rfl (lv_at hl 4 rfl) ?_
      refine va_get (D := (dC, dI)) (ci := 10) (v := .ref (h 16)) (C := RX10) (T := TX10) (N := 28) hx hb hts hinX10 hown hK hP 0 rfl rfl 16 (by decide) (hts (.fieldLink RX10 38 "MixedWordsModel" "offs" "[I") (by decide +kernel)) (fun _ h9 => h9) rfl dX10_nearest_44 ?_
      refine lv_iload hx hb dX10_nearest_47 (lv_at hl 0 rfl) ?_
      refine xa_iald hx hb hK hP 7 0 rfl rfl (by omega) (by decide) dX10_nearest_49 ?_
      refine xt_i (y := nI 0) (by decide +kernel) ?_
      refine lv_aload_n hx hb dX10_nearest_50 rfl (lv_at hl 4 rfl) ?_
      refine va_get (D := (dC, dI)) (ci := 10) (v := .ref (h 16)) (C := RX10) (T := TX10) (N := 28) hx hb hts hinX10 hown hK hP 0 rfl rfl 16 (by decide) (hts (.fieldLink RX10 38 "MixedWordsModel" "offs" "[I") (by decide +kernel)) (fun _ h9 => h9) rfl dX10_nearest_51 ?_
      refine lv_iload_n hx hb dX10_nearest_54 rfl (lv_at hl 2 rfl) ?_
      refine xa_iald hx hb hK hP 7 0 rfl rfl (by omega) (by decide) dX10_nearest_55 ?_
      refine xt_i (y := nI 0) (by decide +kernel) ?_
      refine lv_icmp_lt (tgt := 81) hx hb dX10_nearest_56 (by decide) (fun c9 => False.elim (by revert c9; decide +kernel)) (fun _ => ?_)
      refine lv_aload_n hx hb dX10_nearest_59 rfl (lv_at hl 4 rfl) ?_
      refine va_get (D := (dC, dI)) (ci := 10) (v := .ref (h 16)) (C := RX10) (T := TX10) (N := 28) hx hb hts hinX10 hown hK hP 0 rfl rfl 16 (by decide) (hts (.fieldLink RX10 38 "MixedWordsModel" "offs" "[I") (by decide +kernel)) (fun _ h9 => h9) rfl dX10_nearest_60 ?_
      refine lv_iload hx hb dX10_nearest_63 (lv_at hl 0 rfl) ?_
      refine xa_iald hx hb hK hP 7 0 rfl rfl (by omega) (by decide) dX10_nearest_65 ?_
      refine xt_i (y := nI 0) (by decide +kernel) ?_
      refine lv_aload_n hx hb dX10_nearest_66 rfl (lv_at hl 4 rfl) ?_
      refine va_get (D := (dC, dI)) (ci := 10) (v := .ref (h 16)) (C := RX10) (T := TX10) (N := 28) hx hb hts hinX10 hown hK hP 0 rfl rfl 16 (by decide) (hts (.fieldLink RX10 38 "MixedWordsModel" "offs" "[I") (by decide +kernel)) (fun _ h9 => h9) rfl dX10_nearest_67 ?_
      refine lv_iload_n hx hb dX10_nearest_70 rfl (lv_at hl 2 rfl) ?_
      refine xa_iald hx hb hK hP 7 0 rfl rfl (by omega) (by decide) dX10_nearest_71 ?_
      refine xt_i (y := nI 0) (by decide +kernel) ?_
      refine lv_icmp_ne (tgt := 85) hx hb dX10_nearest_72 (by decide) (fun c9 => False.elim (by revert c9; decide +kernel)) (fun _ => ?_)
      refine lv_iload hx hb dX10_nearest_75 (lv_at hl 0 rfl) ?_
      refine lv_iload_n hx hb dX10_nearest_77 rfl (lv_at hl 2 rfl) ?_
      refine lv_icmp_ge (tgt := 85) hx hb dX10_nearest_78 (by decide) (fun _ => ?_) (fun c9 => False.elim (by revert c9; decide +kernel))
      refine lv_iconst (v := nI 0) hx hb dX10_nearest_85 (by decide) ?_
      refine lv_iadd hx hb dX10_nearest_86 ?_
      refine xt_i (y := nI 1) (by decide +kernel) ?_
      refine lv_istore (lv' := [(4, .int (nI 1)), (5, .int (nI 1)), (3, .int (nI 1)), (2, .int (-1)), (0, .ref (h 0)), (1, .int (nI 1))]) hx hb dX10_nearest_87 hl (by decide) rfl (fun ls hl => ?_)
      refine lv_iinc (v := nI 2) (lv' := [(5, .int (nI 2)), (4, .int (nI 1)), (3, .int (nI 1)), (2, .int (-1)), (0, .ref (h 0)), (1, .int (nI 1))]) hx hb dX10_nearest_89 hl (k := 1) rfl (by decide +kernel) (by decide) rfl (fun ls hl => ?_)
      refine lv_goto (tgt := 32) hx hb dX10_nearest_92 (by decide) ?_
      refine lv_iload hx hb dX10_nearest_32 (lv_at hl 0 rfl) ?_
      refine lv_aload_n hx hb dX10_nearest_34 rfl (lv_at hl 4 rfl) ?_
      refine xj_i (wc := (wD_177 h cs gI gL gA gQ)) (wr := ([] : va_W)) hP hD hS hA [0, 1, 2, 3, 4, 5, 6, 7, 8, 9, 10, 11, 12, 13, 14, 15, 16] [] rfl rfl (by decide) (by decide) (va_runV (As := []) (rest := [.int (nI 2)]) ⟨hx, hb, hml, hown, hts⟩ (a_X10_words_179 l dC dI h cs H.size gI gL gA gQ ) (cwV 0 hts gX10_nearest_X10_words rfl rfl rfl (by decide +kernel) ⟨Nat.le_of_ble_eq_true rfl, Nat.le_of_ble_eq_true rfl⟩) (xpV (wc := (wD_177 h cs gI gL gA gQ)) hP hD hK hN [0, 1, 2, 3, 4, 5, 6, 7, 8, 9, 10, 11, 12, 13, 14, 15, 16] rfl (by decide) 0 (ci := 10) rfl rfl _) rfl rfl hl.1 rfl (lv_room (Nat.le_of_ble_eq_true rfl)) dX10_nearest_35 ⟨Nat.zero_le _, Nat.zero_le _⟩) (fun r_116 u_115 H locs hw hP hD hS => ?_)
      obtain ⟨hf_117, rfl⟩ := hw
      have hP : va_P (dC, dI) vwCl (rW h cs gI gL gA gQ) H := hP
      have hD : va_D A0 (rW h cs gI gL gA gQ) := hD
      obtain rfl := hf_117
      refine lv_icmp_ge (tgt := 95) hx hb dX10_nearest_38 (by decide) (fun c9 => False.elim (by revert c9; decide +kernel)) (fun _ => ?_)
      refine lv_iload hx hb dX10_nearest_41 (lv_at hl 1 rfl) ?_
      refine lv_aload_n hx hb dX10_nearest_43 rfl (lv_at hl 4 rfl) ?_
      refine va_get (D := (dC, dI)) (ci := 10) (v := .ref (h 16)) (C := RX10) (T := TX10) (N := 28) hx hb hts hinX10 hown hK hP 0 rfl rfl 16 (by decide) (hts (.fieldLink RX10 38 "MixedWordsModel" "offs" "[I") (by decide +kernel)) (fun _ h9 => h9) rfl dX10_nearest_44 ?_
      refine lv_iload hx hb dX10_nearest_47 (lv_at hl 0 rfl) ?_
      refine xa_iald hx hb hK hP 7 0 rfl rfl (by omega) (by decide) dX10_nearest_49 ?_
      refine xt_i (y := nI 0) (by decide +kernel) ?_
      refine lv_aload_n hx hb dX10_nearest_50 rfl (lv_at hl 4 rfl) ?_
      refine va_get (D := (dC, dI)) (ci := 10) (v := .ref (h 16)) (C := RX10) (T := TX10) (N := 28) hx hb hts hinX10 hown hK hP 0 rfl rfl 16 (by decide) (hts (.fieldLink RX10 38 "MixedWordsModel" "offs" "[I") (by decide +kernel)) (fun _ h9 => h9) rfl dX10_nearest_51 ?_
      refine lv_iload_n hx hb dX10_nearest_54 rfl (lv_at hl 2 rfl) ?_
      refine xa_iald hx hb hK hP 7 0 rfl rfl (by omega) (by decide) dX10_nearest_55 ?_
      refine xt_i (y := nI 0) (by decide +kernel) ?_
      refine lv_icmp_lt (tgt := 81) hx hb dX10_nearest_56 (by decide) (fun c9 => False.elim (by revert c9; decide +kernel)) (fun _ => ?_)
      refine lv_aload_n hx hb dX10_nearest_59 rfl (lv_at hl 4 rfl) ?_
      refine va_get (D := (dC, dI)) (ci := 10) (v := .ref (h 16)) (C := RX10) (T := TX10) (N := 28) hx hb hts hinX10 hown hK hP 0 rfl rfl 16 (by decide) (hts (.fieldLink RX10 38 "MixedWordsModel" "offs" "[I") (by decide +kernel)) (fun _ h9 => h9) rfl dX10_nearest_60 ?_
      refine lv_iload hx hb dX10_nearest_63 (lv_at hl 0 rfl) ?_
      refine xa_iald hx hb hK hP 7 0 rfl rfl (by omega) (by decide) dX10_nearest_65 ?_
      refine xt_i (y := nI 0) (by decide +kernel) ?_
      refine lv_aload_n hx hb dX10_nearest_66 rfl (lv_at hl 4 rfl) ?_
      refine va_get (D := (dC, dI)) (ci := 10) (v := .ref (h 16)) (C := RX10) (T := TX10) (N := 28) hx hb hts hinX10 hown hK hP 0 rfl rfl 16 (by decide) (hts (.fieldLink RX10 38 "MixedWordsModel" "offs" "[I") (by decide +kernel)) (fun _ h9 => h9) rfl dX10_nearest_67 ?_
      refine lv_iload_n hx hb dX10_nearest_70 rfl (lv_at hl 2 rfl) ?_
      refine xa_iald hx hb hK hP 7 0 rfl rfl (by omega) (by decide) dX10_nearest_71 ?_
      refine xt_i (y := nI 0) (by decide +kernel) ?_
      refine lv_icmp_ne (tgt := 85) hx hb dX10_nearest_72 (by decide) (fun c9 => False.elim (by revert c9; decide +kernel)) (fun _ => ?_)
      refine lv_iload hx hb dX10_nearest_75 (lv_at hl 0 rfl) ?_
      refine lv_iload_n hx hb dX10_nearest_77 rfl (lv_at hl 2 rfl) ?_
      refine lv_icmp_ge (tgt := 85) hx hb dX10_nearest_78 (by decide) (fun _ => ?_) (fun c9 => False.elim (by revert c9; decide +kernel))
      refine lv_iconst (v := nI 0) hx hb dX10_nearest_85 (by decide) ?_
      refine lv_iadd hx hb dX10_nearest_86 ?_
      refine xt_i (y := nI 1) (by decide +kernel) ?_
      refine lv_istore (lv' := [(4, .int (nI 1)), (5, .int (nI 2)), (3, .int (nI 1)), (2, .int (-1)), (0, .ref (h 0)), (1, .int (nI 1))]) hx hb dX10_nearest_87 hl (by decide) rfl (fun ls hl => ?_)
      refine lv_iinc (v := nI 3) (lv' := [(5, .int (nI 3)), (4, .int (nI 1)), (3, .int (nI 1)), (2, .int (-1)), (0, .ref (h 0)), (1, .int (nI 1))]) hx hb dX10_nearest_89 hl (k := 1) rfl (by decide +kernel) (by decide) rfl (fun ls hl => ?_)
      refine lv_goto (tgt := 32) hx hb dX10_nearest_92 (by decide) ?_
      refine lv_iload hx hb dX10_nearest_32 (lv_at hl 0 rfl) ?_
      refine lv_aload_n hx hb dX10_nearest_34 rfl (lv_at hl 4 rfl) ?_
      refine xj_i (wc := (wD_177 h cs gI gL gA gQ)) (wr := ([] : va_W)) hP hD hS hA [0, 1, 2, 3, 4, 5, 6, 7, 8, 9, 10, 11, 12, 13, 14, 15, 16] [] rfl rfl (by decide) (by decide) (va_runV (As := []) (rest := [.int (nI 3)]) ⟨hx, hb, hml, hown, hts⟩ (a_X10_words_179 l dC dI h cs H.size gI gL gA gQ ) (cwV 0 hts gX10_nearest_X10_words rfl rfl rfl (by decide +kernel) ⟨Nat.le_of_ble_eq_true rfl, Nat.le_of_ble_eq_true rfl⟩) (xpV (wc := (wD_177 h cs gI gL gA gQ)) hP hD hK hN [0, 1, 2, 3, 4, 5, 6, 7, 8, 9, 10, 11, 12, 13, 14, 15, 16] rfl (by decide) 0 (ci := 10) rfl rfl _) rfl rfl hl.1 rfl (lv_room (Nat.le_of_ble_eq_true rfl)) dX10_nearest_35 ⟨Nat.zero_le _, Nat.zero_le _⟩) (fun r_119 u_118 H locs hw hP hD hS => ?_)
      obtain ⟨hf_120, rfl⟩ := hw
      have hP : va_P (dC, dI) vwCl (rW h cs gI gL gA gQ) H := hP
      have hD : va_D A0 (rW h cs gI gL gA gQ) := hD
      obtain rfl := hf_120
      refine lv_icmp_ge (tgt := 95) hx hb dX10_nearest_38 (by decide) (fun c9 => False.elim (by revert c9; decide +kernel)) (fun _ => ?_)
      refine lv_iload hx hb dX10_nearest_41 (lv_at hl 1 rfl) ?_
      refine lv_aload_n hx hb dX10_nearest_43 rfl (lv_at hl 4 rfl) ?_
      refine va_get (D := (dC, dI)) (ci := 10) (v := .ref (h 16)) (C := RX10) (T := TX10) (N := 28) hx hb hts hinX10 hown hK hP 0 rfl rfl 16 (by decide) (hts (.fieldLink RX10 38 "MixedWordsModel" "offs" "[I") (by decide +kernel)) (fun _ h9 => h9) rfl dX10_nearest_44 ?_
      refine lv_iload hx hb dX10_nearest_47 (lv_at hl 0 rfl) ?_
      refine xa_iald hx hb hK hP 7 0 rfl rfl (by omega) (by decide) dX10_nearest_49 ?_
      refine xt_i (y := nI 0) (by decide +kernel) ?_
      refine lv_aload_n hx hb dX10_nearest_50 rfl (lv_at hl 4 rfl) ?_
      refine va_get (D := (dC, dI)) (ci := 10) (v := .ref (h 16)) (C := RX10) (T := TX10) (N := 28) hx hb hts hinX10 hown hK hP 0 rfl rfl 16 (by decide) (hts (.fieldLink RX10 38 "MixedWordsModel" "offs" "[I") (by decide +kernel)) (fun _ h9 => h9) rfl dX10_nearest_51 ?_
      refine lv_iload_n hx hb dX10_nearest_54 rfl (lv_at hl 2 rfl) ?_
      refine xa_iald hx hb hK hP 7 0 rfl rfl (by omega) (by decide) dX10_nearest_55 ?_
      refine xt_i (y := nI 0) (by decide +kernel) ?_
      refine lv_icmp_lt (tgt := 81) hx hb dX10_nearest_56 (by decide) (fun c9 => False.elim (by revert c9; decide +kernel)) (fun _ => ?_)
      refine lv_aload_n hx hb dX10_nearest_59 rfl (lv_at hl 4 rfl) ?_
      refine va_get (D := (dC, dI)) (ci := 10) (v := .ref (h 16)) (C := RX10) (T := TX10) (N := 28) hx hb hts hinX10 hown hK hP 0 rfl rfl 16 (by decide) (hts (.fieldLink RX10 38 "MixedWordsModel" "offs" "[I") (by decide +kernel)) (fun _ h9 => h9) rfl dX10_nearest_60 ?_
      refine lv_iload hx hb dX10_nearest_63 (lv_at hl 0 rfl) ?_
      refine xa_iald hx hb hK hP 7 0 rfl rfl (by omega) (by decide) dX10_nearest_65 ?_
      refine xt_i (y := nI 0) (by decide +kernel) ?_
      refine lv_aload_n hx hb dX10_nearest_66 rfl (lv_at hl 4 rfl) ?_
      refine va_get (D := (dC, dI)) (ci := 10) (v := .ref (h 16)) (C := RX10) (T := TX10) (N := 28) hx hb hts hinX10 hown hK hP 0 rfl rfl 16 (by decide) (hts (.fieldLink RX10 38 "MixedWordsModel" "offs" "[I") (by decide +kernel)) (fun _ h9 => h9) rfl dX10_nearest_67 ?_
      refine lv_iload_n hx hb dX10_nearest_70 rfl (lv_at hl 2 rfl) ?_
      refine xa_iald hx hb hK hP 7 0 rfl rfl (by omega) (by decide) dX10_nearest_71 ?_
      refine xt_i (y := nI 0) (by decide +kernel) ?_
      refine lv_icmp_ne (tgt := 85) hx hb dX10_nearest_72 (by decide) (fun c9 => False.elim (by revert c9; decide +kernel)) (fun _ => ?_)
      refine lv_iload hx hb dX10_nearest_75 (lv_at hl 0 rfl) ?_
      refine lv_iload_n hx hb dX10_nearest_77 rfl (lv_at hl 2 rfl) ?_
      refine lv_icmp_ge (tgt := 85) hx hb dX10_nearest_78 (by decide) (fun _ => ?_) (fun c9 => False.elim (by revert c9; decide +kernel))
      refine lv_iconst (v := nI 0) hx hb dX10_nearest_85 (by decide) ?_
      refine lv_iadd hx hb dX10_nearest_86 ?_
      refine xt_i (y := nI 1) (by decide +kernel) ?_
      refine lv_istore (lv' := [(4, .int (nI 1)), (5, .int (nI 3)), (3, .int (nI 1)), (2, .int (-1)), (0, .ref (h 0)), (1, .int (nI 1))]) hx hb dX10_nearest_87 hl (by decide) rfl (fun ls hl => ?_)
      refine lv_iinc (v := nI 4) (lv' := [(5, .int (nI 4)), (4, .int (nI 1)), (3, .int (nI 1)), (2, .int (-1)), (0, .ref (h 0)), (1, .int (nI 1))]) hx hb dX10_nearest_89 hl (k := 1) rfl (by decide +kernel) (by decide) rfl (fun ls hl => ?_)
      refine lv_goto (tgt := 32) hx hb dX10_nearest_92 (by decide) ?_
      refine lv_iload hx hb dX10_nearest_32 (lv_at hl 0 rfl) ?_
      refine lv_aload_n hx hb dX10_nearest_34 rfl (lv_at hl 4 rfl) ?_
      refine xj_i (wc := (wD_177 h cs gI gL gA gQ)) (wr := ([] : va_W)) hP hD hS hA [0, 1, 2, 3, 4, 5, 6, 7, 8, 9, 10, 11, 12, 13, 14, 15, 16] [] rfl rfl (by decide) (by decide) (va_runV (As := []) (rest := [.int (nI 4)]) ⟨hx, hb, hml, hown, hts⟩ (a_X10_words_179 l dC dI h cs H.size gI gL gA gQ ) (cwV 0 hts gX10_nearest_X10_words rfl rfl rfl (by decide +kernel) ⟨Nat.le_of_ble_eq_true rfl, Nat.le_of_ble_eq_true rfl⟩) (xpV (wc := (wD_177 h cs gI gL gA gQ)) hP hD hK hN [0, 1, 2, 3, 4, 5, 6, 7, 8, 9, 10, 11, 12, 13, 14, 15, 16] rfl (by decide) 0 (ci := 10) rfl rfl _) rfl rfl hl.1 rfl (lv_room (Nat.le_of_ble_eq_true rfl)) dX10_nearest_35 ⟨Nat.zero_le _, Nat.zero_le _⟩) (fun r_122 u_121 H locs hw hP hD hS => ?_)
      obtain ⟨hf_123, rfl⟩ := hw
      have hP : va_P (dC, dI) vwCl (rW h cs gI gL gA gQ) H := hP
      have hD : va_D A0 (rW h cs gI gL gA gQ) := hD
      obtain rfl := hf_123
      refine lv_icmp_ge (tgt := 95) hx hb dX10_nearest_38 (by decide) (fun _ => ?_) (fun c9 => False.elim (by revert c9; decide +kernel))
      refine lv_iload hx hb dX10_nearest_95 (lv_at hl 1 rfl) ?_
      refine lv_iload_n hx hb dX10_nearest_97 rfl (lv_at hl 5 rfl) ?_
      refine lv_icmp_ne (tgt := 105) hx hb dX10_nearest_98 (by decide) (fun c9 => False.elim (by revert c9; decide +kernel)) (fun _ => ?_)
      refine lv_iload_n hx hb dX10_nearest_101 rfl (lv_at hl 2 rfl) ?_
      refine lv_goto (tgt := 106) hx hb dX10_nearest_102 (by decide) ?_
      refine lv_istore_n (lv' := [(2, .int (nI 1)), (5, .int (nI 4)), (4, .int (nI 1)), (3, .int (nI 1)), (0, .ref (h 0)), (1, .int (nI 1))]) hx hb dX10_nearest_106 rfl hl (by decide) rfl (fun ls hl => ?_)
      refine lv_iinc (v := nI 2) (lv' := [(3, .int (nI 2)), (2, .int (nI 1)), (5, .int (nI 4)), (4, .int (nI 1)), (0, .ref (h 0)), (1, .int (nI 1))]) hx hb dX10_nearest_107 hl (k := 3) rfl (by decide +kernel) (by decide) rfl (fun ls hl => ?_)
      refine lv_goto (tgt := 18) hx hb dX10_nearest_110 (by decide) ?_
      refine lv_iload_n hx hb dX10_nearest_18 rfl (lv_at hl 0 rfl) ?_
      refine lv_aload_n hx hb dX10_nearest_19 rfl (lv_at hl 4 rfl) ?_
      refine xj_i (wc := (wD_177 h cs gI gL gA gQ)) (wr := ([] : va_W)) hP hD hS hA [0, 1, 2, 3, 4, 5, 6, 7, 8, 9, 10, 11, 12, 13, 14, 15, 16] [] rfl rfl (by decide) (by decide) (va_runV (As := []) (rest := [.int (nI 2)]) ⟨hx, hb, hml, hown, hts⟩ (a_X10_words_179 l dC dI h cs H.size gI gL gA gQ ) (cwV 0 hts gX10_nearest_X10_words rfl rfl rfl (by decide +kernel) ⟨Nat.le_of_ble_eq_true rfl, Nat.le_of_ble_eq_true rfl⟩) (xpV (wc := (wD_177 h cs gI gL gA gQ)) hP hD hK hN [0, 1, 2, 3, 4, 5, 6, 7, 8, 9, 10, 11, 12, 13, 14, 15, 16] rfl (by decide) 0 (ci := 10) rfl rfl _) rfl rfl hl.1 rfl (lv_room (Nat.le_of_ble_eq_true rfl)) dX10_nearest_20 ⟨Nat.zero_le _, Nat.zero_le _⟩) (fun r_125 u_124 H locs hw hP hD hS => ?_)
      obtain ⟨hf_126, rfl⟩ := hw
      have hP : va_P (dC, dI) vwCl (rW h cs gI gL gA gQ) H := hP
      have hD : va_D A0 (rW h cs gI gL gA gQ) := hD
      obtain rfl := hf_126
      refine lv_icmp_ge (tgt := 113) hx hb dX10_nearest_23 (by decide) (fun c9 => False.elim (by revert c9; decide +kernel)) (fun _ => ?_)
      refine lv_iconst (v := nI 0) hx hb dX10_nearest_26 (by decide) ?_
      refine lv_istore (lv' := [(4, .int (nI 0)), (3, .int (nI 2)), (2, .int (nI 1)), (5, .int (nI 4)), (0, .ref (h 0)), (1, .int (nI 1))]) hx hb dX10_nearest_27 hl (by decide) rfl (fun ls hl => ?_)
      refine lv_iconst (v := nI 0) hx hb dX10_nearest_29 (by decide) ?_
      refine lv_istore (lv' := [(5, .int (nI 0)), (4, .int (nI 0)), (3, .int (nI 2)), (2, .int (nI 1)), (0, .ref (h 0)), (1, .int (nI 1))]) hx hb dX10_nearest_30 hl (by decide) rfl (fun ls hl => ?_)
      refine lv_iload hx hb dX10_nearest_32 (lv_at hl 0 rfl) ?_
      refine lv_aload_n hx hb dX10_nearest_34 rfl (lv_at hl 4 rfl) ?_
      refine xj_i (wc := (wD_177 h cs gI gL gA gQ)) (wr := ([] : va_W)) hP hD hS hA [0, 1, 2, 3, 4, 5, 6, 7, 8, 9, 10, 11, 12, 13, 14, 15, 16] [] rfl rfl (by decide) (by decide) (va_runV (As := []) (rest := [.int (nI 0)]) ⟨hx, hb, hml, hown, hts⟩ (a_X10_words_179 l dC dI h cs H.size gI gL gA gQ ) (cwV 0 hts gX10_nearest_X10_words rfl rfl rfl (by decide +kernel) ⟨Nat.le_of_ble_eq_true rfl, Nat.le_of_ble_eq_true rfl⟩) (xpV (wc := (wD_177 h cs gI gL gA gQ)) hP hD hK hN [0, 1, 2, 3, 4, 5, 6, 7, 8, 9, 10, 11, 12, 13, 14, 15, 16] rfl (by decide) 0 (ci := 10) rfl rfl _) rfl rfl hl.1 rfl (lv_room (Nat.le_of_ble_eq_true rfl)) dX10_nearest_35 ⟨Nat.zero_le _, Nat.zero_le _⟩) (fun r_128 u_127 H locs hw hP hD hS => ?_)
      obtain ⟨hf_129, rfl⟩ := hw
      have hP : va_P (dC, dI) vwCl (rW h cs gI gL gA gQ) H := hP
      have hD : va_D A0 (rW h cs gI gL gA gQ) := hD
      obtain rfl := hf_129
      refine lv_icmp_ge (tgt := 95) hx hb dX10_nearest_38 (by decide) (fun c9 => False.elim (by revert c9; decide +kernel)) (fun _ => ?_)
      refine lv_iload hx hb dX10_nearest_41 (lv_at hl 1 rfl) ?_
      refine lv_aload_n hx hb dX10_nearest_43 rfl (lv_at hl 4 rfl) ?_
      refine va_get (D := (dC, dI)) (ci := 10) (v := .ref (h 16)) (C := RX10) (T := TX10) (N := 28) hx hb hts hinX10 hown hK hP 0 rfl rfl 16 (by decide) (hts (.fieldLink RX10 38 "MixedWordsModel" "offs" "[I") (by decide +kernel)) (fun _ h9 => h9) rfl dX10_nearest_44 ?_
      refine lv_iload hx hb dX10_nearest_47 (lv_at hl 0 rfl) ?_
      refine xa_iald hx hb hK hP 7 0 rfl rfl (by omega) (by decide) dX10_nearest_49 ?_
      refine xt_i (y := nI 0) (by decide +kernel) ?_
      refine lv_aload_n hx hb dX10_nearest_50 rfl (lv_at hl 4 rfl) ?_
      refine va_get (D := (dC, dI)) (ci := 10) (v := .ref (h 16)) (C := RX10) (T := TX10) (N := 28) hx hb hts hinX10 hown hK hP 0 rfl rfl 16 (by decide) (hts (.fieldLink RX10 38 "MixedWordsModel" "offs" "[I") (by decide +kernel)) (fun _ h9 => h9) rfl dX10_nearest_51 ?_
      refine lv_iload_n hx hb dX10_nearest_54 rfl (lv_at hl 2 rfl) ?_
      refine xa_iald hx hb hK hP 7 0 rfl rfl (by omega) (by decide) dX10_nearest_55 ?_
      refine xt_i (y := nI 0) (by decide +kernel) ?_
      refine lv_icmp_lt (tgt := 81) hx hb dX10_nearest_56 (by decide) (fun c9 => False.elim (by revert c9; decide +kernel)) (fun _ => ?_)
      refine lv_aload_n hx hb dX10_nearest_59 rfl (lv_at hl 4 rfl) ?_
      refine va_get (D := (dC, dI)) (ci := 10) (v := .ref (h 16)) (C := RX10) (T := TX10) (N := 28) hx hb hts hinX10 hown hK hP 0 rfl rfl 16 (by decide) (hts (.fieldLink RX10 38 "MixedWordsModel" "offs" "[I") (by decide +kernel)) (fun _ h9 => h9) rfl dX10_nearest_60 ?_
      refine lv_iload hx hb dX10_nearest_63 (lv_at hl 0 rfl) ?_
      refine xa_iald hx hb hK hP 7 0 rfl rfl (by omega) (by decide) dX10_nearest_65 ?_
      refine xt_i (y := nI 0) (by decide +kernel) ?_
      refine lv_aload_n hx hb dX10_nearest_66 rfl (lv_at hl 4 rfl) ?_
      refine va_get (D := (dC, dI)) (ci := 10) (v := .ref (h 16)) (C := RX10) (T := TX10) (N := 28) hx hb hts hinX10 hown hK hP 0 rfl rfl 16 (by decide) (hts (.fieldLink RX10 38 "MixedWordsModel" "offs" "[I") (by decide +kernel)) (fun _ h9 => h9) rfl dX10_nearest_67 ?_
      refine lv_iload_n hx hb dX10_nearest_70 rfl (lv_at hl 2 rfl) ?_
      refine xa_iald hx hb hK hP 7 0 rfl rfl (by omega) (by decide) dX10_nearest_71 ?_
      refine xt_i (y := nI 0) (by decide +kernel) ?_
      refine lv_icmp_ne (tgt := 85) hx hb dX10_nearest_72 (by decide) (fun c9 => False.elim (by revert c9; decide +kernel)) (fun _ => ?_)
      refine lv_iload hx hb dX10_nearest_75 (lv_at hl 0 rfl) ?_
      refine lv_iload_n hx hb dX10_nearest_77 rfl (lv_at hl 2 rfl) ?_
      refine lv_icmp_ge (tgt := 85) hx hb dX10_nearest_78 (by decide) (fun c9 => False.elim (by revert c9; decide +kernel)) (fun _ => ?_)
      refine lv_iconst (v := nI 1) hx hb dX10_nearest_81 (by decide) ?_
      refine lv_goto (tgt := 86) hx hb dX10_nearest_82 (by decide) ?_
      refine lv_iadd hx hb dX10_nearest_86 ?_
      refine xt_i (y := nI 1) (by decide +kernel) ?_
      refine lv_istore (lv' := [(4, .int (nI 1)), (5, .int (nI 0)), (3, .int (nI 2)), (2, .int (nI 1)), (0, .ref (h 0)), (1, .int (nI 1))]) hx hb dX10_nearest_87 hl (by decide) rfl (fun ls hl => ?_)
      refine lv_iinc (v := nI 1) (lv' := [(5, .int (nI 1)), (4, .int (nI 1)), (3, .int (nI 2)), (2, .int (nI 1)), (0, .ref (h 0)), (1, .int (nI 1))]) hx hb dX10_nearest_89 hl (k := 1) rfl (by decide +kernel) (by decide) rfl (fun ls hl => ?_)
      refine lv_goto (tgt := 32) hx hb dX10_nearest_92 (by decide) ?_
      refine lv_iload hx hb dX10_nearest_32 (lv_at hl 0 rfl) ?_
      refine lv_aload_n hx hb dX10_nearest_34 rfl (lv_at hl 4 rfl) ?_
      refine xj_i (wc := (wD_177 h cs gI gL gA gQ)) (wr := ([] : va_W)) hP hD hS hA [0, 1, 2, 3, 4, 5, 6, 7, 8, 9, 10, 11, 12, 13, 14, 15, 16] [] rfl rfl (by decide) (by decide) (va_runV (As := []) (rest := [.int (nI 1)]) ⟨hx, hb, hml, hown, hts⟩ (a_X10_words_179 l dC dI h cs H.size gI gL gA gQ ) (cwV 0 hts gX10_nearest_X10_words rfl rfl rfl (by decide +kernel) ⟨Nat.le_of_ble_eq_true rfl, Nat.le_of_ble_eq_true rfl⟩) (xpV (wc := (wD_177 h cs gI gL gA gQ)) hP hD hK hN [0, 1, 2, 3, 4, 5, 6, 7, 8, 9, 10, 11, 12, 13, 14, 15, 16] rfl (by decide) 0 (ci := 10) rfl rfl _) rfl rfl hl.1 rfl (lv_room (Nat.le_of_ble_eq_true rfl)) dX10_nearest_35 ⟨Nat.zero_le _, Nat.zero_le _⟩) (fun r_131 u_130 H locs hw hP hD hS => ?_)
      obtain ⟨hf_132, rfl⟩ := hw
      have hP : va_P (dC, dI) vwCl (rW h cs gI gL gA gQ) H := hP
      have hD : va_D A0 (rW h cs gI gL gA gQ) := hD
      obtain rfl := hf_132
      refine lv_icmp_ge (tgt := 95) hx hb dX10_nearest_38 (by decide) (fun c9 => False.elim (by revert c9; decide +kernel)) (fun _ => ?_)
      refine lv_iload hx hb dX10_nearest_41 (lv_at hl 1 rfl) ?_
      refine lv_aload_n hx hb dX10_nearest_43 rfl (lv_at hl 4 rfl) ?_
      refine va_get (D := (dC, dI)) (ci := 10) (v := .ref (h 16)) (C := RX10) (T := TX10) (N := 28) hx hb hts hinX10 hown hK hP 0 rfl rfl 16 (by decide) (hts (.fieldLink RX10 38 "MixedWordsModel" "offs" "[I") (by decide +kernel)) (fun _ h9 => h9) rfl dX10_nearest_44 ?_
      refine lv_iload hx hb dX10_nearest_47 (lv_at hl 0 rfl) ?_
      refine xa_iald hx hb hK hP 7 0 rfl rfl (by omega) (by decide) dX10_nearest_49 ?_
      refine xt_i (y := nI 0) (by decide +kernel) ?_
      refine lv_aload_n hx hb dX10_nearest_50 rfl (lv_at hl 4 rfl) ?_
      refine va_get (D := (dC, dI)) (ci := 10) (v := .ref (h 16)) (C := RX10) (T := TX10) (N := 28) hx hb hts hinX10 hown hK hP 0 rfl rfl 16 (by decide) (hts (.fieldLink RX10 38 "MixedWordsModel" "offs" "[I") (by decide +kernel)) (fun _ h9 => h9) rfl dX10_nearest_51 ?_
      refine lv_iload_n hx hb dX10_nearest_54 rfl (lv_at hl 2 rfl) ?_
      refine xa_iald hx hb hK hP 7 0 rfl rfl (by omega) (by decide) dX10_nearest_55 ?_
      refine xt_i (y := nI 0) (by decide +kernel) ?_
      refine lv_icmp_lt (tgt := 81) hx hb dX10_nearest_56 (by decide) (fun c9 => False.elim (by revert c9; decide +kernel)) (fun _ => ?_)
      refine lv_aload_n hx hb dX10_nearest_59 rfl (lv_at hl 4 rfl) ?_
      refine va_get (D := (dC, dI)) (ci := 10) (v := .ref (h 16)) (C := RX10) (T := TX10) (N := 28) hx hb hts hinX10 hown hK hP 0 rfl rfl 16 (by decide) (hts (.fieldLink RX10 38 "MixedWordsModel" "offs" "[I") (by decide +kernel)) (fun _ h9 => h9) rfl dX10_nearest_60 ?_
      refine lv_iload hx hb dX10_nearest_63 (lv_at hl 0 rfl) ?_
      refine xa_iald hx hb hK hP 7 0 rfl rfl (by omega) (by decide) dX10_nearest_65 ?_
      refine xt_i (y := nI 0) (by decide +kernel) ?_
      refine lv_aload_n hx hb dX10_nearest_66 rfl (lv_at hl 4 rfl) ?_
      refine va_get (D := (dC, dI)) (ci := 10) (v := .ref (h 16)) (C := RX10) (T := TX10) (N := 28) hx hb hts hinX10 hown hK hP 0 rfl rfl 16 (by decide) (hts (.fieldLink RX10 38 "MixedWordsModel" "offs" "[I") (by decide +kernel)) (fun _ h9 => h9) rfl dX10_nearest_67 ?_
      refine lv_iload_n hx hb dX10_nearest_70 rfl (lv_at hl 2 rfl) ?_
      refine xa_iald hx hb hK hP 7 0 rfl rfl (by omega) (by decide) dX10_nearest_71 ?_
      refine xt_i (y := nI 0) (by decide +kernel) ?_
      refine lv_icmp_ne (tgt := 85) hx hb dX10_nearest_72 (by decide) (fun c9 => False.elim (by revert c9; decide +kernel)) (fun _ => ?_)
      refine lv_iload hx hb dX10_nearest_75 (lv_at hl 0 rfl) ?_
      refine lv_iload_n hx hb dX10_nearest_77 rfl (lv_at hl 2 rfl) ?_
      refine lv_icmp_ge (tgt := 85) hx hb dX10_nearest_78 (by decide) (fun c9 => False.elim (by revert c9; decide +kernel)) (fun _ => ?_)
      refine lv_iconst (v := nI 1) hx hb dX10_nearest_81 (by decide) ?_
      refine lv_goto (tgt := 86) hx hb dX10_nearest_82 (by decide) ?_
      refine lv_iadd hx hb dX10_nearest_86 ?_
      refine xt_i (y := nI 2) (by decide +kernel) ?_
      refine lv_istore (lv' := [(4, .int (nI 2)), (5, .int (nI 1)), (3, .int (nI 2)), (2, .int (nI 1)), (0, .ref (h 0)), (1, .int (nI 1))]) hx hb dX10_nearest_87 hl (by decide) rfl (fun ls hl => ?_)
      refine lv_iinc (v := nI 2) (lv' := [(5, .int (nI 2)), (4, .int (nI 2)), (3, .int (nI 2)), (2, .int (nI 1)), (0, .ref (h 0)), (1, .int (nI 1))]) hx hb dX10_nearest_89 hl (k := 1) rfl (by decide +kernel) (by decide) rfl (fun ls hl => ?_)
      refine lv_goto (tgt := 32) hx hb dX10_nearest_92 (by decide) ?_
      refine lv_iload hx hb dX10_nearest_32 (lv_at hl 0 rfl) ?_
      refine lv_aload_n hx hb dX10_nearest_34 rfl (lv_at hl 4 rfl) ?_
      refine xj_i (wc := (wD_177 h cs gI gL gA gQ)) (wr := ([] : va_W)) hP hD hS hA [0, 1, 2, 3, 4, 5, 6, 7, 8, 9, 10, 11, 12, 13, 14, 15, 16] [] rfl rfl (by decide) (by decide) (va_runV (As := []) (rest := [.int (nI 2)]) ⟨hx, hb, hml, hown, hts⟩ (a_X10_words_179 l dC dI h cs H.size gI gL gA gQ ) (cwV 0 hts gX10_nearest_X10_words rfl rfl rfl (by decide +kernel) ⟨Nat.le_of_ble_eq_true rfl, Nat.le_of_ble_eq_true rfl⟩) (xpV (wc := (wD_177 h cs gI gL gA gQ)) hP hD hK hN [0, 1, 2, 3, 4, 5, 6, 7, 8, 9, 10, 11, 12, 13, 14, 15, 16] rfl (by decide) 0 (ci := 10) rfl rfl _) rfl rfl hl.1 rfl (lv_room (Nat.le_of_ble_eq_true rfl)) dX10_nearest_35 ⟨Nat.zero_le _, Nat.zero_le _⟩) (fun r_134 u_133 H locs hw hP hD hS => ?_)
      obtain ⟨hf_135, rfl⟩ := hw
      have hP : va_P (dC, dI) vwCl (rW h cs gI gL gA gQ) H := hP
      have hD : va_D A0 (rW h cs gI gL gA gQ) := hD
      obtain rfl := hf_135
      refine lv_icmp_ge (tgt := 95) hx hb dX10_nearest_38 (by decide) (fun c9 => False.elim (by revert c9; decide +kernel)) (fun _ => ?_)
      refine lv_iload hx hb dX10_nearest_41 (lv_at hl 1 rfl) ?_
      refine lv_aload_n hx hb dX10_nearest_43 rfl (lv_at hl 4 rfl) ?_
      refine va_get (D := (dC, dI)) (ci := 10) (v := .ref (h 16)) (C := RX10) (T := TX10) (N := 28) hx hb hts hinX10 hown hK hP 0 rfl rfl 16 (by decide) (hts (.fieldLink RX10 38 "MixedWordsModel" "offs" "[I") (by decide +kernel)) (fun _ h9 => h9) rfl dX10_nearest_44 ?_
      refine lv_iload hx hb dX10_nearest_47 (lv_at hl 0 rfl) ?_
      refine xa_iald hx hb hK hP 7 0 rfl rfl (by omega) (by decide) dX10_nearest_49 ?_
      refine xt_i (y := nI 0) (by decide +kernel) ?_
      refine lv_aload_n hx hb dX10_nearest_50 rfl (lv_at hl 4 rfl) ?_
      refine va_get (D := (dC, dI)) (ci := 10) (v := .ref (h 16)) (C := RX10) (T := TX10) (N := 28) hx hb hts hinX10 hown hK hP 0 rfl rfl 16 (by decide) (hts (.fieldLink RX10 38 "MixedWordsModel" "offs" "[I") (by decide +kernel)) (fun _ h9 => h9) rfl dX10_nearest_51 ?_
      refine lv_iload_n hx hb dX10_nearest_54 rfl (lv_at hl 2 rfl) ?_
      refine xa_iald hx hb hK hP 7 0 rfl rfl (by omega) (by decide) dX10_nearest_55 ?_
      refine xt_i (y := nI 0) (by decide +kernel) ?_
      refine lv_icmp_lt (tgt := 81) hx hb dX10_nearest_56 (by decide) (fun c9 => False.elim (by revert c9; decide +kernel)) (fun _ => ?_)
      refine lv_aload_n hx hb dX10_nearest_59 rfl (lv_at hl 4 rfl) ?_
      refine va_get (D := (dC, dI)) (ci := 10) (v := .ref (h 16)) (C := RX10) (T := TX10) (N := 28) hx hb hts hinX10 hown hK hP 0 rfl rfl 16 (by decide) (hts (.fieldLink RX10 38 "MixedWordsModel" "offs" "[I") (by decide +kernel)) (fun _ h9 => h9) rfl dX10_nearest_60 ?_
      refine lv_iload hx hb dX10_nearest_63 (lv_at hl 0 rfl) ?_
      refine xa_iald hx hb hK hP 7 0 rfl rfl (by omega) (by decide) dX10_nearest_65 ?_
      refine xt_i (y := nI 0) (by decide +kernel) ?_
      refine lv_aload_n hx hb dX10_nearest_66 rfl (lv_at hl 4 rfl) ?_
      refine va_get (D := (dC, dI)) (ci := 10) (v := .ref (h 16)) (C := RX10) (T := TX10) (N := 28) hx hb hts hinX10 hown hK hP 0 rfl rfl 16 (by decide) (hts (.fieldLink RX10 38 "MixedWordsModel" "offs" "[I") (by decide +kernel)) (fun _ h9 => h9) rfl dX10_nearest_67 ?_
      refine lv_iload_n hx hb dX10_nearest_70 rfl (lv_at hl 2 rfl) ?_
      refine xa_iald hx hb hK hP 7 0 rfl rfl (by omega) (by decide) dX10_nearest_71 ?_
      refine xt_i (y := nI 0) (by decide +kernel) ?_
      refine lv_icmp_ne (tgt := 85) hx hb dX10_nearest_72 (by decide) (fun c9 => False.elim (by revert c9; decide +kernel)) (fun _ => ?_)
      refine lv_iload hx hb dX10_nearest_75 (lv_at hl 0 rfl) ?_
      refine lv_iload_n hx hb dX10_nearest_77 rfl (lv_at hl 2 rfl) ?_
      refine lv_icmp_ge (tgt := 85) hx hb dX10_nearest_78 (by decide) (fun _ => ?_) (fun c9 => False.elim (by revert c9; decide +kernel))
      refine lv_iconst (v := nI 0) hx hb dX10_nearest_85 (by decide) ?_
      refine lv_iadd hx hb dX10_nearest_86 ?_
      refine xt_i (y := nI 2) (by decide +kernel) ?_
      refine lv_istore (lv' := [(4, .int (nI 2)), (5, .int (nI 2)), (3, .int (nI 2)), (2, .int (nI 1)), (0, .ref (h 0)), (1, .int (nI 1))]) hx hb dX10_nearest_87 hl (by decide) rfl (fun ls hl => ?_)
      refine lv_iinc (v := nI 3) (lv' := [(5, .int (nI 3)), (4, .int (nI 2)), (3, .int (nI 2)), (2, .int (nI 1)), (0, .ref (h 0)), (1, .int (nI 1))]) hx hb dX10_nearest_89 hl (k := 1) rfl (by decide +kernel) (by decide) rfl (fun ls hl => ?_)
      refine lv_goto (tgt := 32) hx hb dX10_nearest_92 (by decide) ?_
      refine lv_iload hx hb dX10_nearest_32 (lv_at hl 0 rfl) ?_
      refine lv_aload_n hx hb dX10_nearest_34 rfl (lv_at hl 4 rfl) ?_
      refine xj_i (wc := (wD_177 h cs gI gL gA gQ)) (wr := ([] : va_W)) hP hD hS hA [0, 1, 2, 3, 4, 5, 6, 7, 8, 9, 10, 11, 12, 13, 14, 15, 16] [] rfl rfl (by decide) (by decide) (va_runV (As := []) (rest := [.int (nI 3)]) ⟨hx, hb, hml, hown, hts⟩ (a_X10_words_179 l dC dI h cs H.size gI gL gA gQ ) (cwV 0 hts gX10_nearest_X10_words rfl rfl rfl (by decide +kernel) ⟨Nat.le_of_ble_eq_true rfl, Nat.le_of_ble_eq_true rfl⟩) (xpV (wc := (wD_177 h cs gI gL gA gQ)) hP hD hK hN [0, 1, 2, 3, 4, 5, 6, 7, 8, 9, 10, 11, 12, 13, 14, 15, 16] rfl (by decide) 0 (ci := 10) rfl rfl _) rfl rfl hl.1 rfl (lv_room (Nat.le_of_ble_eq_true rfl)) dX10_nearest_35 ⟨Nat.zero_le _, Nat.zero_le _⟩) (fun r_137 u_136 H locs hw hP hD hS => ?_)
      obtain ⟨hf_138, rfl⟩ := hw
      have hP : va_P (dC, dI) vwCl (rW h cs gI gL gA gQ) H := hP
      have hD : va_D A0 (rW h cs gI gL gA gQ) := hD
      obtain rfl := hf_138
      refine lv_icmp_ge (tgt := 95) hx hb dX10_nearest_38 (by decide) (fun c9 => False.elim (by revert c9; decide +kernel)) (fun _ => ?_)
      refine lv_iload hx hb dX10_nearest_41 (lv_at hl 1 rfl) ?_
      refine lv_aload_n hx hb dX10_nearest_43 rfl (lv_at hl 4 rfl) ?_
      refine va_get (D := (dC, dI)) (ci := 10) (v := .ref (h 16)) (C := RX10) (T := TX10) (N := 28) hx hb hts hinX10 hown hK hP 0 rfl rfl 16 (by decide) (hts (.fieldLink RX10 38 "MixedWordsModel" "offs" "[I") (by decide +kernel)) (fun _ h9 => h9) rfl dX10_nearest_44 ?_
      refine lv_iload hx hb dX10_nearest_47 (lv_at hl 0 rfl) ?_
      refine xa_iald hx hb hK hP 7 0 rfl rfl (by omega) (by decide) dX10_nearest_49 ?_
      refine xt_i (y := nI 0) (by decide +kernel) ?_
      refine lv_aload_n hx hb dX10_nearest_50 rfl (lv_at hl 4 rfl) ?_
      refine va_get (D := (dC, dI)) (ci := 10) (v := .ref (h 16)) (C := RX10) (T := TX10) (N := 28) hx hb hts hinX10 hown hK hP 0 rfl rfl 16 (by decide) (hts (.fieldLink RX10 38 "MixedWordsModel" "offs" "[I") (by decide +kernel)) (fun _ h9 => h9) rfl dX10_nearest_51 ?_
      refine lv_iload_n hx hb dX10_nearest_54 rfl (lv_at hl 2 rfl) ?_
      refine xa_iald hx hb hK hP 7 0 rfl rfl (by omega) (by decide) dX10_nearest_55 ?_
      refine xt_i (y := nI 0) (by decide +kernel) ?_
      refine lv_icmp_lt (tgt := 81) hx hb dX10_nearest_56 (by decide) (fun c9 => False.elim (by revert c9; decide +kernel)) (fun _ => ?_)
      refine lv_aload_n hx hb dX10_nearest_59 rfl (lv_at hl 4 rfl) ?_
      refine va_get (D := (dC, dI)) (ci := 10) (v := .ref (h 16)) (C := RX10) (T := TX10) (N := 28) hx hb hts hinX10 hown hK hP 0 rfl rfl 16 (by decide) (hts (.fieldLink RX10 38 "MixedWordsModel" "offs" "[I") (by decide +kernel)) (fun _ h9 => h9) rfl dX10_nearest_60 ?_
      refine lv_iload hx hb dX10_nearest_63 (lv_at hl 0 rfl) ?_
      refine xa_iald hx hb hK hP 7 0 rfl rfl (by omega) (by decide) dX10_nearest_65 ?_
      refine xt_i (y := nI 0) (by decide +kernel) ?_
      refine lv_aload_n hx hb dX10_nearest_66 rfl (lv_at hl 4 rfl) ?_
      refine va_get (D := (dC, dI)) (ci := 10) (v := .ref (h 16)) (C := RX10) (T := TX10) (N := 28) hx hb hts hinX10 hown hK hP 0 rfl rfl 16 (by decide) (hts (.fieldLink RX10 38 "MixedWordsModel" "offs" "[I") (by decide +kernel)) (fun _ h9 => h9) rfl dX10_nearest_67 ?_
      refine lv_iload_n hx hb dX10_nearest_70 rfl (lv_at hl 2 rfl) ?_
      refine xa_iald hx hb hK hP 7 0 rfl rfl (by omega) (by decide) dX10_nearest_71 ?_
      refine xt_i (y := nI 0) (by decide +kernel) ?_
      refine lv_icmp_ne (tgt := 85) hx hb dX10_nearest_72 (by decide) (fun c9 => False.elim (by revert c9; decide +kernel)) (fun _ => ?_)
      refine lv_iload hx hb dX10_nearest_75 (lv_at hl 0 rfl) ?_
      refine lv_iload_n hx hb dX10_nearest_77 rfl (lv_at hl 2 rfl) ?_
      refine lv_icmp_ge (tgt := 85) hx hb dX10_nearest_78 (by decide) (fun _ => ?_) (fun c9 => False.elim (by revert c9; decide +kernel))
      refine lv_iconst (v := nI 0) hx hb dX10_nearest_85 (by decide) ?_
      refine lv_iadd hx hb dX10_nearest_86 ?_
      refine xt_i (y := nI 2) (by decide +kernel) ?_
      refine lv_istore (lv' := [(4, .int (nI 2)), (5, .int (nI 3)), (3, .int (nI 2)), (2, .int (nI 1)), (0, .ref (h 0)), (1, .int (nI 1))]) hx hb dX10_nearest_87 hl (by decide) rfl (fun ls hl => ?_)
      refine lv_iinc (v := nI 4) (lv' := [(5, .int (nI 4)), (4, .int (nI 2)), (3, .int (nI 2)), (2, .int (nI 1)), (0, .ref (h 0)), (1, .int (nI 1))]) hx hb dX10_nearest_89 hl (k := 1) rfl (by decide +kernel) (by decide) rfl (fun ls hl => ?_)
      refine lv_goto (tgt := 32) hx hb dX10_nearest_92 (by decide) ?_
      refine lv_iload hx hb dX10_nearest_32 (lv_at hl 0 rfl) ?_
      refine lv_aload_n hx hb dX10_nearest_34 rfl (lv_at hl 4 rfl) ?_
      refine xj_i (wc := (wD_177 h cs gI gL gA gQ)) (wr := ([] : va_W)) hP hD hS hA [0, 1, 2, 3, 4, 5, 6, 7, 8, 9, 10, 11, 12, 13, 14, 15, 16] [] rfl rfl (by decide) (by decide) (va_runV (As := []) (rest := [.int (nI 4)]) ⟨hx, hb, hml, hown, hts⟩ (a_X10_words_179 l dC dI h cs H.size gI gL gA gQ ) (cwV 0 hts gX10_nearest_X10_words rfl rfl rfl (by decide +kernel) ⟨Nat.le_of_ble_eq_true rfl, Nat.le_of_ble_eq_true rfl⟩) (xpV (wc := (wD_177 h cs gI gL gA gQ)) hP hD hK hN [0, 1, 2, 3, 4, 5, 6, 7, 8, 9, 10, 11, 12, 13, 14, 15, 16] rfl (by decide) 0 (ci := 10) rfl rfl _) rfl rfl hl.1 rfl (lv_room (Nat.le_of_ble_eq_true rfl)) dX10_nearest_35 ⟨Nat.zero_le _, Nat.zero_le _⟩) (fun r_140 u_139 H locs hw hP hD hS => ?_)
      obtain ⟨hf_141, rfl⟩ := hw
      have hP : va_P (dC, dI) vwCl (rW h cs gI gL gA gQ) H := hP
      have hD : va_D A0 (rW h cs gI gL gA gQ) := hD
      obtain rfl := hf_141
      refine lv_icmp_ge (tgt := 95) hx hb dX10_nearest_38 (by decide) (fun _ => ?_) (fun c9 => False.elim (by revert c9; decide +kernel))
      refine lv_iload hx hb dX10_nearest_95 (lv_at hl 1 rfl) ?_
      refine lv_iload_n hx hb dX10_nearest_97 rfl (lv_at hl 5 rfl) ?_
      refine lv_icmp_ne (tgt := 105) hx hb dX10_nearest_98 (by decide) (fun _ => ?_) (fun c9 => False.elim (by revert c9; decide +kernel))
      refine lv_iload_n hx hb dX10_nearest_105 rfl (lv_at hl 3 rfl) ?_
      refine lv_istore_n (lv' := [(2, .int (nI 1)), (5, .int (nI 4)), (4, .int (nI 2)), (3, .int (nI 2)), (0, .ref (h 0)), (1, .int (nI 1))]) hx hb dX10_nearest_106 rfl hl (by decide) rfl (fun ls hl => ?_)
      refine lv_iinc (v := nI 3) (lv' := [(3, .int (nI 3)), (2, .int (nI 1)), (5, .int (nI 4)), (4, .int (nI 2)), (0, .ref (h 0)), (1, .int (nI 1))]) hx hb dX10_nearest_107 hl (k := 3) rfl (by decide +kernel) (by decide) rfl (fun ls hl => ?_)
      refine lv_goto (tgt := 18) hx hb dX10_nearest_110 (by decide) ?_
      refine lv_iload_n hx hb dX10_nearest_18 rfl (lv_at hl 0 rfl) ?_
      refine lv_aload_n hx hb dX10_nearest_19 rfl (lv_at hl 4 rfl) ?_
      refine xj_i (wc := (wD_177 h cs gI gL gA gQ)) (wr := ([] : va_W)) hP hD hS hA [0, 1, 2, 3, 4, 5, 6, 7, 8, 9, 10, 11, 12, 13, 14, 15, 16] [] rfl rfl (by decide) (by decide) (va_runV (As := []) (rest := [.int (nI 3)]) ⟨hx, hb, hml, hown, hts⟩ (a_X10_words_179 l dC dI h cs H.size gI gL gA gQ ) (cwV 0 hts gX10_nearest_X10_words rfl rfl rfl (by decide +kernel) ⟨Nat.le_of_ble_eq_true rfl, Nat.le_of_ble_eq_true rfl⟩) (xpV (wc := (wD_177 h cs gI gL gA gQ)) hP hD hK hN [0, 1, 2, 3, 4, 5, 6, 7, 8, 9, 10, 11, 12, 13, 14, 15, 16] rfl (by decide) 0 (ci := 10) rfl rfl _) rfl rfl hl.1 rfl (lv_room (Nat.le_of_ble_eq_true rfl)) dX10_nearest_20 ⟨Nat.zero_le _, Nat.zero_le _⟩) (fun r_143 u_142 H locs hw hP hD hS => ?_)
      obtain ⟨hf_144, rfl⟩ := hw
      have hP : va_P (dC, dI) vwCl (rW h cs gI gL gA gQ) H := hP
      have hD : va_D A0 (rW h cs gI gL gA gQ) := hD
      obtain rfl := hf_144
      refine lv_icmp_ge (tgt := 113) hx hb dX10_nearest_23 (by decide) (fun c9 => False.elim (by revert c9; decide +kernel)) (fun _ => ?_)
      refine lv_iconst (v := nI 0) hx hb dX10_nearest_26 (by decide) ?_
      refine lv_istore (lv' := [(4, .int (nI 0)), (3, .int (nI 3)), (2, .int (nI 1)), (5, .int (nI 4)), (0, .ref (h 0)), (1, .int (nI 1))]) hx hb dX10_nearest_27 hl (by decide) rfl (fun ls hl => ?_)
      refine lv_iconst (v := nI 0) hx hb dX10_nearest_29 (by decide) ?_
      refine lv_istore (lv' := [(5, .int (nI 0)), (4, .int (nI 0)), (3, .int (nI 3)), (2, .int (nI 1)), (0, .ref (h 0)), (1, .int (nI 1))]) hx hb dX10_nearest_30 hl (by decide) rfl (fun ls hl => ?_)
      refine lv_iload hx hb dX10_nearest_32 (lv_at hl 0 rfl) ?_
      refine lv_aload_n hx hb dX10_nearest_34 rfl (lv_at hl 4 rfl) ?_
      refine xj_i (wc := (wD_177 h cs gI gL gA gQ)) (wr := ([] : va_W)) hP hD hS hA [0, 1, 2, 3, 4, 5, 6, 7, 8, 9, 10, 11, 12, 13, 14, 15, 16] [] rfl rfl (by decide) (by decide) (va_runV (As := []) (rest := [.int (nI 0)]) ⟨hx, hb, hml, hown, hts⟩ (a_X10_words_179 l dC dI h cs H.size gI gL gA gQ ) (cwV 0 hts gX10_nearest_X10_words rfl rfl rfl (by decide +kernel) ⟨Nat.le_of_ble_eq_true rfl, Nat.le_of_ble_eq_true rfl⟩) (xpV (wc := (wD_177 h cs gI gL gA gQ)) hP hD hK hN [0, 1, 2, 3, 4, 5, 6, 7, 8, 9, 10, 11, 12, 13, 14, 15, 16] rfl (by decide) 0 (ci := 10) rfl rfl _) rfl rfl hl.1 rfl (lv_room (Nat.le_of_ble_eq_true rfl)) dX10_nearest_35 ⟨Nat.zero_le _, Nat.zero_le _⟩) (fun r_146 u_145 H locs hw hP hD hS => ?_)
      obtain ⟨hf_147, rfl⟩ := hw
      have hP : va_P (dC, dI) vwCl (rW h cs gI gL gA gQ) H := hP
      have hD : va_D A0 (rW h cs gI gL gA gQ) := hD
      obtain rfl := hf_147
      refine lv_icmp_ge (tgt := 95) hx hb dX10_nearest_38 (by decide) (fun c9 => False.elim (by revert c9; decide +kernel)) (fun _ => ?_)
      refine lv_iload hx hb dX10_nearest_41 (lv_at hl 1 rfl) ?_
      refine lv_aload_n hx hb dX10_nearest_43 rfl (lv_at hl 4 rfl) ?_
      refine va_get (D := (dC, dI)) (ci := 10) (v := .ref (h 16)) (C := RX10) (T := TX10) (N := 28) hx hb hts hinX10 hown hK hP 0 rfl rfl 16 (by decide) (hts (.fieldLink RX10 38 "MixedWordsModel" "offs" "[I") (by decide +kernel)) (fun _ h9 => h9) rfl dX10_nearest_44 ?_
      refine lv_iload hx hb dX10_nearest_47 (lv_at hl 0 rfl) ?_
      refine xa_iald hx hb hK hP 7 0 rfl rfl (by omega) (by decide) dX10_nearest_49 ?_
      refine xt_i (y := nI 0) (by decide +kernel) ?_
      refine lv_aload_n hx hb dX10_nearest_50 rfl (lv_at hl 4 rfl) ?_
      refine va_get (D := (dC, dI)) (ci := 10) (v := .ref (h 16)) (C := RX10) (T := TX10) (N := 28) hx hb hts hinX10 hown hK hP 0 rfl rfl 16 (by decide) (hts (.fieldLink RX10 38 "MixedWordsModel" "offs" "[I") (by decide +kernel)) (fun _ h9 => h9) rfl dX10_nearest_51 ?_
      refine lv_iload_n hx hb dX10_nearest_54 rfl (lv_at hl 2 rfl) ?_
      refine xa_iald hx hb hK hP 7 0 rfl rfl (by omega) (by decide) dX10_nearest_55 ?_
      refine xt_i (y := nI 0) (by decide +kernel) ?_
      refine lv_icmp_lt (tgt := 81) hx hb dX10_nearest_56 (by decide) (fun c9 => False.elim (by revert c9; decide +kernel)) (fun _ => ?_)
      refine lv_aload_n hx hb dX10_nearest_59 rfl (lv_at hl 4 rfl) ?_
      refine va_get (D := (dC, dI)) (ci := 10) (v := .ref (h 16)) (C := RX10) (T := TX10) (N := 28) hx hb hts hinX10 hown hK hP 0 rfl rfl 16 (by decide) (hts (.fieldLink RX10 38 "MixedWordsModel" "offs" "[I") (by decide +kernel)) (fun _ h9 => h9) rfl dX10_nearest_60 ?_
      refine lv_iload hx hb dX10_nearest_63 (lv_at hl 0 rfl) ?_
      refine xa_iald hx hb hK hP 7 0 rfl rfl (by omega) (by decide) dX10_nearest_65 ?_
      refine xt_i (y := nI 0) (by decide +kernel) ?_
      refine lv_aload_n hx hb dX10_nearest_66 rfl (lv_at hl 4 rfl) ?_
      refine va_get (D := (dC, dI)) (ci := 10) (v := .ref (h 16)) (C := RX10) (T := TX10) (N := 28) hx hb hts hinX10 hown hK hP 0 rfl rfl 16 (by decide) (hts (.fieldLink RX10 38 "MixedWordsModel" "offs" "[I") (by decide +kernel)) (fun _ h9 => h9) rfl dX10_nearest_67 ?_
      refine lv_iload_n hx hb dX10_nearest_70 rfl (lv_at hl 2 rfl) ?_
      refine xa_iald hx hb hK hP 7 0 rfl rfl (by omega) (by decide) dX10_nearest_71 ?_
      refine xt_i (y := nI 0) (by decide +kernel) ?_
      refine lv_icmp_ne (tgt := 85) hx hb dX10_nearest_72 (by decide) (fun c9 => False.elim (by revert c9; decide +kernel)) (fun _ => ?_)
      refine lv_iload hx hb dX10_nearest_75 (lv_at hl 0 rfl) ?_
      refine lv_iload_n hx hb dX10_nearest_77 rfl (lv_at hl 2 rfl) ?_
      refine lv_icmp_ge (tgt := 85) hx hb dX10_nearest_78 (by decide) (fun c9 => False.elim (by revert c9; decide +kernel)) (fun _ => ?_)
      refine lv_iconst (v := nI 1) hx hb dX10_nearest_81 (by decide) ?_
      refine lv_goto (tgt := 86) hx hb dX10_nearest_82 (by decide) ?_
      refine lv_iadd hx hb dX10_nearest_86 ?_
      refine xt_i (y := nI 1) (by decide +kernel) ?_
      refine lv_istore (lv' := [(4, .int (nI 1)), (5, .int (nI 0)), (3, .int (nI 3)), (2, .int (nI 1)), (0, .ref (h 0)), (1, .int (nI 1))]) hx hb dX10_nearest_87 hl (by decide) rfl (fun ls hl => ?_)
      refine lv_iinc (v := nI 1) (lv' := [(5, .int (nI 1)), (4, .int (nI 1)), (3, .int (nI 3)), (2, .int (nI 1)), (0, .ref (h 0)), (1, .int (nI 1))]) hx hb dX10_nearest_89 hl (k := 1) rfl (by decide +kernel) (by decide) rfl (fun ls hl => ?_)
      refine lv_goto (tgt := 32) hx hb dX10_nearest_92 (by decide) ?_
      refine lv_iload hx hb dX10_nearest_32 (lv_at hl 0 rfl) ?_
      refine lv_aload_n hx hb dX10_nearest_34 rfl (lv_at hl 4 rfl) ?_
      refine xj_i (wc := (wD_177 h cs gI gL gA gQ)) (wr := ([] : va_W)) hP hD hS hA [0, 1, 2, 3, 4, 5, 6, 7, 8, 9, 10, 11, 12, 13, 14, 15, 16] [] rfl rfl (by decide) (by decide) (va_runV (As := []) (rest := [.int (nI 1)]) ⟨hx, hb, hml, hown, hts⟩ (a_X10_words_179 l dC dI h cs H.size gI gL gA gQ ) (cwV 0 hts gX10_nearest_X10_words rfl rfl rfl (by decide +kernel) ⟨Nat.le_of_ble_eq_true rfl, Nat.le_of_ble_eq_true rfl⟩) (xpV (wc := (wD_177 h cs gI gL gA gQ)) hP hD hK hN [0, 1, 2, 3, 4, 5, 6, 7, 8, 9, 10, 11, 12, 13, 14, 15, 16] rfl (by decide) 0 (ci := 10) rfl rfl _) rfl rfl hl.1 rfl (lv_room (Nat.le_of_ble_eq_true rfl)) dX10_nearest_35 ⟨Nat.zero_le _, Nat.zero_le _⟩) (fun r_149 u_148 H locs hw hP hD hS => ?_)
      obtain ⟨hf_150, rfl⟩ := hw
      have hP : va_P (dC, dI) vwCl (rW h cs gI gL gA gQ) H := hP
      have hD : va_D A0 (rW h cs gI gL gA gQ) := hD
      obtain rfl := hf_150
      refine lv_icmp_ge (tgt := 95) hx hb dX10_nearest_38 (by decide) (fun c9 => False.elim (by revert c9; decide +kernel)) (fun _ => ?_)
      refine lv_iload hx hb dX10_nearest_41 (lv_at hl 1 rfl) ?_
      refine lv_aload_n hx hb dX10_nearest_43 rfl (lv_at hl 4 rfl) ?_
      refine va_get (D := (dC, dI)) (ci := 10) (v := .ref (h 16)) (C := RX10) (T := TX10) (N := 28) hx hb hts hinX10 hown hK hP 0 rfl rfl 16 (by decide) (hts (.fieldLink RX10 38 "MixedWordsModel" "offs" "[I") (by decide +kernel)) (fun _ h9 => h9) rfl dX10_nearest_44 ?_
      refine lv_iload hx hb dX10_nearest_47 (lv_at hl 0 rfl) ?_
      refine xa_iald hx hb hK hP 7 0 rfl rfl (by omega) (by decide) dX10_nearest_49 ?_
      refine xt_i (y := nI 0) (by decide +kernel) ?_
      refine lv_aload_n hx hb dX10_nearest_50 rfl (lv_at hl 4 rfl) ?_
      refine va_get (D := (dC, dI)) (ci := 10) (v := .ref (h 16)) (C := RX10) (T := TX10) (N := 28) hx hb hts hinX10 hown hK hP 0 rfl rfl 16 (by decide) (hts (.fieldLink RX10 38 "MixedWordsModel" "offs" "[I") (by decide +kernel)) (fun _ h9 => h9) rfl dX10_nearest_51 ?_
      refine lv_iload_n hx hb dX10_nearest_54 rfl (lv_at hl 2 rfl) ?_
      refine xa_iald hx hb hK hP 7 0 rfl rfl (by omega) (by decide) dX10_nearest_55 ?_
      refine xt_i (y := nI 0) (by decide +kernel) ?_
      refine lv_icmp_lt (tgt := 81) hx hb dX10_nearest_56 (by decide) (fun c9 => False.elim (by revert c9; decide +kernel)) (fun _ => ?_)
      refine lv_aload_n hx hb dX10_nearest_59 rfl (lv_at hl 4 rfl) ?_
      refine va_get (D := (dC, dI)) (ci := 10) (v := .ref (h 16)) (C := RX10) (T := TX10) (N := 28) hx hb hts hinX10 hown hK hP 0 rfl rfl 16 (by decide) (hts (.fieldLink RX10 38 "MixedWordsModel" "offs" "[I") (by decide +kernel)) (fun _ h9 => h9) rfl dX10_nearest_60 ?_
      refine lv_iload hx hb dX10_nearest_63 (lv_at hl 0 rfl) ?_
      refine xa_iald hx hb hK hP 7 0 rfl rfl (by omega) (by decide) dX10_nearest_65 ?_
      refine xt_i (y := nI 0) (by decide +kernel) ?_
      refine lv_aload_n hx hb dX10_nearest_66 rfl (lv_at hl 4 rfl) ?_
      refine va_get (D := (dC, dI)) (ci := 10) (v := .ref (h 16)) (C := RX10) (T := TX10) (N := 28) hx hb hts hinX10 hown hK hP 0 rfl rfl 16 (by decide) (hts (.fieldLink RX10 38 "MixedWordsModel" "offs" "[I") (by decide +kernel)) (fun _ h9 => h9) rfl dX10_nearest_67 ?_
      refine lv_iload_n hx hb dX10_nearest_70 rfl (lv_at hl 2 rfl) ?_
      refine xa_iald hx hb hK hP 7 0 rfl rfl (by omega) (by decide) dX10_nearest_71 ?_
      refine xt_i (y := nI 0) (by decide +kernel) ?_
      refine lv_icmp_ne (tgt := 85) hx hb dX10_nearest_72 (by decide) (fun c9 => False.elim (by revert c9; decide +kernel)) (fun _ => ?_)
      refine lv_iload hx hb dX10_nearest_75 (lv_at hl 0 rfl) ?_
      refine lv_iload_n hx hb dX10_nearest_77 rfl (lv_at hl 2 rfl) ?_
      refine lv_icmp_ge (tgt := 85) hx hb dX10_nearest_78 (by decide) (fun c9 => False.elim (by revert c9; decide +kernel)) (fun _ => ?_)
      refine lv_iconst (v := nI 1) hx hb dX10_nearest_81 (by decide) ?_
      refine lv_goto (tgt := 86) hx hb dX10_nearest_82 (by decide) ?_
      refine lv_iadd hx hb dX10_nearest_86 ?_
      refine xt_i (y := nI 2) (by decide +kernel) ?_
      refine lv_istore (lv' := [(4, .int (nI 2)), (5, .int (nI 1)), (3, .int (nI 3)), (2, .int (nI 1)), (0, .ref (h 0)), (1, .int (nI 1))]) hx hb dX10_nearest_87 hl (by decide) rfl (fun ls hl => ?_)
      refine lv_iinc (v := nI 2) (lv' := [(5, .int (nI 2)), (4, .int (nI 2)), (3, .int (nI 3)), (2, .int (nI 1)), (0, .ref (h 0)), (1, .int (nI 1))]) hx hb dX10_nearest_89 hl (k := 1) rfl (by decide +kernel) (by decide) rfl (fun ls hl => ?_)
      refine lv_goto (tgt := 32) hx hb dX10_nearest_92 (by decide) ?_
      refine lv_iload hx hb dX10_nearest_32 (lv_at hl 0 rfl) ?_
      refine lv_aload_n hx hb dX10_nearest_34 rfl (lv_at hl 4 rfl) ?_
      refine xj_i (wc := (wD_177 h cs gI gL gA gQ)) (wr := ([] : va_W)) hP hD hS hA [0, 1, 2, 3, 4, 5, 6, 7, 8, 9, 10, 11, 12, 13, 14, 15, 16] [] rfl rfl (by decide) (by decide) (va_runV (As := []) (rest := [.int (nI 2)]) ⟨hx, hb, hml, hown, hts⟩ (a_X10_words_179 l dC dI h cs H.size gI gL gA gQ ) (cwV 0 hts gX10_nearest_X10_words rfl rfl rfl (by decide +kernel) ⟨Nat.le_of_ble_eq_true rfl, Nat.le_of_ble_eq_true rfl⟩) (xpV (wc := (wD_177 h cs gI gL gA gQ)) hP hD hK hN [0, 1, 2, 3, 4, 5, 6, 7, 8, 9, 10, 11, 12, 13, 14, 15, 16] rfl (by decide) 0 (ci := 10) rfl rfl _) rfl rfl hl.1 rfl (lv_room (Nat.le_of_ble_eq_true rfl)) dX10_nearest_35 ⟨Nat.zero_le _, Nat.zero_le _⟩) (fun r_152 u_151 H locs hw hP hD hS => ?_)
      obtain ⟨hf_153, rfl⟩ := hw
      have hP : va_P (dC, dI) vwCl (rW h cs gI gL gA gQ) H := hP
      have hD : va_D A0 (rW h cs gI gL gA gQ) := hD
      obtain rfl := hf_153
      refine lv_icmp_ge (tgt := 95) hx hb dX10_nearest_38 (by decide) (fun c9 => False.elim (by revert c9; decide +kernel)) (fun _ => ?_)
      refine lv_iload hx hb dX10_nearest_41 (lv_at hl 1 rfl) ?_
      refine lv_aload_n hx hb dX10_nearest_43 rfl (lv_at hl 4 rfl) ?_
      refine va_get (D := (dC, dI)) (ci := 10) (v := .ref (h 16)) (C := RX10) (T := TX10) (N := 28) hx hb hts hinX10 hown hK hP 0 rfl rfl 16 (by decide) (hts (.fieldLink RX10 38 "MixedWordsModel" "offs" "[I") (by decide +kernel)) (fun _ h9 => h9) rfl dX10_nearest_44 ?_
      refine lv_iload hx hb dX10_nearest_47 (lv_at hl 0 rfl) ?_
      refine xa_iald hx hb hK hP 7 0 rfl rfl (by omega) (by decide) dX10_nearest_49 ?_
      refine xt_i (y := nI 0) (by decide +kernel) ?_
      refine lv_aload_n hx hb dX10_nearest_50 rfl (lv_at hl 4 rfl) ?_
      refine va_get (D := (dC, dI)) (ci := 10) (v := .ref (h 16)) (C := RX10) (T := TX10) (N := 28) hx hb hts hinX10 hown hK hP 0 rfl rfl 16 (by decide) (hts (.fieldLink RX10 38 "MixedWordsModel" "offs" "[I") (by decide +kernel)) (fun _ h9 => h9) rfl dX10_nearest_51 ?_
      refine lv_iload_n hx hb dX10_nearest_54 rfl (lv_at hl 2 rfl) ?_
      refine xa_iald hx hb hK hP 7 0 rfl rfl (by omega) (by decide) dX10_nearest_55 ?_
      refine xt_i (y := nI 0) (by decide +kernel) ?_
      refine lv_icmp_lt (tgt := 81) hx hb dX10_nearest_56 (by decide) (fun c9 => False.elim (by revert c9; decide +kernel)) (fun _ => ?_)
      refine lv_aload_n hx hb dX10_nearest_59 rfl (lv_at hl 4 rfl) ?_
      refine va_get (D := (dC, dI)) (ci := 10) (v := .ref (h 16)) (C := RX10) (T := TX10) (N := 28) hx hb hts hinX10 hown hK hP 0 rfl rfl 16 (by decide) (hts (.fieldLink RX10 38 "MixedWordsModel" "offs" "[I") (by decide +kernel)) (fun _ h9 => h9) rfl dX10_nearest_60 ?_
      refine lv_iload hx hb dX10_nearest_63 (lv_at hl 0 rfl) ?_
      refine xa_iald hx hb hK hP 7 0 rfl rfl (by omega) (by decide) dX10_nearest_65 ?_
      refine xt_i (y := nI 0) (by decide +kernel) ?_
      refine lv_aload_n hx hb dX10_nearest_66 rfl (lv_at hl 4 rfl) ?_
      refine va_get (D := (dC, dI)) (ci := 10) (v := .ref (h 16)) (C := RX10) (T := TX10) (N := 28) hx hb hts hinX10 hown hK hP 0 rfl rfl 16 (by decide) (hts (.fieldLink RX10 38 "MixedWordsModel" "offs" "[I") (by decide +kernel)) (fun _ h9 => h9) rfl dX10_nearest_67 ?_
      refine lv_iload_n hx hb dX10_nearest_70 rfl (lv_at hl 2 rfl) ?_
      refine xa_iald hx hb hK hP 7 0 rfl rfl (by omega) (by decide) dX10_nearest_71 ?_
      refine xt_i (y := nI 0) (by decide +kernel) ?_
      refine lv_icmp_ne (tgt := 85) hx hb dX10_nearest_72 (by decide) (fun c9 => False.elim (by revert c9; decide +kernel)) (fun _ => ?_)
      refine lv_iload hx hb dX10_nearest_75 (lv_at hl 0 rfl) ?_
      refine lv_iload_n hx hb dX10_nearest_77 rfl (lv_at hl 2 rfl) ?_
      refine lv_icmp_ge (tgt := 85) hx hb dX10_nearest_78 (by decide) (fun c9 => False.elim (by revert c9; decide +kernel)) (fun _ => ?_)
      refine lv_iconst (v := nI 1) hx hb dX10_nearest_81 (by decide) ?_
      refine lv_goto (tgt := 86) hx hb dX10_nearest_82 (by decide) ?_
      refine lv_iadd hx hb dX10_nearest_86 ?_
      refine xt_i (y := nI 3) (by decide +kernel) ?_
      refine lv_istore (lv' := [(4, .int (nI 3)), (5, .int (nI 2)), (3, .int (nI 3)), (2, .int (nI 1)), (0, .ref (h 0)), (1, .int (nI 1))]) hx hb dX10_nearest_87 hl (by decide) rfl (fun ls hl => ?_)
      refine lv_iinc (v := nI 3) (lv' := [(5, .int (nI 3)), (4, .int (nI 3)), (3, .int (nI 3)), (2, .int (nI 1)), (0, .ref (h 0)), (1, .int (nI 1))]) hx hb dX10_nearest_89 hl (k := 1) rfl (by decide +kernel) (by decide) rfl (fun ls hl => ?_)
      refine lv_goto (tgt := 32) hx hb dX10_nearest_92 (by decide) ?_
      refine lv_iload hx hb dX10_nearest_32 (lv_at hl 0 rfl) ?_
      refine lv_aload_n hx hb dX10_nearest_34 rfl (lv_at hl 4 rfl) ?_
      refine xj_i (wc := (wD_177 h cs gI gL gA gQ)) (wr := ([] : va_W)) hP hD hS hA [0, 1, 2, 3, 4, 5, 6, 7, 8, 9, 10, 11, 12, 13, 14, 15, 16] [] rfl rfl (by decide) (by decide) (va_runV (As := []) (rest := [.int (nI 3)]) ⟨hx, hb, hml, hown, hts⟩ (a_X10_words_179 l dC dI h cs H.size gI gL gA gQ ) (cwV 0 hts gX10_nearest_X10_words rfl rfl rfl (by decide +kernel) ⟨Nat.le_of_ble_eq_true rfl, Nat.le_of_ble_eq_true rfl⟩) (xpV (wc := (wD_177 h cs gI gL gA gQ)) hP hD hK hN [0, 1, 2, 3, 4, 5, 6, 7, 8, 9, 10, 11, 12, 13, 14, 15, 16] rfl (by decide) 0 (ci := 10) rfl rfl _) rfl rfl hl.1 rfl (lv_room (Nat.le_of_ble_eq_true rfl)) dX10_nearest_35 ⟨Nat.zero_le _, Nat.zero_le _⟩) (fun r_155 u_154 H locs hw hP hD hS => ?_)
      obtain ⟨hf_156, rfl⟩ := hw
      have hP : va_P (dC, dI) vwCl (rW h cs gI gL gA gQ) H := hP
      have hD : va_D A0 (rW h cs gI gL gA gQ) := hD
      obtain rfl := hf_156
      refine lv_icmp_ge (tgt := 95) hx hb dX10_nearest_38 (by decide) (fun c9 => False.elim (by revert c9; decide +kernel)) (fun _ => ?_)
      refine lv_iload hx hb dX10_nearest_41 (lv_at hl 1 rfl) ?_
      refine lv_aload_n hx hb dX10_nearest_43 rfl (lv_at hl 4 rfl) ?_
      refine va_get (D := (dC, dI)) (ci := 10) (v := .ref (h 16)) (C := RX10) (T := TX10) (N := 28) hx hb hts hinX10 hown hK hP 0 rfl rfl 16 (by decide) (hts (.fieldLink RX10 38 "MixedWordsModel" "offs" "[I") (by decide +kernel)) (fun _ h9 => h9) rfl dX10_nearest_44 ?_
      refine lv_iload hx hb dX10_nearest_47 (lv_at hl 0 rfl) ?_
      refine xa_iald hx hb hK hP 7 0 rfl rfl (by omega) (by decide) dX10_nearest_49 ?_
      refine xt_i (y := nI 0) (by decide +kernel) ?_
      refine lv_aload_n hx hb dX10_nearest_50 rfl (lv_at hl 4 rfl) ?_
      refine va_get (D := (dC, dI)) (ci := 10) (v := .ref (h 16)) (C := RX10) (T := TX10) (N := 28) hx hb hts hinX10 hown hK hP 0 rfl rfl 16 (by decide) (hts (.fieldLink RX10 38 "MixedWordsModel" "offs" "[I") (by decide +kernel)) (fun _ h9 => h9) rfl dX10_nearest_51 ?_
      refine lv_iload_n hx hb dX10_nearest_54 rfl (lv_at hl 2 rfl) ?_
      refine xa_iald hx hb hK hP 7 0 rfl rfl (by omega) (by decide) dX10_nearest_55 ?_
      refine xt_i (y := nI 0) (by decide +kernel) ?_
      refine lv_icmp_lt (tgt := 81) hx hb dX10_nearest_56 (by decide) (fun c9 => False.elim (by revert c9; decide +kernel)) (fun _ => ?_)
      refine lv_aload_n hx hb dX10_nearest_59 rfl (lv_at hl 4 rfl) ?_
      refine va_get (D := (dC, dI)) (ci := 10) (v := .ref (h 16)) (C := RX10) (T := TX10) (N := 28) hx hb hts hinX10 hown hK hP 0 rfl rfl 16 (by decide) (hts (.fieldLink RX10 38 "MixedWordsModel" "offs" "[I") (by decide +kernel)) (fun _ h9 => h9) rfl dX10_nearest_60 ?_
      refine lv_iload hx hb dX10_nearest_63 (lv_at hl 0 rfl) ?_
      refine xa_iald hx hb hK hP 7 0 rfl rfl (by omega) (by decide) dX10_nearest_65 ?_
      refine xt_i (y := nI 0) (by decide +kernel) ?_
      refine lv_aload_n hx hb dX10_nearest_66 rfl (lv_at hl 4 rfl) ?_
      refine va_get (D := (dC, dI)) (ci := 10) (v := .ref (h 16)) (C := RX10) (T := TX10) (N := 28) hx hb hts hinX10 hown hK hP 0 rfl rfl 16 (by decide) (hts (.fieldLink RX10 38 "MixedWordsModel" "offs" "[I") (by decide +kernel)) (fun _ h9 => h9) rfl dX10_nearest_67 ?_
      refine lv_iload_n hx hb dX10_nearest_70 rfl (lv_at hl 2 rfl) ?_
      refine xa_iald hx hb hK hP 7 0 rfl rfl (by omega) (by decide) dX10_nearest_71 ?_
      refine xt_i (y := nI 0) (by decide +kernel) ?_
      refine lv_icmp_ne (tgt := 85) hx hb dX10_nearest_72 (by decide) (fun c9 => False.elim (by revert c9; decide +kernel)) (fun _ => ?_)
      refine lv_iload hx hb dX10_nearest_75 (lv_at hl 0 rfl) ?_
      refine lv_iload_n hx hb dX10_nearest_77 rfl (lv_at hl 2 rfl) ?_
      refine lv_icmp_ge (tgt := 85) hx hb dX10_nearest_78 (by decide) (fun _ => ?_) (fun c9 => False.elim (by revert c9; decide +kernel))
      refine lv_iconst (v := nI 0) hx hb dX10_nearest_85 (by decide) ?_
      refine lv_iadd hx hb dX10_nearest_86 ?_
      refine xt_i (y := nI 3) (by decide +kernel) ?_
      refine lv_istore (lv' := [(4, .int (nI 3)), (5, .int (nI 3)), (3, .int (nI 3)), (2, .int (nI 1)), (0, .ref (h 0)), (1, .int (nI 1))]) hx hb dX10_nearest_87 hl (by decide) rfl (fun ls hl => ?_)
      refine lv_iinc (v := nI 4) (lv' := [(5, .int (nI 4)), (4, .int (nI 3)), (3, .int (nI 3)), (2, .int (nI 1)), (0, .ref (h 0)), (1, .int (nI 1))]) hx hb dX10_nearest_89 hl (k := 1) rfl (by decide +kernel) (by decide) rfl (fun ls hl => ?_)
      refine lv_goto (tgt := 32) hx hb dX10_nearest_92 (by decide) ?_
      refine lv_iload hx hb dX10_nearest_32 (lv_at hl 0 rfl) ?_
      refine lv_aload_n hx hb dX10_nearest_34 rfl (lv_at hl 4 rfl) ?_
      refine xj_i (wc := (wD_177 h cs gI gL gA gQ)) (wr := ([] : va_W)) hP hD hS hA [0, 1, 2, 3, 4, 5, 6, 7, 8, 9, 10, 11, 12, 13, 14, 15, 16] [] rfl rfl (by decide) (by decide) (va_runV (As := []) (rest := [.int (nI 4)]) ⟨hx, hb, hml, hown, hts⟩ (a_X10_words_179 l dC dI h cs H.size gI gL gA gQ ) (cwV 0 hts gX10_nearest_X10_words rfl rfl rfl (by decide +kernel) ⟨Nat.le_of_ble_eq_true rfl, Nat.le_of_ble_eq_true rfl⟩) (xpV (wc := (wD_177 h cs gI gL gA gQ)) hP hD hK hN [0, 1, 2, 3, 4, 5, 6, 7, 8, 9, 10, 11, 12, 13, 14, 15, 16] rfl (by decide) 0 (ci := 10) rfl rfl _) rfl rfl hl.1 rfl (lv_room (Nat.le_of_ble_eq_true rfl)) dX10_nearest_35 ⟨Nat.zero_le _, Nat.zero_le _⟩) (fun r_158 u_157 H locs hw hP hD hS => ?_)
      obtain ⟨hf_159, rfl⟩ := hw
      have hP : va_P (dC, dI) vwCl (rW h cs gI gL gA gQ) H := hP
      have hD : va_D A0 (rW h cs gI gL gA gQ) := hD
      obtain rfl := hf_159
      refine lv_icmp_ge (tgt := 95) hx hb dX10_nearest_38 (by decide) (fun _ => ?_) (fun c9 => False.elim (by revert c9; decide +kernel))
      refine lv_iload hx hb dX10_nearest_95 (lv_at hl 1 rfl) ?_
      refine lv_iload_n hx hb dX10_nearest_97 rfl (lv_at hl 5 rfl) ?_
      refine lv_icmp_ne (tgt := 105) hx hb dX10_nearest_98 (by decide) (fun _ => ?_) (fun c9 => False.elim (by revert c9; decide +kernel))
      refine lv_iload_n hx hb dX10_nearest_105 rfl (lv_at hl 3 rfl) ?_
      refine lv_istore_n (lv' := [(2, .int (nI 1)), (5, .int (nI 4)), (4, .int (nI 3)), (3, .int (nI 3)), (0, .ref (h 0)), (1, .int (nI 1))]) hx hb dX10_nearest_106 rfl hl (by decide) rfl (fun ls hl => ?_)
      refine lv_iinc (v := nI 4) (lv' := [(3, .int (nI 4)), (2, .int (nI 1)), (5, .int (nI 4)), (4, .int (nI 3)), (0, .ref (h 0)), (1, .int (nI 1))]) hx hb dX10_nearest_107 hl (k := 3) rfl (by decide +kernel) (by decide) rfl (fun ls hl => ?_)
      refine lv_goto (tgt := 18) hx hb dX10_nearest_110 (by decide) ?_
      refine lv_iload_n hx hb dX10_nearest_18 rfl (lv_at hl 0 rfl) ?_
      refine lv_aload_n hx hb dX10_nearest_19 rfl (lv_at hl 4 rfl) ?_
      refine xj_i (wc := (wD_177 h cs gI gL gA gQ)) (wr := ([] : va_W)) hP hD hS hA [0, 1, 2, 3, 4, 5, 6, 7, 8, 9, 10, 11, 12, 13, 14, 15, 16] [] rfl rfl (by decide) (by decide) (va_runV (As := []) (rest := [.int (nI 4)]) ⟨hx, hb, hml, hown, hts⟩ (a_X10_words_179 l dC dI h cs H.size gI gL gA gQ ) (cwV 0 hts gX10_nearest_X10_words rfl rfl rfl (by decide +kernel) ⟨Nat.le_of_ble_eq_true rfl, Nat.le_of_ble_eq_true rfl⟩) (xpV (wc := (wD_177 h cs gI gL gA gQ)) hP hD hK hN [0, 1, 2, 3, 4, 5, 6, 7, 8, 9, 10, 11, 12, 13, 14, 15, 16] rfl (by decide) 0 (ci := 10) rfl rfl _) rfl rfl hl.1 rfl (lv_room (Nat.le_of_ble_eq_true rfl)) dX10_nearest_20 ⟨Nat.zero_le _, Nat.zero_le _⟩) (fun r_161 u_160 H locs hw hP hD hS => ?_)
      obtain ⟨hf_162, rfl⟩ := hw
      have hP : va_P (dC, dI) vwCl (rW h cs gI gL gA gQ) H := hP
      have hD : va_D A0 (rW h cs gI gL gA gQ) := hD
      obtain rfl := hf_162
      refine lv_icmp_ge (tgt := 113) hx hb dX10_nearest_23 (by decide) (fun _ => ?_) (fun c9 => False.elim (by revert c9; decide +kernel))
      refine lv_iload_n hx hb dX10_nearest_113 rfl (lv_at hl 1 rfl) ?_
      exact xr_i (v := (nI 1)) hx hb hr hlocks hK hS dX10_nearest_114 (gI, gL, gA, gQ) ⟨(by decide +kernel), rfl⟩ hP hD
    · skip
      refine lv_aload_n hx hb dX10_nearest_0 rfl (lv_at hl 0 rfl) ?_
      refine lv_iload_n hx hb dX10_nearest_1 rfl (lv_at hl 1 rfl) ?_
      refine xj_i (wc := (wD_177 h cs gI gL gA gQ)) (wr := ([] : va_W)) hP hD hS hA [0, 1, 2, 3, 4, 5, 6, 7, 8, 9, 10, 11, 12, 13, 14, 15, 16] [] rfl rfl (by decide) (by decide) (va_runV (As := [.int (nI 2)]) (rest := []) ⟨hx, hb, hml, hown, hts⟩ (a_X10_isWord_189 l dC dI h cs H.size gI gL gA gQ ) (cwV 1 hts gX10_nearest_X10_isWord rfl rfl rfl (by decide +kernel) ⟨Nat.le_of_ble_eq_true rfl, Nat.le_of_ble_eq_true rfl⟩) (xpV (wc := (wD_177 h cs gI gL gA gQ)) hP hD hK hN [0, 1, 2, 3, 4, 5, 6, 7, 8, 9, 10, 11, 12, 13, 14, 15, 16] rfl (by decide) 0 (ci := 10) rfl rfl _) rfl rfl hl.1 rfl (lv_room (Nat.le_of_ble_eq_true rfl)) dX10_nearest_2 ⟨Nat.zero_le _, Nat.zero_le _⟩) (fun r_164 u_163 H locs hw hP hD hS => ?_)
      obtain ⟨hf_165, rfl⟩ := hw
      have hP : va_P (dC, dI) vwCl (rW h cs gI gL gA gQ) H := hP
      have hD : va_D A0 (rW h cs gI gL gA gQ) := hD
      obtain rfl := hf_165
      refine lv_if_ne (tgt := 10) hx hb dX10_nearest_5 (by decide) (fun _ => ?_) (fun c9 => False.elim (by revert c9; decide +kernel))
      refine lv_aload_n hx hb dX10_nearest_10 rfl (lv_at hl 0 rfl) ?_
      refine xj_v (wc := (wD_177 h cs gI gL gA gQ)) (wr := ([] : va_W)) hP hD hS hA [0, 1, 2, 3, 4, 5, 6, 7, 8, 9, 10, 11, 12, 13, 14, 15, 16] [] rfl rfl (by decide) (by decide) (va_runV (As := []) (rest := []) ⟨hx, hb, hml, hown, hts⟩ (a_X10_offAll_199 l dC dI h cs H.size gI gL gA gQ ) (cwV 0 hts gX10_nearest_X10_offAll rfl rfl rfl (by decide +kernel) ⟨Nat.le_of_ble_eq_true rfl, Nat.le_of_ble_eq_true rfl⟩) (xpV (wc := (wD_177 h cs gI gL gA gQ)) hP hD hK hN [0, 1, 2, 3, 4, 5, 6, 7, 8, 9, 10, 11, 12, 13, 14, 15, 16] rfl (by decide) 0 (ci := 10) rfl rfl _) rfl rfl hl.1 rfl (lv_room (Nat.le_of_ble_eq_true rfl)) dX10_nearest_11 ⟨Nat.zero_le _, Nat.zero_le _⟩) (fun u_166 H locs hw hP hD hS => ?_)
      obtain ⟨hf_168, rfl⟩ := hw
      have hP : va_P (dC, dI) vwCl (rW h cs gI gL gA gQ) H := hP
      have hD : va_D A0 (rW h cs gI gL gA gQ) := hD
      refine lv_iconst (v := (-1)) hx hb dX10_nearest_14 (by decide) ?_
      refine lv_istore_n (lv' := [(2, .int (-1)), (0, .ref (h 0)), (1, .int (nI 2))]) hx hb dX10_nearest_15 rfl hl (by decide) rfl (fun ls hl => ?_)
      refine lv_iconst (v := nI 0) hx hb dX10_nearest_16 (by decide) ?_
      refine lv_istore_n (lv' := [(3, .int (nI 0)), (2, .int (-1)), (0, .ref (h 0)), (1, .int (nI 2))]) hx hb dX10_nearest_17 rfl hl (by decide) rfl (fun ls hl => ?_)
      refine lv_iload_n hx hb dX10_nearest_18 rfl (lv_at hl 0 rfl) ?_
      refine lv_aload_n hx hb dX10_nearest_19 rfl (lv_at hl 2 rfl) ?_
      refine xj_i (wc := (wD_177 h cs gI gL gA gQ)) (wr := ([] : va_W)) hP hD hS hA [0, 1, 2, 3, 4, 5, 6, 7, 8, 9, 10, 11, 12, 13, 14, 15, 16] [] rfl rfl (by decide) (by decide) (va_runV (As := []) (rest := [.int (nI 0)]) ⟨hx, hb, hml, hown, hts⟩ (a_X10_words_179 l dC dI h cs H.size gI gL gA gQ ) (cwV 0 hts gX10_nearest_X10_words rfl rfl rfl (by decide +kernel) ⟨Nat.le_of_ble_eq_true rfl, Nat.le_of_ble_eq_true rfl⟩) (xpV (wc := (wD_177 h cs gI gL gA gQ)) hP hD hK hN [0, 1, 2, 3, 4, 5, 6, 7, 8, 9, 10, 11, 12, 13, 14, 15, 16] rfl (by decide) 0 (ci := 10) rfl rfl _) rfl rfl hl.1 rfl (lv_room (Nat.le_of_ble_eq_true rfl)) dX10_nearest_20 ⟨Nat.zero_le _, Nat.zero_le _⟩) (fun r_170 u_169 H locs hw hP hD hS => ?_)
      obtain ⟨hf_171, rfl⟩ := hw
      have hP : va_P (dC, dI) vwCl (rW h cs gI gL gA gQ) H := hP
      have hD : va_D A0 (rW h cs gI gL gA gQ) := hD
      obtain rfl := hf_171
      refine lv_icmp_ge (tgt := 113) hx hb dX10_nearest_23 (by decide) (fun c9 => False.elim (by revert c9; decide +kernel)) (fun _ => ?_)
      refine lv_iconst (v := nI 0) hx hb dX10_nearest_26 (by decide) ?_
      refine lv_istore (lv' := [(4, .int (nI 0)), (3, .int (nI 0)), (2, .int (-1)), (0, .ref (h 0)), (1, .int (nI 2))]) hx hb dX10_nearest_27 hl (by decide) rfl (fun ls hl => ?_)
      refine lv_iconst (v := nI 0) hx hb dX10_nearest_29 (by decide) ?_
      refine lv_istore (lv' := [(5, .int (nI 0)), (4, .int (nI 0)), (3, .int (nI 0)), (2, .int (-1)), (0, .ref (h 0)), (1, .int (nI 2))]) hx hb dX10_nearest_30 hl (by decide) rfl (fun ls hl => ?_)
      refine lv_iload hx hb dX10_nearest_32 (lv_at hl 0 rfl) ?_
      refine lv_aload_n hx hb dX10_nearest_34 rfl (lv_at hl 4 rfl) ?_
      refine xj_i (wc := (wD_177 h cs gI gL gA gQ)) (wr := ([] : va_W)) hP hD hS hA [0, 1, 2, 3, 4, 5, 6, 7, 8, 9, 10, 11, 12, 13, 14, 15, 16] [] rfl rfl (by decide) (by decide) (va_runV (As := []) (rest := [.int (nI 0)]) ⟨hx, hb, hml, hown, hts⟩ (a_X10_words_179 l dC dI h cs H.size gI gL gA gQ ) (cwV 0 hts gX10_nearest_X10_words rfl rfl rfl (by decide +kernel) ⟨Nat.le_of_ble_eq_true rfl, Nat.le_of_ble_eq_true rfl⟩) (xpV (wc := (wD_177 h cs gI gL gA gQ)) hP hD hK hN [0, 1, 2, 3, 4, 5, 6, 7, 8, 9, 10, 11, 12, 13, 14, 15, 16] rfl (by decide) 0 (ci := 10) rfl rfl _) rfl rfl hl.1 rfl (lv_room (Nat.le_of_ble_eq_true rfl)) dX10_nearest_35 ⟨Nat.zero_le _, Nat.zero_le _⟩) (fun r_173 u_172 H locs hw hP hD hS => ?_)
      obtain ⟨hf_174, rfl⟩ := hw
      have hP : va_P (dC, dI) vwCl (rW h cs gI gL gA gQ) H := hP
      have hD : va_D A0 (rW h cs gI gL gA gQ) := hD
      obtain rfl := hf_174
      refine lv_icmp_ge (tgt := 95) hx hb dX10_nearest_38 (by decide) (fun c9 => False.elim (by revert c9; decide +kernel)) (fun _ => ?_)
      refine lv_iload hx hb dX10_nearest_41 (lv_at hl 1 rfl) ?_
      refine lv_aload_n hx hb dX10_nearest_43 rfl (lv_at hl 4 rfl) ?_
      refine va_get (D := (dC, dI)) (ci := 10) (v := .ref (h 16)) (C := RX10) (T := TX10) (N := 28) hx hb hts hinX10 hown hK hP 0 rfl rfl 16 (by decide) (hts (.fieldLink RX10 38 "MixedWordsModel" "offs" "[I") (by decide +kernel)) (fun _ h9 => h9) rfl dX10_nearest_44 ?_
      refine lv_iload hx hb dX10_nearest_47 (lv_at hl 0 rfl) ?_
      refine xa_iald hx hb hK hP 7 0 rfl rfl (by omega) (by decide) dX10_nearest_49 ?_
      refine xt_i (y := nI 0) (by decide +kernel) ?_
      refine lv_aload_n hx hb dX10_nearest_50 rfl (lv_at hl 4 rfl) ?_
      refine va_get (D := (dC, dI)) (ci := 10) (v := .ref (h 16)) (C := RX10) (T := TX10) (N := 28) hx hb hts hinX10 hown hK hP 0 rfl rfl 16 (by decide) (hts (.fieldLink RX10 38 "MixedWordsModel" "offs" "[I") (by decide +kernel)) (fun _ h9 => h9) rfl dX10_nearest_51 ?_
      refine lv_iload_n hx hb dX10_nearest_54 rfl (lv_at hl 2 rfl) ?_
      refine xa_iald hx hb hK hP 7 0 rfl rfl (by omega) (by decide) dX10_nearest_55 ?_
      refine xt_i (y := nI 0) (by decide +kernel) ?_
      refine lv_icmp_lt (tgt := 81) hx hb dX10_nearest_56 (by decide) (fun c9 => False.elim (by revert c9; decide +kernel)) (fun _ => ?_)
      refine lv_aload_n hx hb dX10_nearest_59 rfl (lv_at hl 4 rfl) ?_
      refine va_get (D := (dC, dI)) (ci := 10) (v := .ref (h 16)) (C := RX10) (T := TX10) (N := 28) hx hb hts hinX10 hown hK hP 0 rfl rfl 16 (by decide) (hts (.fieldLink RX10 38 "MixedWordsModel" "offs" "[I") (by decide +kernel)) (fun _ h9 => h9) rfl dX10_nearest_60 ?_
      refine lv_iload hx hb dX10_nearest_63 (lv_at hl 0 rfl) ?_
      refine xa_iald hx hb hK hP 7 0 rfl rfl (by omega) (by decide) dX10_nearest_65 ?_
      refine xt_i (y := nI 0) (by decide +kernel) ?_
      refine lv_aload_n hx hb dX10_nearest_66 rfl (lv_at hl 4 rfl) ?_
      refine va_get (D := (dC, dI)) (ci := 10) (v := .ref (h 16)) (C := RX10) (T := TX10) (N := 28) hx hb hts hinX10 hown hK hP 0 rfl rfl 16 (by decide) (hts (.fieldLink RX10 38 "MixedWordsModel" "offs" "[I") (by decide +kernel)) (fun _ h9 => h9) rfl dX10_nearest_67 ?_
      refine lv_iload_n hx hb dX10_nearest_70 rfl (lv_at hl 2 rfl) ?_
      refine xa_iald hx hb hK hP 7 0 rfl rfl (by omega) (by decide) dX10_nearest_71 ?_
      refine xt_i (y := nI 0) (by decide +kernel) ?_
      refine lv_icmp_ne (tgt := 85) hx hb dX10_nearest_72 (by decide) (fun c9 => False.elim (by revert c9; decide +kernel)) (fun _ => ?_)
      refine lv_iload hx hb dX10_nearest_75 (lv_at hl 0 rfl) ?_
      refine lv_iload_n hx hb dX10_nearest_77 rfl (lv_at hl 2 rfl) ?_
      refine lv_icmp_ge (tgt := 85) hx hb dX10_nearest_78 (by decide) (fun _ => ?_) (fun c9 => False.elim (by revert c9; decide +kernel))
      refine lv_iconst (v := nI 0) hx hb dX10_nearest_85 (by decide) ?_
      refine lv_iadd hx hb dX10_nearest_86 ?_
      refine xt_i (y := nI 0) (by decide +kernel) ?_
      refine lv_istore (lv' := [(4, .int (nI 0)), (5, .int (nI 0)), (3, .int (nI 0)), (2, .int (-1)), (0, .ref (h 0)), (1, .int (nI 2))]) hx hb dX10_nearest_87 hl (by decide) rfl (fun ls hl => ?_)
      refine lv_iinc (v := nI 1) (lv' := [(5, .int (nI 1)), (4, .int (nI 0)), (3, .int (nI 0)), (2, .int (-1)), (0, .ref (h 0)), (1, .int (nI 2))]) hx hb dX10_nearest_89 hl (k := 1) rfl (by decide +kernel) (by decide) rfl (fun ls hl => ?_)
      refine lv_goto (tgt := 32) hx hb dX10_nearest_92 (by decide) ?_
      refine lv_iload hx hb dX10_nearest_32 (lv_at hl 0 rfl) ?_
      refine lv_aload_n hx hb dX10_nearest_34 rfl (lv_at hl 4 rfl) ?_
      refine xj_i (wc := (wD_177 h cs gI gL gA gQ)) (wr := ([] : va_W)) hP hD hS hA [0, 1, 2, 3, 4, 5, 6, 7, 8, 9, 10, 11, 12, 13, 14, 15, 16] [] rfl rfl (by decide) (by decide) (va_runV (As := []) (rest := [.int (nI 1)]) ⟨hx, hb, hml, hown, hts⟩ (a_X10_words_179 l dC dI h cs H.size gI gL gA gQ ) (cwV 0 hts gX10_nearest_X10_words rfl rfl rfl (by decide +kernel) ⟨Nat.le_of_ble_eq_true rfl, Nat.le_of_ble_eq_true rfl⟩) (xpV (wc := (wD_177 h cs gI gL gA gQ)) hP hD hK hN [0, 1, 2, 3, 4, 5, 6, 7, 8, 9, 10, 11, 12, 13, 14, 15, 16] rfl (by decide) 0 (ci := 10) rfl rfl _) rfl rfl hl.1 rfl (lv_room (Nat.le_of_ble_eq_true rfl)) dX10_nearest_35 ⟨Nat.zero_le _, Nat.zero_le _⟩) (fun r_176 u_175 H locs hw hP hD hS => ?_)
      obtain ⟨hf_177, rfl⟩ := hw
      have hP : va_P (dC, dI) vwCl (rW h cs gI gL gA gQ) H := hP
      have hD : va_D A0 (rW h cs gI gL gA gQ) := hD
      obtain rfl := hf_177
      refine lv_icmp_ge (tgt := 95) hx hb dX10_nearest_38 (by decide) (fun c9 => False.elim (by revert c9; decide +kernel)) (fun _ => ?_)
      refine lv_iload hx hb dX10_nearest_41 (lv_at hl 1 rfl) ?_
      refine lv_aload_n hx hb dX10_nearest_43 rfl (lv_at hl 4 rfl) ?_
      refine va_get (D := (dC, dI)) (ci := 10) (v := .ref (h 16)) (C := RX10) (T := TX10) (N := 28) hx hb hts hinX10 hown hK hP 0 rfl rfl 16 (by decide) (hts (.fieldLink RX10 38 "MixedWordsModel" "offs" "[I") (by decide +kernel)) (fun _ h9 => h9) rfl dX10_nearest_44 ?_
      refine lv_iload hx hb dX10_nearest_47 (lv_at hl 0 rfl) ?_
      refine xa_iald hx hb hK hP 7 0 rfl rfl (by omega) (by decide) dX10_nearest_49 ?_
      refine xt_i (y := nI 0) (by decide +kernel) ?_
      refine lv_aload_n hx hb dX10_nearest_50 rfl (lv_at hl 4 rfl) ?_
      refine va_get (D := (dC, dI)) (ci := 10) (v := .ref (h 16)) (C := RX10) (T := TX10) (N := 28) hx hb hts hinX10 hown hK hP 0 rfl rfl 16 (by decide) (hts (.fieldLink RX10 38 "MixedWordsModel" "offs" "[I") (by decide +kernel)) (fun _ h9 => h9) rfl dX10_nearest_51 ?_
      refine lv_iload_n hx hb dX10_nearest_54 rfl (lv_at hl 2 rfl) ?_
      refine xa_iald hx hb hK hP 7 0 rfl rfl (by omega) (by decide) dX10_nearest_55 ?_
      refine xt_i (y := nI 0) (by decide +kernel) ?_
      refine lv_icmp_lt (tgt := 81) hx hb dX10_nearest_56 (by decide) (fun c9 => False.elim (by revert c9; decide +kernel)) (fun _ => ?_)
      refine lv_aload_n hx hb dX10_nearest_59 rfl (lv_at hl 4 rfl) ?_
      refine va_get (D := (dC, dI)) (ci := 10) (v := .ref (h 16)) (C := RX10) (T := TX10) (N := 28) hx hb hts hinX10 hown hK hP 0 rfl rfl 16 (by decide) (hts (.fieldLink RX10 38 "MixedWordsModel" "offs" "[I") (by decide +kernel)) (fun _ h9 => h9) rfl dX10_nearest_60 ?_
      refine lv_iload hx hb dX10_nearest_63 (lv_at hl 0 rfl) ?_
      refine xa_iald hx hb hK hP 7 0 rfl rfl (by omega) (by decide) dX10_nearest_65 ?_
      refine xt_i (y := nI 0) (by decide +kernel) ?_
      refine lv_aload_n hx hb dX10_nearest_66 rfl (lv_at hl 4 rfl) ?_
      refine va_get (D := (dC, dI)) (ci := 10) (v := .ref (h 16)) (C := RX10) (T := TX10) (N := 28) hx hb hts hinX10 hown hK hP 0 rfl rfl 16 (by decide) (hts (.fieldLink RX10 38 "MixedWordsModel" "offs" "[I") (by decide +kernel)) (fun _ h9 => h9) rfl dX10_nearest_67 ?_
      refine lv_iload_n hx hb dX10_nearest_70 rfl (lv_at hl 2 rfl) ?_
      refine xa_iald hx hb hK hP 7 0 rfl rfl (by omega) (by decide) dX10_nearest_71 ?_
      refine xt_i (y := nI 0) (by decide +kernel) ?_
      refine lv_icmp_ne (tgt := 85) hx hb dX10_nearest_72 (by decide) (fun c9 => False.elim (by revert c9; decide +kernel)) (fun _ => ?_)
      refine lv_iload hx hb dX10_nearest_75 (lv_at hl 0 rfl) ?_
      refine lv_iload_n hx hb dX10_nearest_77 rfl (lv_at hl 2 rfl) ?_
      refine lv_icmp_ge (tgt := 85) hx hb dX10_nearest_78 (by decide) (fun _ => ?_) (fun c9 => False.elim (by revert c9; decide +kernel))
      refine lv_iconst (v := nI 0) hx hb dX10_nearest_85 (by decide) ?_
      refine lv_iadd hx hb dX10_nearest_86 ?_
      refine xt_i (y := nI 0) (by decide +kernel) ?_
      refine lv_istore (lv' := [(4, .int (nI 0)), (5, .int (nI 1)), (3, .int (nI 0)), (2, .int (-1)), (0, .ref (h 0)), (1, .int (nI 2))]) hx hb dX10_nearest_87 hl (by decide) rfl (fun ls hl => ?_)
      refine lv_iinc (v := nI 2) (lv' := [(5, .int (nI 2)), (4, .int (nI 0)), (3, .int (nI 0)), (2, .int (-1)), (0, .ref (h 0)), (1, .int (nI 2))]) hx hb dX10_nearest_89 hl (k := 1) rfl (by decide +kernel) (by decide) rfl (fun ls hl => ?_)
      refine lv_goto (tgt := 32) hx hb dX10_nearest_92 (by decide) ?_
      refine lv_iload hx hb dX10_nearest_32 (lv_at hl 0 rfl) ?_
      refine lv_aload_n hx hb dX10_nearest_34 rfl (lv_at hl 4 rfl) ?_
      refine xj_i (wc := (wD_177 h cs gI gL gA gQ)) (wr := ([] : va_W)) hP hD hS hA [0, 1, 2, 3, 4, 5, 6, 7, 8, 9, 10, 11, 12, 13, 14, 15, 16] [] rfl rfl (by decide) (by decide) (va_runV (As := []) (rest := [.int (nI 2)]) ⟨hx, hb, hml, hown, hts⟩ (a_X10_words_179 l dC dI h cs H.size gI gL gA gQ ) (cwV 0 hts gX10_nearest_X10_words rfl rfl rfl (by decide +kernel) ⟨Nat.le_of_ble_eq_true rfl, Nat.le_of_ble_eq_true rfl⟩) (xpV (wc := (wD_177 h cs gI gL gA gQ)) hP hD hK hN [0, 1, 2, 3, 4, 5, 6, 7, 8, 9, 10, 11, 12, 13, 14, 15, 16] rfl (by decide) 0 (ci := 10) rfl rfl _) rfl rfl hl.1 rfl (lv_room (Nat.le_of_ble_eq_true rfl)) dX10_nearest_35 ⟨Nat.zero_le _, Nat.zero_le _⟩) (fun r_179 u_178 H locs hw hP hD hS => ?_)
      obtain ⟨hf_180, rfl⟩ := hw
      have hP : va_P (dC, dI) vwCl (rW h cs gI gL gA gQ) H := hP
      have hD : va_D A0 (rW h cs gI gL gA gQ) := hD
      obtain rfl := hf_180
      refine lv_icmp_ge (tgt := 95) hx hb dX10_nearest_38 (by decide) (fun c9 => False.elim (by revert c9; decide +kernel)) (fun _ => ?_)
      refine lv_iload hx hb dX10_nearest_41 (lv_at hl 1 rfl) ?_
      refine lv_aload_n hx hb dX10_nearest_43 rfl (lv_at hl 4 rfl) ?_
      refine va_get (D := (dC, dI)) (ci := 10) (v := .ref (h 16)) (C := RX10) (T := TX10) (N := 28) hx hb hts hinX10 hown hK hP 0 rfl rfl 16 (by decide) (hts (.fieldLink RX10 38 "MixedWordsModel" "offs" "[I") (by decide +kernel)) (fun _ h9 => h9) rfl dX10_nearest_44 ?_
      refine lv_iload hx hb dX10_nearest_47 (lv_at hl 0 rfl) ?_
      refine xa_iald hx hb hK hP 7 0 rfl rfl (by omega) (by decide) dX10_nearest_49 ?_
      refine xt_i (y := nI 0) (by decide +kernel) ?_
      refine lv_aload_n hx hb dX10_nearest_50 rfl (lv_at hl 4 rfl) ?_
      refine va_get (D := (dC, dI)) (ci := 10) (v := .ref (h 16)) (C := RX10) (T := TX10) (N := 28) hx hb hts hinX10 hown hK hP 0 rfl rfl 16 (by decide) (hts (.fieldLink RX10 38 "MixedWordsModel" "offs" "[I") (by decide +kernel)) (fun _ h9 => h9) rfl dX10_nearest_51 ?_
      refine lv_iload_n hx hb dX10_nearest_54 rfl (lv_at hl 2 rfl) ?_
      refine xa_iald hx hb hK hP 7 0 rfl rfl (by omega) (by decide) dX10_nearest_55 ?_
      refine xt_i (y := nI 0) (by decide +kernel) ?_
      refine lv_icmp_lt (tgt := 81) hx hb dX10_nearest_56 (by decide) (fun c9 => False.elim (by revert c9; decide +kernel)) (fun _ => ?_)
      refine lv_aload_n hx hb dX10_nearest_59 rfl (lv_at hl 4 rfl) ?_
      refine va_get (D := (dC, dI)) (ci := 10) (v := .ref (h 16)) (C := RX10) (T := TX10) (N := 28) hx hb hts hinX10 hown hK hP 0 rfl rfl 16 (by decide) (hts (.fieldLink RX10 38 "MixedWordsModel" "offs" "[I") (by decide +kernel)) (fun _ h9 => h9) rfl dX10_nearest_60 ?_
      refine lv_iload hx hb dX10_nearest_63 (lv_at hl 0 rfl) ?_
      refine xa_iald hx hb hK hP 7 0 rfl rfl (by omega) (by decide) dX10_nearest_65 ?_
      refine xt_i (y := nI 0) (by decide +kernel) ?_
      refine lv_aload_n hx hb dX10_nearest_66 rfl (lv_at hl 4 rfl) ?_
      refine va_get (D := (dC, dI)) (ci := 10) (v := .ref (h 16)) (C := RX10) (T := TX10) (N := 28) hx hb hts hinX10 hown hK hP 0 rfl rfl 16 (by decide) (hts (.fieldLink RX10 38 "MixedWordsModel" "offs" "[I") (by decide +kernel)) (fun _ h9 => h9) rfl dX10_nearest_67 ?_
      refine lv_iload_n hx hb dX10_nearest_70 rfl (lv_at hl 2 rfl) ?_
      refine xa_iald hx hb hK hP 7 0 rfl rfl (by omega) (by decide) dX10_nearest_71 ?_
      refine xt_i (y := nI 0) (by decide +kernel) ?_
      refine lv_icmp_ne (tgt := 85) hx hb dX10_nearest_72 (by decide) (fun c9 => False.elim (by revert c9; decide +kernel)) (fun _ => ?_)
      refine lv_iload hx hb dX10_nearest_75 (lv_at hl 0 rfl) ?_
      refine lv_iload_n hx hb dX10_nearest_77 rfl (lv_at hl 2 rfl) ?_
      refine lv_icmp_ge (tgt := 85) hx hb dX10_nearest_78 (by decide) (fun _ => ?_) (fun c9 => False.elim (by revert c9; decide +kernel))
      refine lv_iconst (v := nI 0) hx hb dX10_nearest_85 (by decide) ?_
      refine lv_iadd hx hb dX10_nearest_86 ?_
      refine xt_i (y := nI 0) (by decide +kernel) ?_
      refine lv_istore (lv' := [(4, .int (nI 0)), (5, .int (nI 2)), (3, .int (nI 0)), (2, .int (-1)), (0, .ref (h 0)), (1, .int (nI 2))]) hx hb dX10_nearest_87 hl (by decide) rfl (fun ls hl => ?_)
      refine lv_iinc (v := nI 3) (lv' := [(5, .int (nI 3)), (4, .int (nI 0)), (3, .int (nI 0)), (2, .int (-1)), (0, .ref (h 0)), (1, .int (nI 2))]) hx hb dX10_nearest_89 hl (k := 1) rfl (by decide +kernel) (by decide) rfl (fun ls hl => ?_)
      refine lv_goto (tgt := 32) hx hb dX10_nearest_92 (by decide) ?_
      refine lv_iload hx hb dX10_nearest_32 (lv_at hl 0 rfl) ?_
      refine lv_aload_n hx hb dX10_nearest_34 rfl (lv_at hl 4 rfl) ?_
      refine xj_i (wc := (wD_177 h cs gI gL gA gQ)) (wr := ([] : va_W)) hP hD hS hA [0, 1, 2, 3, 4, 5, 6, 7, 8, 9, 10, 11, 12, 13, 14, 15, 16] [] rfl rfl (by decide) (by decide) (va_runV (As := []) (rest := [.int (nI 3)]) ⟨hx, hb, hml, hown, hts⟩ (a_X10_words_179 l dC dI h cs H.size gI gL gA gQ ) (cwV 0 hts gX10_nearest_X10_words rfl rfl rfl (by decide +kernel) ⟨Nat.le_of_ble_eq_true rfl, Nat.le_of_ble_eq_true rfl⟩) (xpV (wc := (wD_177 h cs gI gL gA gQ)) hP hD hK hN [0, 1, 2, 3, 4, 5, 6, 7, 8, 9, 10, 11, 12, 13, 14, 15, 16] rfl (by decide) 0 (ci := 10) rfl rfl _) rfl rfl hl.1 rfl (lv_room (Nat.le_of_ble_eq_true rfl)) dX10_nearest_35 ⟨Nat.zero_le _, Nat.zero_le _⟩) (fun r_182 u_181 H locs hw hP hD hS => ?_)
      obtain ⟨hf_183, rfl⟩ := hw
      have hP : va_P (dC, dI) vwCl (rW h cs gI gL gA gQ) H := hP
      have hD : va_D A0 (rW h cs gI gL gA gQ) := hD
      obtain rfl := hf_183
      refine lv_icmp_ge (tgt := 95) hx hb dX10_nearest_38 (by decide) (fun c9 => False.elim (by revert c9; decide +kernel)) (fun _ => ?_)
      refine lv_iload hx hb dX10_nearest_41 (lv_at hl 1 rfl) ?_
      refine lv_aload_n hx hb dX10_nearest_43 rfl (lv_at hl 4 rfl) ?_
      refine va_get (D := (dC, dI)) (ci := 10) (v := .ref (h 16)) (C := RX10) (T := TX10) (N := 28) hx hb hts hinX10 hown hK hP 0 rfl rfl 16 (by decide) (hts (.fieldLink RX10 38 "MixedWordsModel" "offs" "[I") (by decide +kernel)) (fun _ h9 => h9) rfl dX10_nearest_44 ?_
      refine lv_iload hx hb dX10_nearest_47 (lv_at hl 0 rfl) ?_
      refine xa_iald hx hb hK hP 7 0 rfl rfl (by omega) (by decide) dX10_nearest_49 ?_
      refine xt_i (y := nI 0) (by decide +kernel) ?_
      refine lv_aload_n hx hb dX10_nearest_50 rfl (lv_at hl 4 rfl) ?_
      refine va_get (D := (dC, dI)) (ci := 10) (v := .ref (h 16)) (C := RX10) (T := TX10) (N := 28) hx hb hts hinX10 hown hK hP 0 rfl rfl 16 (by decide) (hts (.fieldLink RX10 38 "MixedWordsModel" "offs" "[I") (by decide +kernel)) (fun _ h9 => h9) rfl dX10_nearest_51 ?_
      refine lv_iload_n hx hb dX10_nearest_54 rfl (lv_at hl 2 rfl) ?_
      refine xa_iald hx hb hK hP 7 0 rfl rfl (by omega) (by decide) dX10_nearest_55 ?_
      refine xt_i (y := nI 0) (by decide +kernel) ?_
      refine lv_icmp_lt (tgt := 81) hx hb dX10_nearest_56 (by decide) (fun c9 => False.elim (by revert c9; decide +kernel)) (fun _ => ?_)
      refine lv_aload_n hx hb dX10_nearest_59 rfl (lv_at hl 4 rfl) ?_
      refine va_get (D := (dC, dI)) (ci := 10) (v := .ref (h 16)) (C := RX10) (T := TX10) (N := 28) hx hb hts hinX10 hown hK hP 0 rfl rfl 16 (by decide) (hts (.fieldLink RX10 38 "MixedWordsModel" "offs" "[I") (by decide +kernel)) (fun _ h9 => h9) rfl dX10_nearest_60 ?_
      refine lv_iload hx hb dX10_nearest_63 (lv_at hl 0 rfl) ?_
      refine xa_iald hx hb hK hP 7 0 rfl rfl (by omega) (by decide) dX10_nearest_65 ?_
      refine xt_i (y := nI 0) (by decide +kernel) ?_
      refine lv_aload_n hx hb dX10_nearest_66 rfl (lv_at hl 4 rfl) ?_
      refine va_get (D := (dC, dI)) (ci := 10) (v := .ref (h 16)) (C := RX10) (T := TX10) (N := 28) hx hb hts hinX10 hown hK hP 0 rfl rfl 16 (by decide) (hts (.fieldLink RX10 38 "MixedWordsModel" "offs" "[I") (by decide +kernel)) (fun _ h9 => h9) rfl dX10_nearest_67 ?_
      refine lv_iload_n hx hb dX10_nearest_70 rfl (lv_at hl 2 rfl) ?_
      refine xa_iald hx hb hK hP 7 0 rfl rfl (by omega) (by decide) dX10_nearest_71 ?_
      refine xt_i (y := nI 0) (by decide +kernel) ?_
      refine lv_icmp_ne (tgt := 85) hx hb dX10_nearest_72 (by decide) (fun c9 => False.elim (by revert c9; decide +kernel)) (fun _ => ?_)
      refine lv_iload hx hb dX10_nearest_75 (lv_at hl 0 rfl) ?_
      refine lv_iload_n hx hb dX10_nearest_77 rfl (lv_at hl 2 rfl) ?_
      refine lv_icmp_ge (tgt := 85) hx hb dX10_nearest_78 (by decide) (fun _ => ?_) (fun c9 => False.elim (by revert c9; decide +kernel))
      refine lv_iconst (v := nI 0) hx hb dX10_nearest_85 (by decide) ?_
      refine lv_iadd hx hb dX10_nearest_86 ?_
      refine xt_i (y := nI 0) (by decide +kernel) ?_
      refine lv_istore (lv' := [(4, .int (nI 0)), (5, .int (nI 3)), (3, .int (nI 0)), (2, .int (-1)), (0, .ref (h 0)), (1, .int (nI 2))]) hx hb dX10_nearest_87 hl (by decide) rfl (fun ls hl => ?_)
      refine lv_iinc (v := nI 4) (lv' := [(5, .int (nI 4)), (4, .int (nI 0)), (3, .int (nI 0)), (2, .int (-1)), (0, .ref (h 0)), (1, .int (nI 2))]) hx hb dX10_nearest_89 hl (k := 1) rfl (by decide +kernel) (by decide) rfl (fun ls hl => ?_)
      refine lv_goto (tgt := 32) hx hb dX10_nearest_92 (by decide) ?_
      refine lv_iload hx hb dX10_nearest_32 (lv_at hl 0 rfl) ?_
      refine lv_aload_n hx hb dX10_nearest_34 rfl (lv_at hl 4 rfl) ?_
      refine xj_i (wc := (wD_177 h cs gI gL gA gQ)) (wr := ([] : va_W)) hP hD hS hA [0, 1, 2, 3, 4, 5, 6, 7, 8, 9, 10, 11, 12, 13, 14, 15, 16] [] rfl rfl (by decide) (by decide) (va_runV (As := []) (rest := [.int (nI 4)]) ⟨hx, hb, hml, hown, hts⟩ (a_X10_words_179 l dC dI h cs H.size gI gL gA gQ ) (cwV 0 hts gX10_nearest_X10_words rfl rfl rfl (by decide +kernel) ⟨Nat.le_of_ble_eq_true rfl, Nat.le_of_ble_eq_true rfl⟩) (xpV (wc := (wD_177 h cs gI gL gA gQ)) hP hD hK hN [0, 1, 2, 3, 4, 5, 6, 7, 8, 9, 10, 11, 12, 13, 14, 15, 16] rfl (by decide) 0 (ci := 10) rfl rfl _) rfl rfl hl.1 rfl (lv_room (Nat.le_of_ble_eq_true rfl)) dX10_nearest_35 ⟨Nat.zero_le _, Nat.zero_le _⟩) (fun r_185 u_184 H locs hw hP hD hS => ?_)
      obtain ⟨hf_186, rfl⟩ := hw
      have hP : va_P (dC, dI) vwCl (rW h cs gI gL gA gQ) H := hP
      have hD : va_D A0 (rW h cs gI gL gA gQ) := hD
      obtain rfl := hf_186
      refine lv_icmp_ge (tgt := 95) hx hb dX10_nearest_38 (by decide) (fun _ => ?_) (fun c9 => False.elim (by revert c9; decide +kernel))
      refine lv_iload hx hb dX10_nearest_95 (lv_at hl 1 rfl) ?_
      refine lv_iload_n hx hb dX10_nearest_97 rfl (lv_at hl 5 rfl) ?_
      refine lv_icmp_ne (tgt := 105) hx hb dX10_nearest_98 (by decide) (fun _ => ?_) (fun c9 => False.elim (by revert c9; decide +kernel))
      refine lv_iload_n hx hb dX10_nearest_105 rfl (lv_at hl 3 rfl) ?_
      refine lv_istore_n (lv' := [(2, .int (-1)), (5, .int (nI 4)), (4, .int (nI 0)), (3, .int (nI 0)), (0, .ref (h 0)), (1, .int (nI 2))]) hx hb dX10_nearest_106 rfl hl (by decide) rfl (fun ls hl => ?_)
      refine lv_iinc (v := nI 1) (lv' := [(3, .int (nI 1)), (2, .int (-1)), (5, .int (nI 4)), (4, .int (nI 0)), (0, .ref (h 0)), (1, .int (nI 2))]) hx hb dX10_nearest_107 hl (k := 3) rfl (by decide +kernel) (by decide) rfl (fun ls hl => ?_)
      refine lv_goto (tgt := 18) hx hb dX10_nearest_110 (by decide) ?_
      refine lv_iload_n hx hb dX10_nearest_18 rfl (lv_at hl 0 rfl) ?_
      refine lv_aload_n hx hb dX10_nearest_19 rfl (lv_at hl 4 rfl) ?_
      refine xj_i (wc := (wD_177 h cs gI gL gA gQ)) (wr := ([] : va_W)) hP hD hS hA [0, 1, 2, 3, 4, 5, 6, 7, 8, 9, 10, 11, 12, 13, 14, 15, 16] [] rfl rfl (by decide) (by decide) (va_runV (As := []) (rest := [.int (nI 1)]) ⟨hx, hb, hml, hown, hts⟩ (a_X10_words_179 l dC dI h cs H.size gI gL gA gQ ) (cwV 0 hts gX10_nearest_X10_words rfl rfl rfl (by decide +kernel) ⟨Nat.le_of_ble_eq_true rfl, Nat.le_of_ble_eq_true rfl⟩) (xpV (wc := (wD_177 h cs gI gL gA gQ)) hP hD hK hN [0, 1, 2, 3, 4, 5, 6, 7, 8, 9, 10, 11, 12, 13, 14, 15, 16] rfl (by decide) 0 (ci := 10) rfl rfl _) rfl rfl hl.1 rfl (lv_room (Nat.le_of_ble_eq_true rfl)) dX10_nearest_20 ⟨Nat.zero_le _, Nat.zero_le _⟩) (fun r_188 u_187 H locs hw hP hD hS => ?_)
      obtain ⟨hf_189, rfl⟩ := hw
      have hP : va_P (dC, dI) vwCl (rW h cs gI gL gA gQ) H := hP
      have hD : va_D A0 (rW h cs gI gL gA gQ) := hD
      obtain rfl := hf_189
      refine lv_icmp_ge (tgt := 113) hx hb dX10_nearest_23 (by decide) (fun c9 => False.elim (by revert c9; decide +kernel)) (fun _ => ?_)
      refine lv_iconst (v := nI 0) hx hb dX10_nearest_26 (by decide) ?_
      refine lv_istore (lv' := [(4, .int (nI 0)), (3, .int (nI 1)), (2, .int (-1)), (5, .int (nI 4)), (0, .ref (h 0)), (1, .int (nI 2))]) hx hb dX10_nearest_27 hl (by decide) rfl (fun ls hl => ?_)
      refine lv_iconst (v := nI 0) hx hb dX10_nearest_29 (by decide) ?_
      refine lv_istore (lv' := [(5, .int (nI 0)), (4, .int (nI 0)), (3, .int (nI 1)), (2, .int (-1)), (0, .ref (h 0)), (1, .int (nI 2))]) hx hb dX10_nearest_30 hl (by decide) rfl (fun ls hl => ?_)
      refine lv_iload hx hb dX10_nearest_32 (lv_at hl 0 rfl) ?_
      refine lv_aload_n hx hb dX10_nearest_34 rfl (lv_at hl 4 rfl) ?_
      refine xj_i (wc := (wD_177 h cs gI gL gA gQ)) (wr := ([] : va_W)) hP hD hS hA [0, 1, 2, 3, 4, 5, 6, 7, 8, 9, 10, 11, 12, 13, 14, 15, 16] [] rfl rfl (by decide) (by decide) (va_runV (As := []) (rest := [.int (nI 0)]) ⟨hx, hb, hml, hown, hts⟩ (a_X10_words_179 l dC dI h cs H.size gI gL gA gQ ) (cwV 0 hts gX10_nearest_X10_words rfl rfl rfl (by decide +kernel) ⟨Nat.le_of_ble_eq_true rfl, Nat.le_of_ble_eq_true rfl⟩) (xpV (wc := (wD_177 h cs gI gL gA gQ)) hP hD hK hN [0, 1, 2, 3, 4, 5, 6, 7, 8, 9, 10, 11, 12, 13, 14, 15, 16] rfl (by decide) 0 (ci := 10) rfl rfl _) rfl rfl hl.1 rfl (lv_room (Nat.le_of_ble_eq_true rfl)) dX10_nearest_35 ⟨Nat.zero_le _, Nat.zero_le _⟩) (fun r_191 u_190 H locs hw hP hD hS => ?_)
      obtain ⟨hf_192, rfl⟩ := hw
      have hP : va_P (dC, dI) vwCl (rW h cs gI gL gA gQ) H := hP
      have hD : va_D A0 (rW h cs gI gL gA gQ) := hD
      obtain rfl := hf_192
      refine lv_icmp_ge (tgt := 95) hx hb dX10_nearest_38 (by decide) (fun c9 => False.elim (by revert c9; decide +kernel)) (fun _ => ?_)
      refine lv_iload hx hb dX10_nearest_41 (lv_at hl 1 rfl) ?_
      refine lv_aload_n hx hb dX10_nearest_43 rfl (lv_at hl 4 rfl) ?_
      refine va_get (D := (dC, dI)) (ci := 10) (v := .ref (h 16)) (C := RX10) (T := TX10) (N := 28) hx hb hts hinX10 hown hK hP 0 rfl rfl 16 (by decide) (hts (.fieldLink RX10 38 "MixedWordsModel" "offs" "[I") (by decide +kernel)) (fun _ h9 => h9) rfl dX10_nearest_44 ?_
      refine lv_iload hx hb dX10_nearest_47 (lv_at hl 0 rfl) ?_
      refine xa_iald hx hb hK hP 7 0 rfl rfl (by omega) (by decide) dX10_nearest_49 ?_
      refine xt_i (y := nI 0) (by decide +kernel) ?_
      refine lv_aload_n hx hb dX10_nearest_50 rfl (lv_at hl 4 rfl) ?_
      refine va_get (D := (dC, dI)) (ci := 10) (v := .ref (h 16)) (C := RX10) (T := TX10) (N := 28) hx hb hts hinX10 hown hK hP 0 rfl rfl 16 (by decide) (hts (.fieldLink RX10 38 "MixedWordsModel" "offs" "[I") (by decide +kernel)) (fun _ h9 => h9) rfl dX10_nearest_51 ?_
      refine lv_iload_n hx hb dX10_nearest_54 rfl (lv_at hl 2 rfl) ?_
      refine xa_iald hx hb hK hP 7 0 rfl rfl (by omega) (by decide) dX10_nearest_55 ?_
      refine xt_i (y := nI 0) (by decide +kernel) ?_
      refine lv_icmp_lt (tgt := 81) hx hb dX10_nearest_56 (by decide) (fun c9 => False.elim (by revert c9; decide +kernel)) (fun _ => ?_)
      refine lv_aload_n hx hb dX10_nearest_59 rfl (lv_at hl 4 rfl) ?_
      refine va_get (D := (dC, dI)) (ci := 10) (v := .ref (h 16)) (C := RX10) (T := TX10) (N := 28) hx hb hts hinX10 hown hK hP 0 rfl rfl 16 (by decide) (hts (.fieldLink RX10 38 "MixedWordsModel" "offs" "[I") (by decide +kernel)) (fun _ h9 => h9) rfl dX10_nearest_60 ?_
      refine lv_iload hx hb dX10_nearest_63 (lv_at hl 0 rfl) ?_
      refine xa_iald hx hb hK hP 7 0 rfl rfl (by omega) (by decide) dX10_nearest_65 ?_
      refine xt_i (y := nI 0) (by decide +kernel) ?_
      refine lv_aload_n hx hb dX10_nearest_66 rfl (lv_at hl 4 rfl) ?_
      refine va_get (D := (dC, dI)) (ci := 10) (v := .ref (h 16)) (C := RX10) (T := TX10) (N := 28) hx hb hts hinX10 hown hK hP 0 rfl rfl 16 (by decide) (hts (.fieldLink RX10 38 "MixedWordsModel" "offs" "[I") (by decide +kernel)) (fun _ h9 => h9) rfl dX10_nearest_67 ?_
      refine lv_iload_n hx hb dX10_nearest_70 rfl (lv_at hl 2 rfl) ?_
      refine xa_iald hx hb hK hP 7 0 rfl rfl (by omega) (by decide) dX10_nearest_71 ?_
      refine xt_i (y := nI 0) (by decide +kernel) ?_
      refine lv_icmp_ne (tgt := 85) hx hb dX10_nearest_72 (by decide) (fun c9 => False.elim (by revert c9; decide +kernel)) (fun _ => ?_)
      refine lv_iload hx hb dX10_nearest_75 (lv_at hl 0 rfl) ?_
      refine lv_iload_n hx hb dX10_nearest_77 rfl (lv_at hl 2 rfl) ?_
      refine lv_icmp_ge (tgt := 85) hx hb dX10_nearest_78 (by decide) (fun c9 => False.elim (by revert c9; decide +kernel)) (fun _ => ?_)
      refine lv_iconst (v := nI 1) hx hb dX10_nearest_81 (by decide) ?_
      refine lv_goto (tgt := 86) hx hb dX10_nearest_82 (by decide) ?_
      refine lv_iadd hx hb dX10_nearest_86 ?_
      refine xt_i (y := nI 1) (by decide +kernel) ?_
      refine lv_istore (lv' := [(4, .int (nI 1)), (5, .int (nI 0)), (3, .int (nI 1)), (2, .int (-1)), (0, .ref (h 0)), (1, .int (nI 2))]) hx hb dX10_nearest_87 hl (by decide) rfl (fun ls hl => ?_)
      refine lv_iinc (v := nI 1) (lv' := [(5, .int (nI 1)), (4, .int (nI 1)), (3, .int (nI 1)), (2, .int (-1)), (0, .ref (h 0)), (1, .int (nI 2))]) hx hb dX10_nearest_89 hl (k := 1) rfl (by decide +kernel) (by decide) rfl (fun ls hl => ?_)
      refine lv_goto (tgt := 32) hx hb dX10_nearest_92 (by decide) ?_
      refine lv_iload hx hb dX10_nearest_32 (lv_at hl 0 rfl) ?_
      refine lv_aload_n hx hb dX10_nearest_34 rfl (lv_at hl 4 rfl) ?_
      refine xj_i (wc := (wD_177 h cs gI gL gA gQ)) (wr := ([] : va_W)) hP hD hS hA [0, 1, 2, 3, 4, 5, 6, 7, 8, 9, 10, 11, 12, 13, 14, 15, 16] [] rfl rfl (by decide) (by decide) (va_runV (As := []) (rest := [.int (nI 1)]) ⟨hx, hb, hml, hown, hts⟩ (a_X10_words_179 l dC dI h cs H.size gI gL gA gQ ) (cwV 0 hts gX10_nearest_X10_words rfl rfl rfl (by decide +kernel) ⟨Nat.le_of_ble_eq_true rfl, Nat.le_of_ble_eq_true rfl⟩) (xpV (wc := (wD_177 h cs gI gL gA gQ)) hP hD hK hN [0, 1, 2, 3, 4, 5, 6, 7, 8, 9, 10, 11, 12, 13, 14, 15, 16] rfl (by decide) 0 (ci := 10) rfl rfl _) rfl rfl hl.1 rfl (lv_room (Nat.le_of_ble_eq_true rfl)) dX10_nearest_35 ⟨Nat.zero_le _, Nat.zero_le _⟩) (fun r_194 u_193 H locs hw hP hD hS => ?_)
      obtain ⟨hf_195, rfl⟩ := hw
      have hP : va_P (dC, dI) vwCl (rW h cs gI gL gA gQ) H := hP
      have hD : va_D A0 (rW h cs gI gL gA gQ) := hD
      obtain rfl := hf_195
      refine lv_icmp_ge (tgt := 95) hx hb dX10_nearest_38 (by decide) (fun c9 => False.elim (by revert c9; decide +kernel)) (fun _ => ?_)
      refine lv_iload hx hb dX10_nearest_41 (lv_at hl 1 rfl) ?_
      refine lv_aload_n hx hb dX10_nearest_43 rfl (lv_at hl 4 rfl) ?_
      refine va_get (D := (dC, dI)) (ci := 10) (v := .ref (h 16)) (C := RX10) (T := TX10) (N := 28) hx hb hts hinX10 hown hK hP 0 rfl rfl 16 (by decide) (hts (.fieldLink RX10 38 "MixedWordsModel" "offs" "[I") (by decide +kernel)) (fun _ h9 => h9) rfl dX10_nearest_44 ?_
      refine lv_iload hx hb dX10_nearest_47 (lv_at hl 0 rfl) ?_
      refine xa_iald hx hb hK hP 7 0 rfl rfl (by omega) (by decide) dX10_nearest_49 ?_
      refine xt_i (y := nI 0) (by decide +kernel) ?_
      refine lv_aload_n hx hb dX10_nearest_50 rfl (lv_at hl 4 rfl) ?_
      refine va_get (D := (dC, dI)) (ci := 10) (v := .ref (h 16)) (C := RX10) (T := TX10) (N := 28) hx hb hts hinX10 hown hK hP 0 rfl rfl 16 (by decide) (hts (.fieldLink RX10 38 "MixedWordsModel" "offs" "[I") (by decide +kernel)) (fun _ h9 => h9) rfl dX10_nearest_51 ?_
      refine lv_iload_n hx hb dX10_nearest_54 rfl (lv_at hl 2 rfl) ?_
      refine xa_iald hx hb hK hP 7 0 rfl rfl (by omega) (by decide) dX10_nearest_55 ?_
      refine xt_i (y := nI 0) (by decide +kernel) ?_
      refine lv_icmp_lt (tgt := 81) hx hb dX10_nearest_56 (by decide) (fun c9 => False.elim (by revert c9; decide +kernel)) (fun _ => ?_)
      refine lv_aload_n hx hb dX10_nearest_59 rfl (lv_at hl 4 rfl) ?_
      refine va_get (D := (dC, dI)) (ci := 10) (v := .ref (h 16)) (C := RX10) (T := TX10) (N := 28) hx hb hts hinX10 hown hK hP 0 rfl rfl 16 (by decide) (hts (.fieldLink RX10 38 "MixedWordsModel" "offs" "[I") (by decide +kernel)) (fun _ h9 => h9) rfl dX10_nearest_60 ?_
      refine lv_iload hx hb dX10_nearest_63 (lv_at hl 0 rfl) ?_
      refine xa_iald hx hb hK hP 7 0 rfl rfl (by omega) (by decide) dX10_nearest_65 ?_
      refine xt_i (y := nI 0) (by decide +kernel) ?_
      refine lv_aload_n hx hb dX10_nearest_66 rfl (lv_at hl 4 rfl) ?_
      refine va_get (D := (dC, dI)) (ci := 10) (v := .ref (h 16)) (C := RX10) (T := TX10) (N := 28) hx hb hts hinX10 hown hK hP 0 rfl rfl 16 (by decide) (hts (.fieldLink RX10 38 "MixedWordsModel" "offs" "[I") (by decide +kernel)) (fun _ h9 => h9) rfl dX10_nearest_67 ?_
      refine lv_iload_n hx hb dX10_nearest_70 rfl (lv_at hl 2 rfl) ?_
      refine xa_iald hx hb hK hP 7 0 rfl rfl (by omega) (by decide) dX10_nearest_71 ?_
      refine xt_i (y := nI 0) (by decide +kernel) ?_
      refine lv_icmp_ne (tgt := 85) hx hb dX10_nearest_72 (by decide) (fun c9 => False.elim (by revert c9; decide +kernel)) (fun _ => ?_)
      refine lv_iload hx hb dX10_nearest_75 (lv_at hl 0 rfl) ?_
      refine lv_iload_n hx hb dX10_nearest_77 rfl (lv_at hl 2 rfl) ?_
      refine lv_icmp_ge (tgt := 85) hx hb dX10_nearest_78 (by decide) (fun _ => ?_) (fun c9 => False.elim (by revert c9; decide +kernel))
      refine lv_iconst (v := nI 0) hx hb dX10_nearest_85 (by decide) ?_
      refine lv_iadd hx hb dX10_nearest_86 ?_
      refine xt_i (y := nI 1) (by decide +kernel) ?_
      refine lv_istore (lv' := [(4, .int (nI 1)), (5, .int (nI 1)), (3, .int (nI 1)), (2, .int (-1)), (0, .ref (h 0)), (1, .int (nI 2))]) hx hb dX10_nearest_87 hl (by decide) rfl (fun ls hl => ?_)
      refine lv_iinc (v := nI 2) (lv' := [(5, .int (nI 2)), (4, .int (nI 1)), (3, .int (nI 1)), (2, .int (-1)), (0, .ref (h 0)), (1, .int (nI 2))]) hx hb dX10_nearest_89 hl (k := 1) rfl (by decide +kernel) (by decide) rfl (fun ls hl => ?_)
      refine lv_goto (tgt := 32) hx hb dX10_nearest_92 (by decide) ?_
      refine lv_iload hx hb dX10_nearest_32 (lv_at hl 0 rfl) ?_
      refine lv_aload_n hx hb dX10_nearest_34 rfl (lv_at hl 4 rfl) ?_
      refine xj_i (wc := (wD_177 h cs gI gL gA gQ)) (wr := ([] : va_W)) hP hD hS hA [0, 1, 2, 3, 4, 5, 6, 7, 8, 9, 10, 11, 12, 13, 14, 15, 16] [] rfl rfl (by decide) (by decide) (va_runV (As := []) (rest := [.int (nI 2)]) ⟨hx, hb, hml, hown, hts⟩ (a_X10_words_179 l dC dI h cs H.size gI gL gA gQ ) (cwV 0 hts gX10_nearest_X10_words rfl rfl rfl (by decide +kernel) ⟨Nat.le_of_ble_eq_true rfl, Nat.le_of_ble_eq_true rfl⟩) (xpV (wc := (wD_177 h cs gI gL gA gQ)) hP hD hK hN [0, 1, 2, 3, 4, 5, 6, 7, 8, 9, 10, 11, 12, 13, 14, 15, 16] rfl (by decide) 0 (ci := 10) rfl rfl _) rfl rfl hl.1 rfl (lv_room (Nat.le_of_ble_eq_true rfl)) dX10_nearest_35 ⟨Nat.zero_le _, Nat.zero_le _⟩) (fun r_197 u_196 H locs hw hP hD hS => ?_)
      obtain ⟨hf_198, rfl⟩ := hw
      have hP : va_P (dC, dI) vwCl (rW h cs gI gL gA gQ) H := hP
      have hD : va_D A0 (rW h cs gI gL gA gQ) := hD
      obtain rfl := hf_198
      refine lv_icmp_ge (tgt := 95) hx hb dX10_nearest_38 (by decide) (fun c9 => False.elim (by revert c9; decide +kernel)) (fun _ => ?_)
      refine lv_iload hx hb dX10_nearest_41 (lv_at hl 1 rfl) ?_
      refine lv_aload_n hx hb dX10_nearest_43 rfl (lv_at hl 4 rfl) ?_
      refine va_get (D := (dC, dI)) (ci := 10) (v := .ref (h 16)) (C := RX10) (T := TX10) (N := 28) hx hb hts hinX10 hown hK hP 0 rfl rfl 16 (by decide) (hts (.fieldLink RX10 38 "MixedWordsModel" "offs" "[I") (by decide +kernel)) (fun _ h9 => h9) rfl dX10_nearest_44 ?_
      refine lv_iload hx hb dX10_nearest_47 (lv_at hl 0 rfl) ?_
      refine xa_iald hx hb hK hP 7 0 rfl rfl (by omega) (by decide) dX10_nearest_49 ?_
      refine xt_i (y := nI 0) (by decide +kernel) ?_
      refine lv_aload_n hx hb dX10_nearest_50 rfl (lv_at hl 4 rfl) ?_
      refine va_get (D := (dC, dI)) (ci := 10) (v := .ref (h 16)) (C := RX10) (T := TX10) (N := 28) hx hb hts hinX10 hown hK hP 0 rfl rfl 16 (by decide) (hts (.fieldLink RX10 38 "MixedWordsModel" "offs" "[I") (by decide +kernel)) (fun _ h9 => h9) rfl dX10_nearest_51 ?_
      refine lv_iload_n hx hb dX10_nearest_54 rfl (lv_at hl 2 rfl) ?_
      refine xa_iald hx hb hK hP 7 0 rfl rfl (by omega) (by decide) dX10_nearest_55 ?_
      refine xt_i (y := nI 0) (by decide +kernel) ?_
      refine lv_icmp_lt (tgt := 81) hx hb dX10_nearest_56 (by decide) (fun c9 => False.elim (by revert c9; decide +kernel)) (fun _ => ?_)
      refine lv_aload_n hx hb dX10_nearest_59 rfl (lv_at hl 4 rfl) ?_
      refine va_get (D := (dC, dI)) (ci := 10) (v := .ref (h 16)) (C := RX10) (T := TX10) (N := 28) hx hb hts hinX10 hown hK hP 0 rfl rfl 16 (by decide) (hts (.fieldLink RX10 38 "MixedWordsModel" "offs" "[I") (by decide +kernel)) (fun _ h9 => h9) rfl dX10_nearest_60 ?_
      refine lv_iload hx hb dX10_nearest_63 (lv_at hl 0 rfl) ?_
      refine xa_iald hx hb hK hP 7 0 rfl rfl (by omega) (by decide) dX10_nearest_65 ?_
      refine xt_i (y := nI 0) (by decide +kernel) ?_
      refine lv_aload_n hx hb dX10_nearest_66 rfl (lv_at hl 4 rfl) ?_
      refine va_get (D := (dC, dI)) (ci := 10) (v := .ref (h 16)) (C := RX10) (T := TX10) (N := 28) hx hb hts hinX10 hown hK hP 0 rfl rfl 16 (by decide) (hts (.fieldLink RX10 38 "MixedWordsModel" "offs" "[I") (by decide +kernel)) (fun _ h9 => h9) rfl dX10_nearest_67 ?_
      refine lv_iload_n hx hb dX10_nearest_70 rfl (lv_at hl 2 rfl) ?_
      refine xa_iald hx hb hK hP 7 0 rfl rfl (by omega) (by decide) dX10_nearest_71 ?_
      refine xt_i (y := nI 0) (by decide +kernel) ?_
      refine lv_icmp_ne (tgt := 85) hx hb dX10_nearest_72 (by decide) (fun c9 => False.elim (by revert c9; decide +kernel)) (fun _ => ?_)
      refine lv_iload hx hb dX10_nearest_75 (lv_at hl 0 rfl) ?_
      refine lv_iload_n hx hb dX10_nearest_77 rfl (lv_at hl 2 rfl) ?_
      refine lv_icmp_ge (tgt := 85) hx hb dX10_nearest_78 (by decide) (fun _ => ?_) (fun c9 => False.elim (by revert c9; decide +kernel))
      refine lv_iconst (v := nI 0) hx hb dX10_nearest_85 (by decide) ?_
      refine lv_iadd hx hb dX10_nearest_86 ?_
      refine xt_i (y := nI 1) (by decide +kernel) ?_
      refine lv_istore (lv' := [(4, .int (nI 1)), (5, .int (nI 2)), (3, .int (nI 1)), (2, .int (-1)), (0, .ref (h 0)), (1, .int (nI 2))]) hx hb dX10_nearest_87 hl (by decide) rfl (fun ls hl => ?_)
      refine lv_iinc (v := nI 3) (lv' := [(5, .int (nI 3)), (4, .int (nI 1)), (3, .int (nI 1)), (2, .int (-1)), (0, .ref (h 0)), (1, .int (nI 2))]) hx hb dX10_nearest_89 hl (k := 1) rfl (by decide +kernel) (by decide) rfl (fun ls hl => ?_)
      refine lv_goto (tgt := 32) hx hb dX10_nearest_92 (by decide) ?_
      refine lv_iload hx hb dX10_nearest_32 (lv_at hl 0 rfl) ?_
      refine lv_aload_n hx hb dX10_nearest_34 rfl (lv_at hl 4 rfl) ?_
      refine xj_i (wc := (wD_177 h cs gI gL gA gQ)) (wr := ([] : va_W)) hP hD hS hA [0, 1, 2, 3, 4, 5, 6, 7, 8, 9, 10, 11, 12, 13, 14, 15, 16] [] rfl rfl (by decide) (by decide) (va_runV (As := []) (rest := [.int (nI 3)]) ⟨hx, hb, hml, hown, hts⟩ (a_X10_words_179 l dC dI h cs H.size gI gL gA gQ ) (cwV 0 hts gX10_nearest_X10_words rfl rfl rfl (by decide +kernel) ⟨Nat.le_of_ble_eq_true rfl, Nat.le_of_ble_eq_true rfl⟩) (xpV (wc := (wD_177 h cs gI gL gA gQ)) hP hD hK hN [0, 1, 2, 3, 4, 5, 6, 7, 8, 9, 10, 11, 12, 13, 14, 15, 16] rfl (by decide) 0 (ci := 10) rfl rfl _) rfl rfl hl.1 rfl (lv_room (Nat.le_of_ble_eq_true rfl)) dX10_nearest_35 ⟨Nat.zero_le _, Nat.zero_le _⟩) (fun r_200 u_199 H locs hw hP hD hS => ?_)
      obtain ⟨hf_201, rfl⟩ := hw
      have hP : va_P (dC, dI) vwCl (rW h cs gI gL gA gQ) H := hP
      have hD : va_D A0 (rW h cs gI gL gA gQ) := hD
      obtain rfl := hf_201
      refine lv_icmp_ge (tgt := 95) hx hb dX10_nearest_38 (by decide) (fun c9 => False.elim (by revert c9; decide +kernel)) (fun _ => ?_)
      refine lv_iload hx hb dX10_nearest_41 (lv_at hl 1 rfl) ?_
      refine lv_aload_n hx hb dX10_nearest_43 rfl (lv_at hl 4 rfl) ?_
      refine va_get (D := (dC, dI)) (ci := 10) (v := .ref (h 16)) (C := RX10) (T := TX10) (N := 28) hx hb hts hinX10 hown hK hP 0 rfl rfl 16 (by decide) (hts (.fieldLink RX10 38 "MixedWordsModel" "offs" "[I") (by decide +kernel)) (fun _ h9 => h9) rfl dX10_nearest_44 ?_
      refine lv_iload hx hb dX10_nearest_47 (lv_at hl 0 rfl) ?_
      refine xa_iald hx hb hK hP 7 0 rfl rfl (by omega) (by decide) dX10_nearest_49 ?_
      refine xt_i (y := nI 0) (by decide +kernel) ?_
      refine lv_aload_n hx hb dX10_nearest_50 rfl (lv_at hl 4 rfl) ?_
      refine va_get (D := (dC, dI)) (ci := 10) (v := .ref (h 16)) (C := RX10) (T := TX10) (N := 28) hx hb hts hinX10 hown hK hP 0 rfl rfl 16 (by decide) (hts (.fieldLink RX10 38 "MixedWordsModel" "offs" "[I") (by decide +kernel)) (fun _ h9 => h9) rfl dX10_nearest_51 ?_
      refine lv_iload_n hx hb dX10_nearest_54 rfl (lv_at hl 2 rfl) ?_
      refine xa_iald hx hb hK hP 7 0 rfl rfl (by omega) (by decide) dX10_nearest_55 ?_
      refine xt_i (y := nI 0) (by decide +kernel) ?_
      refine lv_icmp_lt (tgt := 81) hx hb dX10_nearest_56 (by decide) (fun c9 => False.elim (by revert c9; decide +kernel)) (fun _ => ?_)
      refine lv_aload_n hx hb dX10_nearest_59 rfl (lv_at hl 4 rfl) ?_
      refine va_get (D := (dC, dI)) (ci := 10) (v := .ref (h 16)) (C := RX10) (T := TX10) (N := 28) hx hb hts hinX10 hown hK hP 0 rfl rfl 16 (by decide) (hts (.fieldLink RX10 38 "MixedWordsModel" "offs" "[I") (by decide +kernel)) (fun _ h9 => h9) rfl dX10_nearest_60 ?_
      refine lv_iload hx hb dX10_nearest_63 (lv_at hl 0 rfl) ?_
      refine xa_iald hx hb hK hP 7 0 rfl rfl (by omega) (by decide) dX10_nearest_65 ?_
      refine xt_i (y := nI 0) (by decide +kernel) ?_
      refine lv_aload_n hx hb dX10_nearest_66 rfl (lv_at hl 4 rfl) ?_
      refine va_get (D := (dC, dI)) (ci := 10) (v := .ref (h 16)) (C := RX10) (T := TX10) (N := 28) hx hb hts hinX10 hown hK hP 0 rfl rfl 16 (by decide) (hts (.fieldLink RX10 38 "MixedWordsModel" "offs" "[I") (by decide +kernel)) (fun _ h9 => h9) rfl dX10_nearest_67 ?_
      refine lv_iload_n hx hb dX10_nearest_70 rfl (lv_at hl 2 rfl) ?_
      refine xa_iald hx hb hK hP 7 0 rfl rfl (by omega) (by decide) dX10_nearest_71 ?_
      refine xt_i (y := nI 0) (by decide +kernel) ?_
      refine lv_icmp_ne (tgt := 85) hx hb dX10_nearest_72 (by decide) (fun c9 => False.elim (by revert c9; decide +kernel)) (fun _ => ?_)
      refine lv_iload hx hb dX10_nearest_75 (lv_at hl 0 rfl) ?_
      refine lv_iload_n hx hb dX10_nearest_77 rfl (lv_at hl 2 rfl) ?_
      refine lv_icmp_ge (tgt := 85) hx hb dX10_nearest_78 (by decide) (fun _ => ?_) (fun c9 => False.elim (by revert c9; decide +kernel))
      refine lv_iconst (v := nI 0) hx hb dX10_nearest_85 (by decide) ?_
      refine lv_iadd hx hb dX10_nearest_86 ?_
      refine xt_i (y := nI 1) (by decide +kernel) ?_
      refine lv_istore (lv' := [(4, .int (nI 1)), (5, .int (nI 3)), (3, .int (nI 1)), (2, .int (-1)), (0, .ref (h 0)), (1, .int (nI 2))]) hx hb dX10_nearest_87 hl (by decide) rfl (fun ls hl => ?_)
      refine lv_iinc (v := nI 4) (lv' := [(5, .int (nI 4)), (4, .int (nI 1)), (3, .int (nI 1)), (2, .int (-1)), (0, .ref (h 0)), (1, .int (nI 2))]) hx hb dX10_nearest_89 hl (k := 1) rfl (by decide +kernel) (by decide) rfl (fun ls hl => ?_)
      refine lv_goto (tgt := 32) hx hb dX10_nearest_92 (by decide) ?_
      refine lv_iload hx hb dX10_nearest_32 (lv_at hl 0 rfl) ?_
      refine lv_aload_n hx hb dX10_nearest_34 rfl (lv_at hl 4 rfl) ?_
      refine xj_i (wc := (wD_177 h cs gI gL gA gQ)) (wr := ([] : va_W)) hP hD hS hA [0, 1, 2, 3, 4, 5, 6, 7, 8, 9, 10, 11, 12, 13, 14, 15, 16] [] rfl rfl (by decide) (by decide) (va_runV (As := []) (rest := [.int (nI 4)]) ⟨hx, hb, hml, hown, hts⟩ (a_X10_words_179 l dC dI h cs H.size gI gL gA gQ ) (cwV 0 hts gX10_nearest_X10_words rfl rfl rfl (by decide +kernel) ⟨Nat.le_of_ble_eq_true rfl, Nat.le_of_ble_eq_true rfl⟩) (xpV (wc := (wD_177 h cs gI gL gA gQ)) hP hD hK hN [0, 1, 2, 3, 4, 5, 6, 7, 8, 9, 10, 11, 12, 13, 14, 15, 16] rfl (by decide) 0 (ci := 10) rfl rfl _) rfl rfl hl.1 rfl (lv_room (Nat.le_of_ble_eq_true rfl)) dX10_nearest_35 ⟨Nat.zero_le _, Nat.zero_le _⟩) (fun r_203 u_202 H locs hw hP hD hS => ?_)
      obtain ⟨hf_204, rfl⟩ := hw
      have hP : va_P (dC, dI) vwCl (rW h cs gI gL gA gQ) H := hP
      have hD : va_D A0 (rW h cs gI gL gA gQ) := hD
      obtain rfl := hf_204
      refine lv_icmp_ge (tgt := 95) hx hb dX10_nearest_38 (by decide) (fun _ => ?_) (fun c9 => False.elim (by revert c9; decide +kernel))
      refine lv_iload hx hb dX10_nearest_95 (lv_at hl 1 rfl) ?_
      refine lv_iload_n hx hb dX10_nearest_97 rfl (lv_at hl 5 rfl) ?_
      refine lv_icmp_ne (tgt := 105) hx hb dX10_nearest_98 (by decide) (fun _ => ?_) (fun c9 => False.elim (by revert c9; decide +kernel))
      refine lv_iload_n hx hb dX10_nearest_105 rfl (lv_at hl 3 rfl) ?_
      refine lv_istore_n (lv' := [(2, .int (-1)), (5, .int (nI 4)), (4, .int (nI 1)), (3, .int (nI 1)), (0, .ref (h 0)), (1, .int (nI 2))]) hx hb dX10_nearest_106 rfl hl (by decide) rfl (fun ls hl => ?_)
      refine lv_iinc (v := nI 2) (lv' := [(3, .int (nI 2)), (2, .int (-1)), (5, .int (nI 4)), (4, .int (nI 1)), (0, .ref (h 0)), (1, .int (nI 2))]) hx hb dX10_nearest_107 hl (k := 3) rfl (by decide +kernel) (by decide) rfl (fun ls hl => ?_)
      refine lv_goto (tgt := 18) hx hb dX10_nearest_110 (by decide) ?_
      refine lv_iload_n hx hb dX10_nearest_18 rfl (lv_at hl 0 rfl) ?_
      refine lv_aload_n hx hb dX10_nearest_19 rfl (lv_at hl 4 rfl) ?_
      refine xj_i (wc := (wD_177 h cs gI gL gA gQ)) (wr := ([] : va_W)) hP hD hS hA [0, 1, 2, 3, 4, 5, 6, 7, 8, 9, 10, 11, 12, 13, 14, 15, 16] [] rfl rfl (by decide) (by decide) (va_runV (As := []) (rest := [.int (nI 2)]) ⟨hx, hb, hml, hown, hts⟩ (a_X10_words_179 l dC dI h cs H.size gI gL gA gQ ) (cwV 0 hts gX10_nearest_X10_words rfl rfl rfl (by decide +kernel) ⟨Nat.le_of_ble_eq_true rfl, Nat.le_of_ble_eq_true rfl⟩) (xpV (wc := (wD_177 h cs gI gL gA gQ)) hP hD hK hN [0, 1, 2, 3, 4, 5, 6, 7, 8, 9, 10, 11, 12, 13, 14, 15, 16] rfl (by decide) 0 (ci := 10) rfl rfl _) rfl rfl hl.1 rfl (lv_room (Nat.le_of_ble_eq_true rfl)) dX10_nearest_20 ⟨Nat.zero_le _, Nat.zero_le _⟩) (fun r_206 u_205 H locs hw hP hD hS => ?_)
      obtain ⟨hf_207, rfl⟩ := hw
      have hP : va_P (dC, dI) vwCl (rW h cs gI gL gA gQ) H := hP
      have hD : va_D A0 (rW h cs gI gL gA gQ) := hD
      obtain rfl := hf_207
      refine lv_icmp_ge (tgt := 113) hx hb dX10_nearest_23 (by decide) (fun c9 => False.elim (by revert c9; decide +kernel)) (fun _ => ?_)
      refine lv_iconst (v := nI 0) hx hb dX10_nearest_26 (by decide) ?_
      refine lv_istore (lv' := [(4, .int (nI 0)), (3, .int (nI 2)), (2, .int (-1)), (5, .int (nI 4)), (0, .ref (h 0)), (1, .int (nI 2))]) hx hb dX10_nearest_27 hl (by decide) rfl (fun ls hl => ?_)
      refine lv_iconst (v := nI 0) hx hb dX10_nearest_29 (by decide) ?_
      refine lv_istore (lv' := [(5, .int (nI 0)), (4, .int (nI 0)), (3, .int (nI 2)), (2, .int (-1)), (0, .ref (h 0)), (1, .int (nI 2))]) hx hb dX10_nearest_30 hl (by decide) rfl (fun ls hl => ?_)
      refine lv_iload hx hb dX10_nearest_32 (lv_at hl 0 rfl) ?_
      refine lv_aload_n hx hb dX10_nearest_34 rfl (lv_at hl 4 rfl) ?_
      refine xj_i (wc := (wD_177 h cs gI gL gA gQ)) (wr := ([] : va_W)) hP hD hS hA [0, 1, 2, 3, 4, 5, 6, 7, 8, 9, 10, 11, 12, 13, 14, 15, 16] [] rfl rfl (by decide) (by decide) (va_runV (As := []) (rest := [.int (nI 0)]) ⟨hx, hb, hml, hown, hts⟩ (a_X10_words_179 l dC dI h cs H.size gI gL gA gQ ) (cwV 0 hts gX10_nearest_X10_words rfl rfl rfl (by decide +kernel) ⟨Nat.le_of_ble_eq_true rfl, Nat.le_of_ble_eq_true rfl⟩) (xpV (wc := (wD_177 h cs gI gL gA gQ)) hP hD hK hN [0, 1, 2, 3, 4, 5, 6, 7, 8, 9, 10, 11, 12, 13, 14, 15, 16] rfl (by decide) 0 (ci := 10) rfl rfl _) rfl rfl hl.1 rfl (lv_room (Nat.le_of_ble_eq_true rfl)) dX10_nearest_35 ⟨Nat.zero_le _, Nat.zero_le _⟩) (fun r_209 u_208 H locs hw hP hD hS => ?_)
      obtain ⟨hf_210, rfl⟩ := hw
      have hP : va_P (dC, dI) vwCl (rW h cs gI gL gA gQ) H := hP
      have hD : va_D A0 (rW h cs gI gL gA gQ) := hD
      obtain rfl := hf_210
      refine lv_icmp_ge (tgt := 95) hx hb dX10_nearest_38 (by decide) (fun c9 => False.elim (by revert c9; decide +kernel)) (fun _ => ?_)
      refine lv_iload hx hb dX10_nearest_41 (lv_at hl 1 rfl) ?_
      refine lv_aload_n hx hb dX10_nearest_43 rfl (lv_at hl 4 rfl) ?_
      refine va_get (D := (dC, dI)) (ci := 10) (v := .ref (h 16)) (C := RX10) (T := TX10) (N := 28) hx hb hts hinX10 hown hK hP 0 rfl rfl 16 (by decide) (hts (.fieldLink RX10 38 "MixedWordsModel" "offs" "[I") (by decide +kernel)) (fun _ h9 => h9) rfl dX10_nearest_44 ?_
      refine lv_iload hx hb dX10_nearest_47 (lv_at hl 0 rfl) ?_
      refine xa_iald hx hb hK hP 7 0 rfl rfl (by omega) (by decide) dX10_nearest_49 ?_
      refine xt_i (y := nI 0) (by decide +kernel) ?_
      refine lv_aload_n hx hb dX10_nearest_50 rfl (lv_at hl 4 rfl) ?_
      refine va_get (D := (dC, dI)) (ci := 10) (v := .ref (h 16)) (C := RX10) (T := TX10) (N := 28) hx hb hts hinX10 hown hK hP 0 rfl rfl 16 (by decide) (hts (.fieldLink RX10 38 "MixedWordsModel" "offs" "[I") (by decide +kernel)) (fun _ h9 => h9) rfl dX10_nearest_51 ?_
      refine lv_iload_n hx hb dX10_nearest_54 rfl (lv_at hl 2 rfl) ?_
      refine xa_iald hx hb hK hP 7 0 rfl rfl (by omega) (by decide) dX10_nearest_55 ?_
      refine xt_i (y := nI 0) (by decide +kernel) ?_
      refine lv_icmp_lt (tgt := 81) hx hb dX10_nearest_56 (by decide) (fun c9 => False.elim (by revert c9; decide +kernel)) (fun _ => ?_)
      refine lv_aload_n hx hb dX10_nearest_59 rfl (lv_at hl 4 rfl) ?_
      refine va_get (D := (dC, dI)) (ci := 10) (v := .ref (h 16)) (C := RX10) (T := TX10) (N := 28) hx hb hts hinX10 hown hK hP 0 rfl rfl 16 (by decide) (hts (.fieldLink RX10 38 "MixedWordsModel" "offs" "[I") (by decide +kernel)) (fun _ h9 => h9) rfl dX10_nearest_60 ?_
      refine lv_iload hx hb dX10_nearest_63 (lv_at hl 0 rfl) ?_
      refine xa_iald hx hb hK hP 7 0 rfl rfl (by omega) (by decide) dX10_nearest_65 ?_
      refine xt_i (y := nI 0) (by decide +kernel) ?_
      refine lv_aload_n hx hb dX10_nearest_66 rfl (lv_at hl 4 rfl) ?_
      refine va_get (D := (dC, dI)) (ci := 10) (v := .ref (h 16)) (C := RX10) (T := TX10) (N := 28) hx hb hts hinX10 hown hK hP 0 rfl rfl 16 (by decide) (hts (.fieldLink RX10 38 "MixedWordsModel" "offs" "[I") (by decide +kernel)) (fun _ h9 => h9) rfl dX10_nearest_67 ?_
      refine lv_iload_n hx hb dX10_nearest_70 rfl (lv_at hl 2 rfl) ?_
      refine xa_iald hx hb hK hP 7 0 rfl rfl (by omega) (by decide) dX10_nearest_71 ?_
      refine xt_i (y := nI 0) (by decide +kernel) ?_
      refine lv_icmp_ne (tgt := 85) hx hb dX10_nearest_72 (by decide) (fun c9 => False.elim (by revert c9; decide +kernel)) (fun _ => ?_)
      refine lv_iload hx hb dX10_nearest_75 (lv_at hl 0 rfl) ?_
      refine lv_iload_n hx hb dX10_nearest_77 rfl (lv_at hl 2 rfl) ?_
      refine lv_icmp_ge (tgt := 85) hx hb dX10_nearest_78 (by decide) (fun c9 => False.elim (by revert c9; decide +kernel)) (fun _ => ?_)
      refine lv_iconst (v := nI 1) hx hb dX10_nearest_81 (by decide) ?_
      refine lv_goto (tgt := 86) hx hb dX10_nearest_82 (by decide) ?_
      refine lv_iadd hx hb dX10_nearest_86 ?_
      refine xt_i (y := nI 1) (by decide +kernel) ?_
      refine lv_istore (lv' := [(4, .int (nI 1)), (5, .int (nI 0)), (3, .int (nI 2)), (2, .int (-1)), (0, .ref (h 0)), (1, .int (nI 2))]) hx hb dX10_nearest_87 hl (by decide) rfl (fun ls hl => ?_)
      refine lv_iinc (v := nI 1) (lv' := [(5, .int (nI 1)), (4, .int (nI 1)), (3, .int (nI 2)), (2, .int (-1)), (0, .ref (h 0)), (1, .int (nI 2))]) hx hb dX10_nearest_89 hl (k := 1) rfl (by decide +kernel) (by decide) rfl (fun ls hl => ?_)
      refine lv_goto (tgt := 32) hx hb dX10_nearest_92 (by decide) ?_
      refine lv_iload hx hb dX10_nearest_32 (lv_at hl 0 rfl) ?_
      refine lv_aload_n hx hb dX10_nearest_34 rfl (lv_at hl 4 rfl) ?_
      refine xj_i (wc := (wD_177 h cs gI gL gA gQ)) (wr := ([] : va_W)) hP hD hS hA [0, 1, 2, 3, 4, 5, 6, 7, 8, 9, 10, 11, 12, 13, 14, 15, 16] [] rfl rfl (by decide) (by decide) (va_runV (As := []) (rest := [.int (nI 1)]) ⟨hx, hb, hml, hown, hts⟩ (a_X10_words_179 l dC dI h cs H.size gI gL gA gQ ) (cwV 0 hts gX10_nearest_X10_words rfl rfl rfl (by decide +kernel) ⟨Nat.le_of_ble_eq_true rfl, Nat.le_of_ble_eq_true rfl⟩) (xpV (wc := (wD_177 h cs gI gL gA gQ)) hP hD hK hN [0, 1, 2, 3, 4, 5, 6, 7, 8, 9, 10, 11, 12, 13, 14, 15, 16] rfl (by decide) 0 (ci := 10) rfl rfl _) rfl rfl hl.1 rfl (lv_room (Nat.le_of_ble_eq_true rfl)) dX10_nearest_35 ⟨Nat.zero_le _, Nat.zero_le _⟩) (fun r_212 u_211 H locs hw hP hD hS => ?_)
      obtain ⟨hf_213, rfl⟩ := hw
      have hP : va_P (dC, dI) vwCl (rW h cs gI gL gA gQ) H := hP
      have hD : va_D A0 (rW h cs gI gL gA gQ) := hD
      obtain rfl := hf_213
      refine lv_icmp_ge (tgt := 95) hx hb dX10_nearest_38 (by decide) (fun c9 => False.elim (by revert c9; decide +kernel)) (fun _ => ?_)
      refine lv_iload hx hb dX10_nearest_41 (lv_at hl 1 rfl) ?_
      refine lv_aload_n hx hb dX10_nearest_43 rfl (lv_at hl 4 rfl) ?_
      refine va_get (D := (dC, dI)) (ci := 10) (v := .ref (h 16)) (C := RX10) (T := TX10) (N := 28) hx hb hts hinX10 hown hK hP 0 rfl rfl 16 (by decide) (hts (.fieldLink RX10 38 "MixedWordsModel" "offs" "[I") (by decide +kernel)) (fun _ h9 => h9) rfl dX10_nearest_44 ?_
      refine lv_iload hx hb dX10_nearest_47 (lv_at hl 0 rfl) ?_
      refine xa_iald hx hb hK hP 7 0 rfl rfl (by omega) (by decide) dX10_nearest_49 ?_
      refine xt_i (y := nI 0) (by decide +kernel) ?_
      refine lv_aload_n hx hb dX10_nearest_50 rfl (lv_at hl 4 rfl) ?_
      refine va_get (D := (dC, dI)) (ci := 10) (v := .ref (h 16)) (C := RX10) (T := TX10) (N := 28) hx hb hts hinX10 hown hK hP 0 rfl rfl 16 (by decide) (hts (.fieldLink RX10 38 "MixedWordsModel" "offs" "[I") (by decide +kernel)) (fun _ h9 => h9) rfl dX10_nearest_51 ?_
      refine lv_iload_n hx hb dX10_nearest_54 rfl (lv_at hl 2 rfl) ?_
      refine xa_iald hx hb hK hP 7 0 rfl rfl (by omega) (by decide) dX10_nearest_55 ?_
      refine xt_i (y := nI 0) (by decide +kernel) ?_
      refine lv_icmp_lt (tgt := 81) hx hb dX10_nearest_56 (by decide) (fun c9 => False.elim (by revert c9; decide +kernel)) (fun _ => ?_)
      refine lv_aload_n hx hb dX10_nearest_59 rfl (lv_at hl 4 rfl) ?_
      refine va_get (D := (dC, dI)) (ci := 10) (v := .ref (h 16)) (C := RX10) (T := TX10) (N := 28) hx hb hts hinX10 hown hK hP 0 rfl rfl 16 (by decide) (hts (.fieldLink RX10 38 "MixedWordsModel" "offs" "[I") (by decide +kernel)) (fun _ h9 => h9) rfl dX10_nearest_60 ?_
      refine lv_iload hx hb dX10_nearest_63 (lv_at hl 0 rfl) ?_
      refine xa_iald hx hb hK hP 7 0 rfl rfl (by omega) (by decide) dX10_nearest_65 ?_
      refine xt_i (y := nI 0) (by decide +kernel) ?_
      refine lv_aload_n hx hb dX10_nearest_66 rfl (lv_at hl 4 rfl) ?_
      refine va_get (D := (dC, dI)) (ci := 10) (v := .ref (h 16)) (C := RX10) (T := TX10) (N := 28) hx hb hts hinX10 hown hK hP 0 rfl rfl 16 (by decide) (hts (.fieldLink RX10 38 "MixedWordsModel" "offs" "[I") (by decide +kernel)) (fun _ h9 => h9) rfl dX10_nearest_67 ?_
      refine lv_iload_n hx hb dX10_nearest_70 rfl (lv_at hl 2 rfl) ?_
      refine xa_iald hx hb hK hP 7 0 rfl rfl (by omega) (by decide) dX10_nearest_71 ?_
      refine xt_i (y := nI 0) (by decide +kernel) ?_
      refine lv_icmp_ne (tgt := 85) hx hb dX10_nearest_72 (by decide) (fun c9 => False.elim (by revert c9; decide +kernel)) (fun _ => ?_)
      refine lv_iload hx hb dX10_nearest_75 (lv_at hl 0 rfl) ?_
      refine lv_iload_n hx hb dX10_nearest_77 rfl (lv_at hl 2 rfl) ?_
      refine lv_icmp_ge (tgt := 85) hx hb dX10_nearest_78 (by decide) (fun c9 => False.elim (by revert c9; decide +kernel)) (fun _ => ?_)
      refine lv_iconst (v := nI 1) hx hb dX10_nearest_81 (by decide) ?_
      refine lv_goto (tgt := 86) hx hb dX10_nearest_82 (by decide) ?_
      refine lv_iadd hx hb dX10_nearest_86 ?_
      refine xt_i (y := nI 2) (by decide +kernel) ?_
      refine lv_istore (lv' := [(4, .int (nI 2)), (5, .int (nI 1)), (3, .int (nI 2)), (2, .int (-1)), (0, .ref (h 0)), (1, .int (nI 2))]) hx hb dX10_nearest_87 hl (by decide) rfl (fun ls hl => ?_)
      refine lv_iinc (v := nI 2) (lv' := [(5, .int (nI 2)), (4, .int (nI 2)), (3, .int (nI 2)), (2, .int (-1)), (0, .ref (h 0)), (1, .int (nI 2))]) hx hb dX10_nearest_89 hl (k := 1) rfl (by decide +kernel) (by decide) rfl (fun ls hl => ?_)
      refine lv_goto (tgt := 32) hx hb dX10_nearest_92 (by decide) ?_
      refine lv_iload hx hb dX10_nearest_32 (lv_at hl 0 rfl) ?_
      refine lv_aload_n hx hb dX10_nearest_34 rfl (lv_at hl 4 rfl) ?_
      refine xj_i (wc := (wD_177 h cs gI gL gA gQ)) (wr := ([] : va_W)) hP hD hS hA [0, 1, 2, 3, 4, 5, 6, 7, 8, 9, 10, 11, 12, 13, 14, 15, 16] [] rfl rfl (by decide) (by decide) (va_runV (As := []) (rest := [.int (nI 2)]) ⟨hx, hb, hml, hown, hts⟩ (a_X10_words_179 l dC dI h cs H.size gI gL gA gQ ) (cwV 0 hts gX10_nearest_X10_words rfl rfl rfl (by decide +kernel) ⟨Nat.le_of_ble_eq_true rfl, Nat.le_of_ble_eq_true rfl⟩) (xpV (wc := (wD_177 h cs gI gL gA gQ)) hP hD hK hN [0, 1, 2, 3, 4, 5, 6, 7, 8, 9, 10, 11, 12, 13, 14, 15, 16] rfl (by decide) 0 (ci := 10) rfl rfl _) rfl rfl hl.1 rfl (lv_room (Nat.le_of_ble_eq_true rfl)) dX10_nearest_35 ⟨Nat.zero_le _, Nat.zero_le _⟩) (fun r_215 u_214 H locs hw hP hD hS => ?_)
      obtain ⟨hf_216, rfl⟩ := hw
      have hP : va_P (dC, dI) vwCl (rW h cs gI gL gA gQ) H := hP
      have hD : va_D A0 (rW h cs gI gL gA gQ) := hD
      obtain rfl := hf_216
      refine lv_icmp_ge (tgt := 95) hx hb dX10_nearest_38 (by decide) (fun c9 => False.elim (by revert c9; decide +kernel)) (fun _ => ?_)
      refine lv_iload hx hb dX10_nearest_41 (lv_at hl 1 rfl) ?_
      refine lv_aload_n hx hb dX10_nearest_43 rfl (lv_at hl 4 rfl) ?_
      refine va_get (D := (dC, dI)) (ci := 10) (v := .ref (h 16)) (C := RX10) (T := TX10) (N := 28) hx hb hts hinX10 hown hK hP 0 rfl rfl 16 (by decide) (hts (.fieldLink RX10 38 "MixedWordsModel" "offs" "[I") (by decide +kernel)) (fun _ h9 => h9) rfl dX10_nearest_44 ?_
      refine lv_iload hx hb dX10_nearest_47 (lv_at hl 0 rfl) ?_
      refine xa_iald hx hb hK hP 7 0 rfl rfl (by omega) (by decide) dX10_nearest_49 ?_
      refine xt_i (y := nI 0) (by decide +kernel) ?_
      refine lv_aload_n hx hb dX10_nearest_50 rfl (lv_at hl 4 rfl) ?_
      refine va_get (D := (dC, dI)) (ci := 10) (v := .ref (h 16)) (C := RX10) (T := TX10) (N := 28) hx hb hts hinX10 hown hK hP 0 rfl rfl 16 (by decide) (hts (.fieldLink RX10 38 "MixedWordsModel" "offs" "[I") (by decide +kernel)) (fun _ h9 => h9) rfl dX10_nearest_51 ?_
      refine lv_iload_n hx hb dX10_nearest_54 rfl (lv_at hl 2 rfl) ?_
      refine xa_iald hx hb hK hP 7 0 rfl rfl (by omega) (by decide) dX10_nearest_55 ?_
      refine xt_i (y := nI 0) (by decide +kernel) ?_
      refine lv_icmp_lt (tgt := 81) hx hb dX10_nearest_56 (by decide) (fun c9 => False.elim (by revert c9; decide +kernel)) (fun _ => ?_)
      refine lv_aload_n hx hb dX10_nearest_59 rfl (lv_at hl 4 rfl) ?_
      refine va_get (D := (dC, dI)) (ci := 10) (v := .ref (h 16)) (C := RX10) (T := TX10) (N := 28) hx hb hts hinX10 hown hK hP 0 rfl rfl 16 (by decide) (hts (.fieldLink RX10 38 "MixedWordsModel" "offs" "[I") (by decide +kernel)) (fun _ h9 => h9) rfl dX10_nearest_60 ?_
      refine lv_iload hx hb dX10_nearest_63 (lv_at hl 0 rfl) ?_
      refine xa_iald hx hb hK hP 7 0 rfl rfl (by omega) (by decide) dX10_nearest_65 ?_
      refine xt_i (y := nI 0) (by decide +kernel) ?_
      refine lv_aload_n hx hb dX10_nearest_66 rfl (lv_at hl 4 rfl) ?_
      refine va_get (D := (dC, dI)) (ci := 10) (v := .ref (h 16)) (C := RX10) (T := TX10) (N := 28) hx hb hts hinX10 hown hK hP 0 rfl rfl 16 (by decide) (hts (.fieldLink RX10 38 "MixedWordsModel" "offs" "[I") (by decide +kernel)) (fun _ h9 => h9) rfl dX10_nearest_67 ?_
      refine lv_iload_n hx hb dX10_nearest_70 rfl (lv_at hl 2 rfl) ?_
      refine xa_iald hx hb hK hP 7 0 rfl rfl (by omega) (by decide) dX10_nearest_71 ?_
      refine xt_i (y := nI 0) (by decide +kernel) ?_
      refine lv_icmp_ne (tgt := 85) hx hb dX10_nearest_72 (by decide) (fun c9 => False.elim (by revert c9; decide +kernel)) (fun _ => ?_)
      refine lv_iload hx hb dX10_nearest_75 (lv_at hl 0 rfl) ?_
      refine lv_iload_n hx hb dX10_nearest_77 rfl (lv_at hl 2 rfl) ?_
      refine lv_icmp_ge (tgt := 85) hx hb dX10_nearest_78 (by decide) (fun _ => ?_) (fun c9 => False.elim (by revert c9; decide +kernel))
      refine lv_iconst (v := nI 0) hx hb dX10_nearest_85 (by decide) ?_
      refine lv_iadd hx hb dX10_nearest_86 ?_
      refine xt_i (y := nI 2) (by decide +kernel) ?_
      refine lv_istore (lv' := [(4, .int (nI 2)), (5, .int (nI 2)), (3, .int (nI 2)), (2, .int (-1)), (0, .ref (h 0)), (1, .int (nI 2))]) hx hb dX10_nearest_87 hl (by decide) rfl (fun ls hl => ?_)
      refine lv_iinc (v := nI 3) (lv' := [(5, .int (nI 3)), (4, .int (nI 2)), (3, .int (nI 2)), (2, .int (-1)), (0, .ref (h 0)), (1, .int (nI 2))]) hx hb dX10_nearest_89 hl (k := 1) rfl (by decide +kernel) (by decide) rfl (fun ls hl => ?_)
      refine lv_goto (tgt := 32) hx hb dX10_nearest_92 (by decide) ?_
      refine lv_iload hx hb dX10_nearest_32 (lv_at hl 0 rfl) ?_
      refine lv_aload_n hx hb dX10_nearest_34 rfl (lv_at hl 4 rfl) ?_
      refine xj_i (wc := (wD_177 h cs gI gL gA gQ)) (wr := ([] : va_W)) hP hD hS hA [0, 1, 2, 3, 4, 5, 6, 7, 8, 9, 10, 11, 12, 13, 14, 15, 16] [] rfl rfl (by decide) (by decide) (va_runV (As := []) (rest := [.int (nI 3)]) ⟨hx, hb, hml, hown, hts⟩ (a_X10_words_179 l dC dI h cs H.size gI gL gA gQ ) (cwV 0 hts gX10_nearest_X10_words rfl rfl rfl (by decide +kernel) ⟨Nat.le_of_ble_eq_true rfl, Nat.le_of_ble_eq_true rfl⟩) (xpV (wc := (wD_177 h cs gI gL gA gQ)) hP hD hK hN [0, 1, 2, 3, 4, 5, 6, 7, 8, 9, 10, 11, 12, 13, 14, 15, 16] rfl (by decide) 0 (ci := 10) rfl rfl _) rfl rfl hl.1 rfl (lv_room (Nat.le_of_ble_eq_true rfl)) dX10_nearest_35 ⟨Nat.zero_le _, Nat.zero_le _⟩) (fun r_218 u_217 H locs hw hP hD hS => ?_)
      obtain ⟨hf_219, rfl⟩ := hw
      have hP : va_P (dC, dI) vwCl (rW h cs gI gL gA gQ) H := hP
      have hD : va_D A0 (rW h cs gI gL gA gQ) := hD
      obtain rfl := hf_219
      refine lv_icmp_ge (tgt := 95) hx hb dX10_nearest_38 (by decide) (fun c9 => False.elim (by revert c9; decide +kernel)) (fun _ => ?_)
      refine lv_iload hx hb dX10_nearest_41 (lv_at hl 1 rfl) ?_
      refine lv_aload_n hx hb dX10_nearest_43 rfl (lv_at hl 4 rfl) ?_
      refine va_get (D := (dC, dI)) (ci := 10) (v := .ref (h 16)) (C := RX10) (T := TX10) (N := 28) hx hb hts hinX10 hown hK hP 0 rfl rfl 16 (by decide) (hts (.fieldLink RX10 38 "MixedWordsModel" "offs" "[I") (by decide +kernel)) (fun _ h9 => h9) rfl dX10_nearest_44 ?_
      refine lv_iload hx hb dX10_nearest_47 (lv_at hl 0 rfl) ?_
      refine xa_iald hx hb hK hP 7 0 rfl rfl (by omega) (by decide) dX10_nearest_49 ?_
      refine xt_i (y := nI 0) (by decide +kernel) ?_
      refine lv_aload_n hx hb dX10_nearest_50 rfl (lv_at hl 4 rfl) ?_
      refine va_get (D := (dC, dI)) (ci := 10) (v := .ref (h 16)) (C := RX10) (T := TX10) (N := 28) hx hb hts hinX10 hown hK hP 0 rfl rfl 16 (by decide) (hts (.fieldLink RX10 38 "MixedWordsModel" "offs" "[I") (by decide +kernel)) (fun _ h9 => h9) rfl dX10_nearest_51 ?_
      refine lv_iload_n hx hb dX10_nearest_54 rfl (lv_at hl 2 rfl) ?_
      refine xa_iald hx hb hK hP 7 0 rfl rfl (by omega) (by decide) dX10_nearest_55 ?_
      refine xt_i (y := nI 0) (by decide +kernel) ?_
      refine lv_icmp_lt (tgt := 81) hx hb dX10_nearest_56 (by decide) (fun c9 => False.elim (by revert c9; decide +kernel)) (fun _ => ?_)
      refine lv_aload_n hx hb dX10_nearest_59 rfl (lv_at hl 4 rfl) ?_
      refine va_get (D := (dC, dI)) (ci := 10) (v := .ref (h 16)) (C := RX10) (T := TX10) (N := 28) hx hb hts hinX10 hown hK hP 0 rfl rfl 16 (by decide) (hts (.fieldLink RX10 38 "MixedWordsModel" "offs" "[I") (by decide +kernel)) (fun _ h9 => h9) rfl dX10_nearest_60 ?_
      refine lv_iload hx hb dX10_nearest_63 (lv_at hl 0 rfl) ?_
      refine xa_iald hx hb hK hP 7 0 rfl rfl (by omega) (by decide) dX10_nearest_65 ?_
      refine xt_i (y := nI 0) (by decide +kernel) ?_
      refine lv_aload_n hx hb dX10_nearest_66 rfl (lv_at hl 4 rfl) ?_
      refine va_get (D := (dC, dI)) (ci := 10) (v := .ref (h 16)) (C := RX10) (T := TX10) (N := 28) hx hb hts hinX10 hown hK hP 0 rfl rfl 16 (by decide) (hts (.fieldLink RX10 38 "MixedWordsModel" "offs" "[I") (by decide +kernel)) (fun _ h9 => h9) rfl dX10_nearest_67 ?_
      refine lv_iload_n hx hb dX10_nearest_70 rfl (lv_at hl 2 rfl) ?_
      refine xa_iald hx hb hK hP 7 0 rfl rfl (by omega) (by decide) dX10_nearest_71 ?_
      refine xt_i (y := nI 0) (by decide +kernel) ?_
      refine lv_icmp_ne (tgt := 85) hx hb dX10_nearest_72 (by decide) (fun c9 => False.elim (by revert c9; decide +kernel)) (fun _ => ?_)
      refine lv_iload hx hb dX10_nearest_75 (lv_at hl 0 rfl) ?_
      refine lv_iload_n hx hb dX10_nearest_77 rfl (lv_at hl 2 rfl) ?_
      refine lv_icmp_ge (tgt := 85) hx hb dX10_nearest_78 (by decide) (fun _ => ?_) (fun c9 => False.elim (by revert c9; decide +kernel))
      refine lv_iconst (v := nI 0) hx hb dX10_nearest_85 (by decide) ?_
      refine lv_iadd hx hb dX10_nearest_86 ?_
      refine xt_i (y := nI 2) (by decide +kernel) ?_
      refine lv_istore (lv' := [(4, .int (nI 2)), (5, .int (nI 3)), (3, .int (nI 2)), (2, .int (-1)), (0, .ref (h 0)), (1, .int (nI 2))]) hx hb dX10_nearest_87 hl (by decide) rfl (fun ls hl => ?_)
      refine lv_iinc (v := nI 4) (lv' := [(5, .int (nI 4)), (4, .int (nI 2)), (3, .int (nI 2)), (2, .int (-1)), (0, .ref (h 0)), (1, .int (nI 2))]) hx hb dX10_nearest_89 hl (k := 1) rfl (by decide +kernel) (by decide) rfl (fun ls hl => ?_)
      refine lv_goto (tgt := 32) hx hb dX10_nearest_92 (by decide) ?_
      refine lv_iload hx hb dX10_nearest_32 (lv_at hl 0 rfl) ?_
      refine lv_aload_n hx hb dX10_nearest_34 rfl (lv_at hl 4 rfl) ?_
      refine xj_i (wc := (wD_177 h cs gI gL gA gQ)) (wr := ([] : va_W)) hP hD hS hA [0, 1, 2, 3, 4, 5, 6, 7, 8, 9, 10, 11, 12, 13, 14, 15, 16] [] rfl rfl (by decide) (by decide) (va_runV (As := []) (rest := [.int (nI 4)]) ⟨hx, hb, hml, hown, hts⟩ (a_X10_words_179 l dC dI h cs H.size gI gL gA gQ ) (cwV 0 hts gX10_nearest_X10_words rfl rfl rfl (by decide +kernel) ⟨Nat.le_of_ble_eq_true rfl, Nat.le_of_ble_eq_true rfl⟩) (xpV (wc := (wD_177 h cs gI gL gA gQ)) hP hD hK hN [0, 1, 2, 3, 4, 5, 6, 7, 8, 9, 10, 11, 12, 13, 14, 15, 16] rfl (by decide) 0 (ci := 10) rfl rfl _) rfl rfl hl.1 rfl (lv_room (Nat.le_of_ble_eq_true rfl)) dX10_nearest_35 ⟨Nat.zero_le _, Nat.zero_le _⟩) (fun r_221 u_220 H locs hw hP hD hS => ?_)
      obtain ⟨hf_222, rfl⟩ := hw
      have hP : va_P (dC, dI) vwCl (rW h cs gI gL gA gQ) H := hP
      have hD : va_D A0 (rW h cs gI gL gA gQ) := hD
      obtain rfl := hf_222
      refine lv_icmp_ge (tgt := 95) hx hb dX10_nearest_38 (by decide) (fun _ => ?_) (fun c9 => False.elim (by revert c9; decide +kernel))
      refine lv_iload hx hb dX10_nearest_95 (lv_at hl 1 rfl) ?_
      refine lv_iload_n hx hb dX10_nearest_97 rfl (lv_at hl 5 rfl) ?_
      refine lv_icmp_ne (tgt := 105) hx hb dX10_nearest_98 (by decide) (fun c9 => False.elim (by revert c9; decide +kernel)) (fun _ => ?_)
      refine lv_iload_n hx hb dX10_nearest_101 rfl (lv_at hl 2 rfl) ?_
      refine lv_goto (tgt := 106) hx hb dX10_nearest_102 (by decide) ?_
      refine lv_istore_n (lv' := [(2, .int (nI 2)), (5, .int (nI 4)), (4, .int (nI 2)), (3, .int (nI 2)), (0, .ref (h 0)), (1, .int (nI 2))]) hx hb dX10_nearest_106 rfl hl (by decide) rfl (fun ls hl => ?_)
      refine lv_iinc (v := nI 3) (lv' := [(3, .int (nI 3)), (2, .int (nI 2)), (5, .int (nI 4)), (4, .int (nI 2)), (0, .ref (h 0)), (1, .int (nI 2))]) hx hb dX10_nearest_107 hl (k := 3) rfl (by decide +kernel) (by decide) rfl (fun ls hl => ?_)
      refine lv_goto (tgt := 18) hx hb dX10_nearest_110 (by decide) ?_
      refine lv_iload_n hx hb dX10_nearest_18 rfl (lv_at hl 0 rfl) ?_
      refine lv_aload_n hx hb dX10_nearest_19 rfl (lv_at hl 4 rfl) ?_
      refine xj_i (wc := (wD_177 h cs gI gL gA gQ)) (wr := ([] : va_W)) hP hD hS hA [0, 1, 2, 3, 4, 5, 6, 7, 8, 9, 10, 11, 12, 13, 14, 15, 16] [] rfl rfl (by decide) (by decide) (va_runV (As := []) (rest := [.int (nI 3)]) ⟨hx, hb, hml, hown, hts⟩ (a_X10_words_179 l dC dI h cs H.size gI gL gA gQ ) (cwV 0 hts gX10_nearest_X10_words rfl rfl rfl (by decide +kernel) ⟨Nat.le_of_ble_eq_true rfl, Nat.le_of_ble_eq_true rfl⟩) (xpV (wc := (wD_177 h cs gI gL gA gQ)) hP hD hK hN [0, 1, 2, 3, 4, 5, 6, 7, 8, 9, 10, 11, 12, 13, 14, 15, 16] rfl (by decide) 0 (ci := 10) rfl rfl _) rfl rfl hl.1 rfl (lv_room (Nat.le_of_ble_eq_true rfl)) dX10_nearest_20 ⟨Nat.zero_le _, Nat.zero_le _⟩) (fun r_224 u_223 H locs hw hP hD hS => ?_)
      obtain ⟨hf_225, rfl⟩ := hw
      have hP : va_P (dC, dI) vwCl (rW h cs gI gL gA gQ) H := hP
      have hD : va_D A0 (rW h cs gI gL gA gQ) := hD
      obtain rfl := hf_225
      refine lv_icmp_ge (tgt := 113) hx hb dX10_nearest_23 (by decide) (fun c9 => False.elim (by revert c9; decide +kernel)) (fun _ => ?_)
      refine lv_iconst (v := nI 0) hx hb dX10_nearest_26 (by decide) ?_
      refine lv_istore (lv' := [(4, .int (nI 0)), (3, .int (nI 3)), (2, .int (nI 2)), (5, .int (nI 4)), (0, .ref (h 0)), (1, .int (nI 2))]) hx hb dX10_nearest_27 hl (by decide) rfl (fun ls hl => ?_)
      refine lv_iconst (v := nI 0) hx hb dX10_nearest_29 (by decide) ?_
      refine lv_istore (lv' := [(5, .int (nI 0)), (4, .int (nI 0)), (3, .int (nI 3)), (2, .int (nI 2)), (0, .ref (h 0)), (1, .int (nI 2))]) hx hb dX10_nearest_30 hl (by decide) rfl (fun ls hl => ?_)
      refine lv_iload hx hb dX10_nearest_32 (lv_at hl 0 rfl) ?_
      refine lv_aload_n hx hb dX10_nearest_34 rfl (lv_at hl 4 rfl) ?_
      refine xj_i (wc := (wD_177 h cs gI gL gA gQ)) (wr := ([] : va_W)) hP hD hS hA [0, 1, 2, 3, 4, 5, 6, 7, 8, 9, 10, 11, 12, 13, 14, 15, 16] [] rfl rfl (by decide) (by decide) (va_runV (As := []) (rest := [.int (nI 0)]) ⟨hx, hb, hml, hown, hts⟩ (a_X10_words_179 l dC dI h cs H.size gI gL gA gQ ) (cwV 0 hts gX10_nearest_X10_words rfl rfl rfl (by decide +kernel) ⟨Nat.le_of_ble_eq_true rfl, Nat.le_of_ble_eq_true rfl⟩) (xpV (wc := (wD_177 h cs gI gL gA gQ)) hP hD hK hN [0, 1, 2, 3, 4, 5, 6, 7, 8, 9, 10, 11, 12, 13, 14, 15, 16] rfl (by decide) 0 (ci := 10) rfl rfl _) rfl rfl hl.1 rfl (lv_room (Nat.le_of_ble_eq_true rfl)) dX10_nearest_35 ⟨Nat.zero_le _, Nat.zero_le _⟩) (fun r_227 u_226 H locs hw hP hD hS => ?_)
      obtain ⟨hf_228, rfl⟩ := hw
      have hP : va_P (dC, dI) vwCl (rW h cs gI gL gA gQ) H := hP
      have hD : va_D A0 (rW h cs gI gL gA gQ) := hD
      obtain rfl := hf_228
      refine lv_icmp_ge (tgt := 95) hx hb dX10_nearest_38 (by decide) (fun c9 => False.elim (by revert c9; decide +kernel)) (fun _ => ?_)
      refine lv_iload hx hb dX10_nearest_41 (lv_at hl 1 rfl) ?_
      refine lv_aload_n hx hb dX10_nearest_43 rfl (lv_at hl 4 rfl) ?_
      refine va_get (D := (dC, dI)) (ci := 10) (v := .ref (h 16)) (C := RX10) (T := TX10) (N := 28) hx hb hts hinX10 hown hK hP 0 rfl rfl 16 (by decide) (hts (.fieldLink RX10 38 "MixedWordsModel" "offs" "[I") (by decide +kernel)) (fun _ h9 => h9) rfl dX10_nearest_44 ?_
      refine lv_iload hx hb dX10_nearest_47 (lv_at hl 0 rfl) ?_
      refine xa_iald hx hb hK hP 7 0 rfl rfl (by omega) (by decide) dX10_nearest_49 ?_
      refine xt_i (y := nI 0) (by decide +kernel) ?_
      refine lv_aload_n hx hb dX10_nearest_50 rfl (lv_at hl 4 rfl) ?_
      refine va_get (D := (dC, dI)) (ci := 10) (v := .ref (h 16)) (C := RX10) (T := TX10) (N := 28) hx hb hts hinX10 hown hK hP 0 rfl rfl 16 (by decide) (hts (.fieldLink RX10 38 "MixedWordsModel" "offs" "[I") (by decide +kernel)) (fun _ h9 => h9) rfl dX10_nearest_51 ?_
      refine lv_iload_n hx hb dX10_nearest_54 rfl (lv_at hl 2 rfl) ?_
      refine xa_iald hx hb hK hP 7 0 rfl rfl (by omega) (by decide) dX10_nearest_55 ?_
      refine xt_i (y := nI 0) (by decide +kernel) ?_
      refine lv_icmp_lt (tgt := 81) hx hb dX10_nearest_56 (by decide) (fun c9 => False.elim (by revert c9; decide +kernel)) (fun _ => ?_)
      refine lv_aload_n hx hb dX10_nearest_59 rfl (lv_at hl 4 rfl) ?_
      refine va_get (D := (dC, dI)) (ci := 10) (v := .ref (h 16)) (C := RX10) (T := TX10) (N := 28) hx hb hts hinX10 hown hK hP 0 rfl rfl 16 (by decide) (hts (.fieldLink RX10 38 "MixedWordsModel" "offs" "[I") (by decide +kernel)) (fun _ h9 => h9) rfl dX10_nearest_60 ?_
      refine lv_iload hx hb dX10_nearest_63 (lv_at hl 0 rfl) ?_
      refine xa_iald hx hb hK hP 7 0 rfl rfl (by omega) (by decide) dX10_nearest_65 ?_
      refine xt_i (y := nI 0) (by decide +kernel) ?_
      refine lv_aload_n hx hb dX10_nearest_66 rfl (lv_at hl 4 rfl) ?_
      refine va_get (D := (dC, dI)) (ci := 10) (v := .ref (h 16)) (C := RX10) (T := TX10) (N := 28) hx hb hts hinX10 hown hK hP 0 rfl rfl 16 (by decide) (hts (.fieldLink RX10 38 "MixedWordsModel" "offs" "[I") (by decide +kernel)) (fun _ h9 => h9) rfl dX10_nearest_67 ?_
      refine lv_iload_n hx hb dX10_nearest_70 rfl (lv_at hl 2 rfl) ?_
      refine xa_iald hx hb hK hP 7 0 rfl rfl (by omega) (by decide) dX10_nearest_71 ?_
      refine xt_i (y := nI 0) (by decide +kernel) ?_
      refine lv_icmp_ne (tgt := 85) hx hb dX10_nearest_72 (by decide) (fun c9 => False.elim (by revert c9; decide +kernel)) (fun _ => ?_)
      refine lv_iload hx hb dX10_nearest_75 (lv_at hl 0 rfl) ?_
      refine lv_iload_n hx hb dX10_nearest_77 rfl (lv_at hl 2 rfl) ?_
      refine lv_icmp_ge (tgt := 85) hx hb dX10_nearest_78 (by decide) (fun c9 => False.elim (by revert c9; decide +kernel)) (fun _ => ?_)
      refine lv_iconst (v := nI 1) hx hb dX10_nearest_81 (by decide) ?_
      refine lv_goto (tgt := 86) hx hb dX10_nearest_82 (by decide) ?_
      refine lv_iadd hx hb dX10_nearest_86 ?_
      refine xt_i (y := nI 1) (by decide +kernel) ?_
      refine lv_istore (lv' := [(4, .int (nI 1)), (5, .int (nI 0)), (3, .int (nI 3)), (2, .int (nI 2)), (0, .ref (h 0)), (1, .int (nI 2))]) hx hb dX10_nearest_87 hl (by decide) rfl (fun ls hl => ?_)
      refine lv_iinc (v := nI 1) (lv' := [(5, .int (nI 1)), (4, .int (nI 1)), (3, .int (nI 3)), (2, .int (nI 2)), (0, .ref (h 0)), (1, .int (nI 2))]) hx hb dX10_nearest_89 hl (k := 1) rfl (by decide +kernel) (by decide) rfl (fun ls hl => ?_)
      refine lv_goto (tgt := 32) hx hb dX10_nearest_92 (by decide) ?_
      refine lv_iload hx hb dX10_nearest_32 (lv_at hl 0 rfl) ?_
      refine lv_aload_n hx hb dX10_nearest_34 rfl (lv_at hl 4 rfl) ?_
      refine xj_i (wc := (wD_177 h cs gI gL gA gQ)) (wr := ([] : va_W)) hP hD hS hA [0, 1, 2, 3, 4, 5, 6, 7, 8, 9, 10, 11, 12, 13, 14, 15, 16] [] rfl rfl (by decide) (by decide) (va_runV (As := []) (rest := [.int (nI 1)]) ⟨hx, hb, hml, hown, hts⟩ (a_X10_words_179 l dC dI h cs H.size gI gL gA gQ ) (cwV 0 hts gX10_nearest_X10_words rfl rfl rfl (by decide +kernel) ⟨Nat.le_of_ble_eq_true rfl, Nat.le_of_ble_eq_true rfl⟩) (xpV (wc := (wD_177 h cs gI gL gA gQ)) hP hD hK hN [0, 1, 2, 3, 4, 5, 6, 7, 8, 9, 10, 11, 12, 13, 14, 15, 16] rfl (by decide) 0 (ci := 10) rfl rfl _) rfl rfl hl.1 rfl (lv_room (Nat.le_of_ble_eq_true rfl)) dX10_nearest_35 ⟨Nat.zero_le _, Nat.zero_le _⟩) (fun r_230 u_229 H locs hw hP hD hS => ?_)
      obtain ⟨hf_231, rfl⟩ := hw
      have hP : va_P (dC, dI) vwCl (rW h cs gI gL gA gQ) H := hP
      have hD : va_D A0 (rW h cs gI gL gA gQ) := hD
      obtain rfl := hf_231
      refine lv_icmp_ge (tgt := 95) hx hb dX10_nearest_38 (by decide) (fun c9 => False.elim (by revert c9; decide +kernel)) (fun _ => ?_)
      refine lv_iload hx hb dX10_nearest_41 (lv_at hl 1 rfl) ?_
      refine lv_aload_n hx hb dX10_nearest_43 rfl (lv_at hl 4 rfl) ?_
      refine va_get (D := (dC, dI)) (ci := 10) (v := .ref (h 16)) (C := RX10) (T := TX10) (N := 28) hx hb hts hinX10 hown hK hP 0 rfl rfl 16 (by decide) (hts (.fieldLink RX10 38 "MixedWordsModel" "offs" "[I") (by decide +kernel)) (fun _ h9 => h9) rfl dX10_nearest_44 ?_
      refine lv_iload hx hb dX10_nearest_47 (lv_at hl 0 rfl) ?_
      refine xa_iald hx hb hK hP 7 0 rfl rfl (by omega) (by decide) dX10_nearest_49 ?_
      refine xt_i (y := nI 0) (by decide +kernel) ?_
      refine lv_aload_n hx hb dX10_nearest_50 rfl (lv_at hl 4 rfl) ?_
      refine va_get (D := (dC, dI)) (ci := 10) (v := .ref (h 16)) (C := RX10) (T := TX10) (N := 28) hx hb hts hinX10 hown hK hP 0 rfl rfl 16 (by decide) (hts (.fieldLink RX10 38 "MixedWordsModel" "offs" "[I") (by decide +kernel)) (fun _ h9 => h9) rfl dX10_nearest_51 ?_
      refine lv_iload_n hx hb dX10_nearest_54 rfl (lv_at hl 2 rfl) ?_
      refine xa_iald hx hb hK hP 7 0 rfl rfl (by omega) (by decide) dX10_nearest_55 ?_
      refine xt_i (y := nI 0) (by decide +kernel) ?_
      refine lv_icmp_lt (tgt := 81) hx hb dX10_nearest_56 (by decide) (fun c9 => False.elim (by revert c9; decide +kernel)) (fun _ => ?_)
      refine lv_aload_n hx hb dX10_nearest_59 rfl (lv_at hl 4 rfl) ?_
      refine va_get (D := (dC, dI)) (ci := 10) (v := .ref (h 16)) (C := RX10) (T := TX10) (N := 28) hx hb hts hinX10 hown hK hP 0 rfl rfl 16 (by decide) (hts (.fieldLink RX10 38 "MixedWordsModel" "offs" "[I") (by decide +kernel)) (fun _ h9 => h9) rfl dX10_nearest_60 ?_
      refine lv_iload hx hb dX10_nearest_63 (lv_at hl 0 rfl) ?_
      refine xa_iald hx hb hK hP 7 0 rfl rfl (by omega) (by decide) dX10_nearest_65 ?_
      refine xt_i (y := nI 0) (by decide +kernel) ?_
      refine lv_aload_n hx hb dX10_nearest_66 rfl (lv_at hl 4 rfl) ?_
      refine va_get (D := (dC, dI)) (ci := 10) (v := .ref (h 16)) (C := RX10) (T := TX10) (N := 28) hx hb hts hinX10 hown hK hP 0 rfl rfl 16 (by decide) (hts (.fieldLink RX10 38 "MixedWordsModel" "offs" "[I") (by decide +kernel)) (fun _ h9 => h9) rfl dX10_nearest_67 ?_
      refine lv_iload_n hx hb dX10_nearest_70 rfl (lv_at hl 2 rfl) ?_
      refine xa_iald hx hb hK hP 7 0 rfl rfl (by omega) (by decide) dX10_nearest_71 ?_
      refine xt_i (y := nI 0) (by decide +kernel) ?_
      refine lv_icmp_ne (tgt := 85) hx hb dX10_nearest_72 (by decide) (fun c9 => False.elim (by revert c9; decide +kernel)) (fun _ => ?_)
      refine lv_iload hx hb dX10_nearest_75 (lv_at hl 0 rfl) ?_
      refine lv_iload_n hx hb dX10_nearest_77 rfl (lv_at hl 2 rfl) ?_
      refine lv_icmp_ge (tgt := 85) hx hb dX10_nearest_78 (by decide) (fun c9 => False.elim (by revert c9; decide +kernel)) (fun _ => ?_)
      refine lv_iconst (v := nI 1) hx hb dX10_nearest_81 (by decide) ?_
      refine lv_goto (tgt := 86) hx hb dX10_nearest_82 (by decide) ?_
      refine lv_iadd hx hb dX10_nearest_86 ?_
      refine xt_i (y := nI 2) (by decide +kernel) ?_
      refine lv_istore (lv' := [(4, .int (nI 2)), (5, .int (nI 1)), (3, .int (nI 3)), (2, .int (nI 2)), (0, .ref (h 0)), (1, .int (nI 2))]) hx hb dX10_nearest_87 hl (by decide) rfl (fun ls hl => ?_)
      refine lv_iinc (v := nI 2) (lv' := [(5, .int (nI 2)), (4, .int (nI 2)), (3, .int (nI 3)), (2, .int (nI 2)), (0, .ref (h 0)), (1, .int (nI 2))]) hx hb dX10_nearest_89 hl (k := 1) rfl (by decide +kernel) (by decide) rfl (fun ls hl => ?_)
      refine lv_goto (tgt := 32) hx hb dX10_nearest_92 (by decide) ?_
      refine lv_iload hx hb dX10_nearest_32 (lv_at hl 0 rfl) ?_
      refine lv_aload_n hx hb dX10_nearest_34 rfl (lv_at hl 4 rfl) ?_
      refine xj_i (wc := (wD_177 h cs gI gL gA gQ)) (wr := ([] : va_W)) hP hD hS hA [0, 1, 2, 3, 4, 5, 6, 7, 8, 9, 10, 11, 12, 13, 14, 15, 16] [] rfl rfl (by decide) (by decide) (va_runV (As := []) (rest := [.int (nI 2)]) ⟨hx, hb, hml, hown, hts⟩ (a_X10_words_179 l dC dI h cs H.size gI gL gA gQ ) (cwV 0 hts gX10_nearest_X10_words rfl rfl rfl (by decide +kernel) ⟨Nat.le_of_ble_eq_true rfl, Nat.le_of_ble_eq_true rfl⟩) (xpV (wc := (wD_177 h cs gI gL gA gQ)) hP hD hK hN [0, 1, 2, 3, 4, 5, 6, 7, 8, 9, 10, 11, 12, 13, 14, 15, 16] rfl (by decide) 0 (ci := 10) rfl rfl _) rfl rfl hl.1 rfl (lv_room (Nat.le_of_ble_eq_true rfl)) dX10_nearest_35 ⟨Nat.zero_le _, Nat.zero_le _⟩) (fun r_233 u_232 H locs hw hP hD hS => ?_)
      obtain ⟨hf_234, rfl⟩ := hw
      have hP : va_P (dC, dI) vwCl (rW h cs gI gL gA gQ) H := hP
      have hD : va_D A0 (rW h cs gI gL gA gQ) := hD
      obtain rfl := hf_234
      refine lv_icmp_ge (tgt := 95) hx hb dX10_nearest_38 (by decide) (fun c9 => False.elim (by revert c9; decide +kernel)) (fun _ => ?_)
      refine lv_iload hx hb dX10_nearest_41 (lv_at hl 1 rfl) ?_
      refine lv_aload_n hx hb dX10_nearest_43 rfl (lv_at hl 4 rfl) ?_
      refine va_get (D := (dC, dI)) (ci := 10) (v := .ref (h 16)) (C := RX10) (T := TX10) (N := 28) hx hb hts hinX10 hown hK hP 0 rfl rfl 16 (by decide) (hts (.fieldLink RX10 38 "MixedWordsModel" "offs" "[I") (by decide +kernel)) (fun _ h9 => h9) rfl dX10_nearest_44 ?_
      refine lv_iload hx hb dX10_nearest_47 (lv_at hl 0 rfl) ?_
      refine xa_iald hx hb hK hP 7 0 rfl rfl (by omega) (by decide) dX10_nearest_49 ?_
      refine xt_i (y := nI 0) (by decide +kernel) ?_
      refine lv_aload_n hx hb dX10_nearest_50 rfl (lv_at hl 4 rfl) ?_
      refine va_get (D := (dC, dI)) (ci := 10) (v := .ref (h 16)) (C := RX10) (T := TX10) (N := 28) hx hb hts hinX10 hown hK hP 0 rfl rfl 16 (by decide) (hts (.fieldLink RX10 38 "MixedWordsModel" "offs" "[I") (by decide +kernel)) (fun _ h9 => h9) rfl dX10_nearest_51 ?_
      refine lv_iload_n hx hb dX10_nearest_54 rfl (lv_at hl 2 rfl) ?_
      refine xa_iald hx hb hK hP 7 0 rfl rfl (by omega) (by decide) dX10_nearest_55 ?_
      refine xt_i (y := nI 0) (by decide +kernel) ?_
      refine lv_icmp_lt (tgt := 81) hx hb dX10_nearest_56 (by decide) (fun c9 => False.elim (by revert c9; decide +kernel)) (fun _ => ?_)
      refine lv_aload_n hx hb dX10_nearest_59 rfl (lv_at hl 4 rfl) ?_
      refine va_get (D := (dC, dI)) (ci := 10) (v := .ref (h 16)) (C := RX10) (T := TX10) (N := 28) hx hb hts hinX10 hown hK hP 0 rfl rfl 16 (by decide) (hts (.fieldLink RX10 38 "MixedWordsModel" "offs" "[I") (by decide +kernel)) (fun _ h9 => h9) rfl dX10_nearest_60 ?_
      refine lv_iload hx hb dX10_nearest_63 (lv_at hl 0 rfl) ?_
      refine xa_iald hx hb hK hP 7 0 rfl rfl (by omega) (by decide) dX10_nearest_65 ?_
      refine xt_i (y := nI 0) (by decide +kernel) ?_
      refine lv_aload_n hx hb dX10_nearest_66 rfl (lv_at hl 4 rfl) ?_
      refine va_get (D := (dC, dI)) (ci := 10) (v := .ref (h 16)) (C := RX10) (T := TX10) (N := 28) hx hb hts hinX10 hown hK hP 0 rfl rfl 16 (by decide) (hts (.fieldLink RX10 38 "MixedWordsModel" "offs" "[I") (by decide +kernel)) (fun _ h9 => h9) rfl dX10_nearest_67 ?_
      refine lv_iload_n hx hb dX10_nearest_70 rfl (lv_at hl 2 rfl) ?_
      refine xa_iald hx hb hK hP 7 0 rfl rfl (by omega) (by decide) dX10_nearest_71 ?_
      refine xt_i (y := nI 0) (by decide +kernel) ?_
      refine lv_icmp_ne (tgt := 85) hx hb dX10_nearest_72 (by decide) (fun c9 => False.elim (by revert c9; decide +kernel)) (fun _ => ?_)
      refine lv_iload hx hb dX10_nearest_75 (lv_at hl 0 rfl) ?_
      refine lv_iload_n hx hb dX10_nearest_77 rfl (lv_at hl 2 rfl) ?_
      refine lv_icmp_ge (tgt := 85) hx hb dX10_nearest_78 (by decide) (fun c9 => False.elim (by revert c9; decide +kernel)) (fun _ => ?_)
      refine lv_iconst (v := nI 1) hx hb dX10_nearest_81 (by decide) ?_
      refine lv_goto (tgt := 86) hx hb dX10_nearest_82 (by decide) ?_
      refine lv_iadd hx hb dX10_nearest_86 ?_
      refine xt_i (y := nI 3) (by decide +kernel) ?_
      refine lv_istore (lv' := [(4, .int (nI 3)), (5, .int (nI 2)), (3, .int (nI 3)), (2, .int (nI 2)), (0, .ref (h 0)), (1, .int (nI 2))]) hx hb dX10_nearest_87 hl (by decide) rfl (fun ls hl => ?_)
      refine lv_iinc (v := nI 3) (lv' := [(5, .int (nI 3)), (4, .int (nI 3)), (3, .int (nI 3)), (2, .int (nI 2)), (0, .ref (h 0)), (1, .int (nI 2))]) hx hb dX10_nearest_89 hl (k := 1) rfl (by decide +kernel) (by decide) rfl (fun ls hl => ?_)
      refine lv_goto (tgt := 32) hx hb dX10_nearest_92 (by decide) ?_
      refine lv_iload hx hb dX10_nearest_32 (lv_at hl 0 rfl) ?_
      refine lv_aload_n hx hb dX10_nearest_34 rfl (lv_at hl 4 rfl) ?_
      refine xj_i (wc := (wD_177 h cs gI gL gA gQ)) (wr := ([] : va_W)) hP hD hS hA [0, 1, 2, 3, 4, 5, 6, 7, 8, 9, 10, 11, 12, 13, 14, 15, 16] [] rfl rfl (by decide) (by decide) (va_runV (As := []) (rest := [.int (nI 3)]) ⟨hx, hb, hml, hown, hts⟩ (a_X10_words_179 l dC dI h cs H.size gI gL gA gQ ) (cwV 0 hts gX10_nearest_X10_words rfl rfl rfl (by decide +kernel) ⟨Nat.le_of_ble_eq_true rfl, Nat.le_of_ble_eq_true rfl⟩) (xpV (wc := (wD_177 h cs gI gL gA gQ)) hP hD hK hN [0, 1, 2, 3, 4, 5, 6, 7, 8, 9, 10, 11, 12, 13, 14, 15, 16] rfl (by decide) 0 (ci := 10) rfl rfl _) rfl rfl hl.1 rfl (lv_room (Nat.le_of_ble_eq_true rfl)) dX10_nearest_35 ⟨Nat.zero_le _, Nat.zero_le _⟩) (fun r_236 u_235 H locs hw hP hD hS => ?_)
      obtain ⟨hf_237, rfl⟩ := hw
      have hP : va_P (dC, dI) vwCl (rW h cs gI gL gA gQ) H := hP
      have hD : va_D A0 (rW h cs gI gL gA gQ) := hD
      obtain rfl := hf_237
      refine lv_icmp_ge (tgt := 95) hx hb dX10_nearest_38 (by decide) (fun c9 => False.elim (by revert c9; decide +kernel)) (fun _ => ?_)
      refine lv_iload hx hb dX10_nearest_41 (lv_at hl 1 rfl) ?_
      refine lv_aload_n hx hb dX10_nearest_43 rfl (lv_at hl 4 rfl) ?_
      refine va_get (D := (dC, dI)) (ci := 10) (v := .ref (h 16)) (C := RX10) (T := TX10) (N := 28) hx hb hts hinX10 hown hK hP 0 rfl rfl 16 (by decide) (hts (.fieldLink RX10 38 "MixedWordsModel" "offs" "[I") (by decide +kernel)) (fun _ h9 => h9) rfl dX10_nearest_44 ?_
      refine lv_iload hx hb dX10_nearest_47 (lv_at hl 0 rfl) ?_
      refine xa_iald hx hb hK hP 7 0 rfl rfl (by omega) (by decide) dX10_nearest_49 ?_
      refine xt_i (y := nI 0) (by decide +kernel) ?_
      refine lv_aload_n hx hb dX10_nearest_50 rfl (lv_at hl 4 rfl) ?_
      refine va_get (D := (dC, dI)) (ci := 10) (v := .ref (h 16)) (C := RX10) (T := TX10) (N := 28) hx hb hts hinX10 hown hK hP 0 rfl rfl 16 (by decide) (hts (.fieldLink RX10 38 "MixedWordsModel" "offs" "[I") (by decide +kernel)) (fun _ h9 => h9) rfl dX10_nearest_51 ?_
      refine lv_iload_n hx hb dX10_nearest_54 rfl (lv_at hl 2 rfl) ?_
      refine xa_iald hx hb hK hP 7 0 rfl rfl (by omega) (by decide) dX10_nearest_55 ?_
      refine xt_i (y := nI 0) (by decide +kernel) ?_
      refine lv_icmp_lt (tgt := 81) hx hb dX10_nearest_56 (by decide) (fun c9 => False.elim (by revert c9; decide +kernel)) (fun _ => ?_)
      refine lv_aload_n hx hb dX10_nearest_59 rfl (lv_at hl 4 rfl) ?_
      refine va_get (D := (dC, dI)) (ci := 10) (v := .ref (h 16)) (C := RX10) (T := TX10) (N := 28) hx hb hts hinX10 hown hK hP 0 rfl rfl 16 (by decide) (hts (.fieldLink RX10 38 "MixedWordsModel" "offs" "[I") (by decide +kernel)) (fun _ h9 => h9) rfl dX10_nearest_60 ?_
      refine lv_iload hx hb dX10_nearest_63 (lv_at hl 0 rfl) ?_
      refine xa_iald hx hb hK hP 7 0 rfl rfl (by omega) (by decide) dX10_nearest_65 ?_
      refine xt_i (y := nI 0) (by decide +kernel) ?_
      refine lv_aload_n hx hb dX10_nearest_66 rfl (lv_at hl 4 rfl) ?_
      refine va_get (D := (dC, dI)) (ci := 10) (v := .ref (h 16)) (C := RX10) (T := TX10) (N := 28) hx hb hts hinX10 hown hK hP 0 rfl rfl 16 (by decide) (hts (.fieldLink RX10 38 "MixedWordsModel" "offs" "[I") (by decide +kernel)) (fun _ h9 => h9) rfl dX10_nearest_67 ?_
      refine lv_iload_n hx hb dX10_nearest_70 rfl (lv_at hl 2 rfl) ?_
      refine xa_iald hx hb hK hP 7 0 rfl rfl (by omega) (by decide) dX10_nearest_71 ?_
      refine xt_i (y := nI 0) (by decide +kernel) ?_
      refine lv_icmp_ne (tgt := 85) hx hb dX10_nearest_72 (by decide) (fun c9 => False.elim (by revert c9; decide +kernel)) (fun _ => ?_)
      refine lv_iload hx hb dX10_nearest_75 (lv_at hl 0 rfl) ?_
      refine lv_iload_n hx hb dX10_nearest_77 rfl (lv_at hl 2 rfl) ?_
      refine lv_icmp_ge (tgt := 85) hx hb dX10_nearest_78 (by decide) (fun _ => ?_) (fun c9 => False.elim (by revert c9; decide +kernel))
      refine lv_iconst (v := nI 0) hx hb dX10_nearest_85 (by decide) ?_
      refine lv_iadd hx hb dX10_nearest_86 ?_
      refine xt_i (y := nI 3) (by decide +kernel) ?_
      refine lv_istore (lv' := [(4, .int (nI 3)), (5, .int (nI 3)), (3, .int (nI 3)), (2, .int (nI 2)), (0, .ref (h 0)), (1, .int (nI 2))]) hx hb dX10_nearest_87 hl (by decide) rfl (fun ls hl => ?_)
      refine lv_iinc (v := nI 4) (lv' := [(5, .int (nI 4)), (4, .int (nI 3)), (3, .int (nI 3)), (2, .int (nI 2)), (0, .ref (h 0)), (1, .int (nI 2))]) hx hb dX10_nearest_89 hl (k := 1) rfl (by decide +kernel) (by decide) rfl (fun ls hl => ?_)
      refine lv_goto (tgt := 32) hx hb dX10_nearest_92 (by decide) ?_
      refine lv_iload hx hb dX10_nearest_32 (lv_at hl 0 rfl) ?_
      refine lv_aload_n hx hb dX10_nearest_34 rfl (lv_at hl 4 rfl) ?_
      refine xj_i (wc := (wD_177 h cs gI gL gA gQ)) (wr := ([] : va_W)) hP hD hS hA [0, 1, 2, 3, 4, 5, 6, 7, 8, 9, 10, 11, 12, 13, 14, 15, 16] [] rfl rfl (by decide) (by decide) (va_runV (As := []) (rest := [.int (nI 4)]) ⟨hx, hb, hml, hown, hts⟩ (a_X10_words_179 l dC dI h cs H.size gI gL gA gQ ) (cwV 0 hts gX10_nearest_X10_words rfl rfl rfl (by decide +kernel) ⟨Nat.le_of_ble_eq_true rfl, Nat.le_of_ble_eq_true rfl⟩) (xpV (wc := (wD_177 h cs gI gL gA gQ)) hP hD hK hN [0, 1, 2, 3, 4, 5, 6, 7, 8, 9, 10, 11, 12, 13, 14, 15, 16] rfl (by decide) 0 (ci := 10) rfl rfl _) rfl rfl hl.1 rfl (lv_room (Nat.le_of_ble_eq_true rfl)) dX10_nearest_35 ⟨Nat.zero_le _, Nat.zero_le _⟩) (fun r_239 u_238 H locs hw hP hD hS => ?_)
      obtain ⟨hf_240, rfl⟩ := hw
      have hP : va_P (dC, dI) vwCl (rW h cs gI gL gA gQ) H := hP
      have hD : va_D A0 (rW h cs gI gL gA gQ) := hD
      obtain rfl := hf_240
      refine lv_icmp_ge (tgt := 95) hx hb dX10_nearest_38 (by decide) (fun _ => ?_) (fun c9 => False.elim (by revert c9; decide +kernel))
      refine lv_iload hx hb dX10_nearest_95 (lv_at hl 1 rfl) ?_
      refine lv_iload_n hx hb dX10_nearest_97 rfl (lv_at hl 5 rfl) ?_
      refine lv_icmp_ne (tgt := 105) hx hb dX10_nearest_98 (by decide) (fun _ => ?_) (fun c9 => False.elim (by revert c9; decide +kernel))
      refine lv_iload_n hx hb dX10_nearest_105 rfl (lv_at hl 3 rfl) ?_
      refine lv_istore_n (lv' := [(2, .int (nI 2)), (5, .int (nI 4)), (4, .int (nI 3)), (3, .int (nI 3)), (0, .ref (h 0)), (1, .int (nI 2))]) hx hb dX10_nearest_106 rfl hl (by decide) rfl (fun ls hl => ?_)
      refine lv_iinc (v := nI 4) (lv' := [(3, .int (nI 4)), (2, .int (nI 2)), (5, .int (nI 4)), (4, .int (nI 3)), (0, .ref (h 0)), (1, .int (nI 2))]) hx hb dX10_nearest_107 hl (k := 3) rfl (by decide +kernel) (by decide) rfl (fun ls hl => ?_)
      refine lv_goto (tgt := 18) hx hb dX10_nearest_110 (by decide) ?_
      refine lv_iload_n hx hb dX10_nearest_18 rfl (lv_at hl 0 rfl) ?_
      refine lv_aload_n hx hb dX10_nearest_19 rfl (lv_at hl 4 rfl) ?_
      refine xj_i (wc := (wD_177 h cs gI gL gA gQ)) (wr := ([] : va_W)) hP hD hS hA [0, 1, 2, 3, 4, 5, 6, 7, 8, 9, 10, 11, 12, 13, 14, 15, 16] [] rfl rfl (by decide) (by decide) (va_runV (As := []) (rest := [.int (nI 4)]) ⟨hx, hb, hml, hown, hts⟩ (a_X10_words_179 l dC dI h cs H.size gI gL gA gQ ) (cwV 0 hts gX10_nearest_X10_words rfl rfl rfl (by decide +kernel) ⟨Nat.le_of_ble_eq_true rfl, Nat.le_of_ble_eq_true rfl⟩) (xpV (wc := (wD_177 h cs gI gL gA gQ)) hP hD hK hN [0, 1, 2, 3, 4, 5, 6, 7, 8, 9, 10, 11, 12, 13, 14, 15, 16] rfl (by decide) 0 (ci := 10) rfl rfl _) rfl rfl hl.1 rfl (lv_room (Nat.le_of_ble_eq_true rfl)) dX10_nearest_20 ⟨Nat.zero_le _, Nat.zero_le _⟩) (fun r_242 u_241 H locs hw hP hD hS => ?_)
      obtain ⟨hf_243, rfl⟩ := hw
      have hP : va_P (dC, dI) vwCl (rW h cs gI gL gA gQ) H := hP
      have hD : va_D A0 (rW h cs gI gL gA gQ) := hD
      obtain rfl := hf_243
      refine lv_icmp_ge (tgt := 113) hx hb dX10_nearest_23 (by decide) (fun _ => ?_) (fun c9 => False.elim (by revert c9; decide +kernel))
      refine lv_iload_n hx hb dX10_nearest_113 rfl (lv_at hl 1 rfl) ?_
      exact xr_i (v := (nI 2)) hx hb hr hlocks hK hS dX10_nearest_114 (gI, gL, gA, gQ) ⟨(by decide +kernel), rfl⟩ hP hD
    · skip
      refine lv_aload_n hx hb dX10_nearest_0 rfl (lv_at hl 0 rfl) ?_
      refine lv_iload_n hx hb dX10_nearest_1 rfl (lv_at hl 1 rfl) ?_
      refine xj_i (wc := (wD_177 h cs gI gL gA gQ)) (wr := ([] : va_W)) hP hD hS hA [0, 1, 2, 3, 4, 5, 6, 7, 8, 9, 10, 11, 12, 13, 14, 15, 16] [] rfl rfl (by decide) (by decide) (va_runV (As := [.int (nI 3)]) (rest := []) ⟨hx, hb, hml, hown, hts⟩ (a_X10_isWord_194 l dC dI h cs H.size gI gL gA gQ ) (cwV 1 hts gX10_nearest_X10_isWord rfl rfl rfl (by decide +kernel) ⟨Nat.le_of_ble_eq_true rfl, Nat.le_of_ble_eq_true rfl⟩) (xpV (wc := (wD_177 h cs gI gL gA gQ)) hP hD hK hN [0, 1, 2, 3, 4, 5, 6, 7, 8, 9, 10, 11, 12, 13, 14, 15, 16] rfl (by decide) 0 (ci := 10) rfl rfl _) rfl rfl hl.1 rfl (lv_room (Nat.le_of_ble_eq_true rfl)) dX10_nearest_2 ⟨Nat.zero_le _, Nat.zero_le _⟩) (fun r_245 u_244 H locs hw hP hD hS => ?_)
      obtain ⟨hf_246, rfl⟩ := hw
      have hP : va_P (dC, dI) vwCl (rW h cs gI gL gA gQ) H := hP
      have hD : va_D A0 (rW h cs gI gL gA gQ) := hD
      obtain rfl := hf_246
      refine lv_if_ne (tgt := 10) hx hb dX10_nearest_5 (by decide) (fun _ => ?_) (fun c9 => False.elim (by revert c9; decide +kernel))
      refine lv_aload_n hx hb dX10_nearest_10 rfl (lv_at hl 0 rfl) ?_
      refine xj_v (wc := (wD_177 h cs gI gL gA gQ)) (wr := ([] : va_W)) hP hD hS hA [0, 1, 2, 3, 4, 5, 6, 7, 8, 9, 10, 11, 12, 13, 14, 15, 16] [] rfl rfl (by decide) (by decide) (va_runV (As := []) (rest := []) ⟨hx, hb, hml, hown, hts⟩ (a_X10_offAll_199 l dC dI h cs H.size gI gL gA gQ ) (cwV 0 hts gX10_nearest_X10_offAll rfl rfl rfl (by decide +kernel) ⟨Nat.le_of_ble_eq_true rfl, Nat.le_of_ble_eq_true rfl⟩) (xpV (wc := (wD_177 h cs gI gL gA gQ)) hP hD hK hN [0, 1, 2, 3, 4, 5, 6, 7, 8, 9, 10, 11, 12, 13, 14, 15, 16] rfl (by decide) 0 (ci := 10) rfl rfl _) rfl rfl hl.1 rfl (lv_room (Nat.le_of_ble_eq_true rfl)) dX10_nearest_11 ⟨Nat.zero_le _, Nat.zero_le _⟩) (fun u_247 H locs hw hP hD hS => ?_)
      obtain ⟨hf_249, rfl⟩ := hw
      have hP : va_P (dC, dI) vwCl (rW h cs gI gL gA gQ) H := hP
      have hD : va_D A0 (rW h cs gI gL gA gQ) := hD
      refine lv_iconst (v := (-1)) hx hb dX10_nearest_14 (by decide) ?_
      refine lv_istore_n (lv' := [(2, .int (-1)), (0, .ref (h 0)), (1, .int (nI 3))]) hx hb dX10_nearest_15 rfl hl (by decide) rfl (fun ls hl => ?_)
      refine lv_iconst (v := nI 0) hx hb dX10_nearest_16 (by decide) ?_
      refine lv_istore_n (lv' := [(3, .int (nI 0)), (2, .int (-1)), (0, .ref (h 0)), (1, .int (nI 3))]) hx hb dX10_nearest_17 rfl hl (by decide) rfl (fun ls hl => ?_)
      refine lv_iload_n hx hb dX10_nearest_18 rfl (lv_at hl 0 rfl) ?_
      refine lv_aload_n hx hb dX10_nearest_19 rfl (lv_at hl 2 rfl) ?_
      refine xj_i (wc := (wD_177 h cs gI gL gA gQ)) (wr := ([] : va_W)) hP hD hS hA [0, 1, 2, 3, 4, 5, 6, 7, 8, 9, 10, 11, 12, 13, 14, 15, 16] [] rfl rfl (by decide) (by decide) (va_runV (As := []) (rest := [.int (nI 0)]) ⟨hx, hb, hml, hown, hts⟩ (a_X10_words_179 l dC dI h cs H.size gI gL gA gQ ) (cwV 0 hts gX10_nearest_X10_words rfl rfl rfl (by decide +kernel) ⟨Nat.le_of_ble_eq_true rfl, Nat.le_of_ble_eq_true rfl⟩) (xpV (wc := (wD_177 h cs gI gL gA gQ)) hP hD hK hN [0, 1, 2, 3, 4, 5, 6, 7, 8, 9, 10, 11, 12, 13, 14, 15, 16] rfl (by decide) 0 (ci := 10) rfl rfl _) rfl rfl hl.1 rfl (lv_room (Nat.le_of_ble_eq_true rfl)) dX10_nearest_20 ⟨Nat.zero_le _, Nat.zero_le _⟩) (fun r_251 u_250 H locs hw hP hD hS => ?_)
      obtain ⟨hf_252, rfl⟩ := hw
      have hP : va_P (dC, dI) vwCl (rW h cs gI gL gA gQ) H := hP
      have hD : va_D A0 (rW h cs gI gL gA gQ) := hD
      obtain rfl := hf_252
      refine lv_icmp_ge (tgt := 113) hx hb dX10_nearest_23 (by decide) (fun c9 => False.elim (by revert c9; decide +kernel)) (fun _ => ?_)
      refine lv_iconst (v := nI 0) hx hb dX10_nearest_26 (by decide) ?_
      refine lv_istore (lv' := [(4, .int (nI 0)), (3, .int (nI 0)), (2, .int (-1)), (0, .ref (h 0)), (1, .int (nI 3))]) hx hb dX10_nearest_27 hl (by decide) rfl (fun ls hl => ?_)
      refine lv_iconst (v := nI 0) hx hb dX10_nearest_29 (by decide) ?_
      refine lv_istore (lv' := [(5, .int (nI 0)), (4, .int (nI 0)), (3, .int (nI 0)), (2, .int (-1)), (0, .ref (h 0)), (1, .int (nI 3))]) hx hb dX10_nearest_30 hl (by decide) rfl (fun ls hl => ?_)
      refine lv_iload hx hb dX10_nearest_32 (lv_at hl 0 rfl) ?_
      refine lv_aload_n hx hb dX10_nearest_34 rfl (lv_at hl 4 rfl) ?_
      refine xj_i (wc := (wD_177 h cs gI gL gA gQ)) (wr := ([] : va_W)) hP hD hS hA [0, 1, 2, 3, 4, 5, 6, 7, 8, 9, 10, 11, 12, 13, 14, 15, 16] [] rfl rfl (by decide) (by decide) (va_runV (As := []) (rest := [.int (nI 0)]) ⟨hx, hb, hml, hown, hts⟩ (a_X10_words_179 l dC dI h cs H.size gI gL gA gQ ) (cwV 0 hts gX10_nearest_X10_words rfl rfl rfl (by decide +kernel) ⟨Nat.le_of_ble_eq_true rfl, Nat.le_of_ble_eq_true rfl⟩) (xpV (wc := (wD_177 h cs gI gL gA gQ)) hP hD hK hN [0, 1, 2, 3, 4, 5, 6, 7, 8, 9, 10, 11, 12, 13, 14, 15, 16] rfl (by decide) 0 (ci := 10) rfl rfl _) rfl rfl hl.1 rfl (lv_room (Nat.le_of_ble_eq_true rfl)) dX10_nearest_35 ⟨Nat.zero_le _, Nat.zero_le _⟩) (fun r_254 u_253 H locs hw hP hD hS => ?_)
      obtain ⟨hf_255, rfl⟩ := hw
      have hP : va_P (dC, dI) vwCl (rW h cs gI gL gA gQ) H := hP
      have hD : va_D A0 (rW h cs gI gL gA gQ) := hD
      obtain rfl := hf_255
      refine lv_icmp_ge (tgt := 95) hx hb dX10_nearest_38 (by decide) (fun c9 => False.elim (by revert c9; decide +kernel)) (fun _ => ?_)
      refine lv_iload hx hb dX10_nearest_41 (lv_at hl 1 rfl) ?_
      refine lv_aload_n hx hb dX10_nearest_43 rfl (lv_at hl 4 rfl) ?_
      refine va_get (D := (dC, dI)) (ci := 10) (v := .ref (h 16)) (C := RX10) (T := TX10) (N := 28) hx hb hts hinX10 hown hK hP 0 rfl rfl 16 (by decide) (hts (.fieldLink RX10 38 "MixedWordsModel" "offs" "[I") (by decide +kernel)) (fun _ h9 => h9) rfl dX10_nearest_44 ?_
      refine lv_iload hx hb dX10_nearest_47 (lv_at hl 0 rfl) ?_
      refine xa_iald hx hb hK hP 7 0 rfl rfl (by omega) (by decide) dX10_nearest_49 ?_
      refine xt_i (y := nI 0) (by decide +kernel) ?_
      refine lv_aload_n hx hb dX10_nearest_50 rfl (lv_at hl 4 rfl) ?_
      refine va_get (D := (dC, dI)) (ci := 10) (v := .ref (h 16)) (C := RX10) (T := TX10) (N := 28) hx hb hts hinX10 hown hK hP 0 rfl rfl 16 (by decide) (hts (.fieldLink RX10 38 "MixedWordsModel" "offs" "[I") (by decide +kernel)) (fun _ h9 => h9) rfl dX10_nearest_51 ?_
      refine lv_iload_n hx hb dX10_nearest_54 rfl (lv_at hl 2 rfl) ?_
      refine xa_iald hx hb hK hP 7 0 rfl rfl (by omega) (by decide) dX10_nearest_55 ?_
      refine xt_i (y := nI 0) (by decide +kernel) ?_
      refine lv_icmp_lt (tgt := 81) hx hb dX10_nearest_56 (by decide) (fun c9 => False.elim (by revert c9; decide +kernel)) (fun _ => ?_)
      refine lv_aload_n hx hb dX10_nearest_59 rfl (lv_at hl 4 rfl) ?_
      refine va_get (D := (dC, dI)) (ci := 10) (v := .ref (h 16)) (C := RX10) (T := TX10) (N := 28) hx hb hts hinX10 hown hK hP 0 rfl rfl 16 (by decide) (hts (.fieldLink RX10 38 "MixedWordsModel" "offs" "[I") (by decide +kernel)) (fun _ h9 => h9) rfl dX10_nearest_60 ?_
      refine lv_iload hx hb dX10_nearest_63 (lv_at hl 0 rfl) ?_
      refine xa_iald hx hb hK hP 7 0 rfl rfl (by omega) (by decide) dX10_nearest_65 ?_
      refine xt_i (y := nI 0) (by decide +kernel) ?_
      refine lv_aload_n hx hb dX10_nearest_66 rfl (lv_at hl 4 rfl) ?_
      refine va_get (D := (dC, dI)) (ci := 10) (v := .ref (h 16)) (C := RX10) (T := TX10) (N := 28) hx hb hts hinX10 hown hK hP 0 rfl rfl 16 (by decide) (hts (.fieldLink RX10 38 "MixedWordsModel" "offs" "[I") (by decide +kernel)) (fun _ h9 => h9) rfl dX10_nearest_67 ?_
      refine lv_iload_n hx hb dX10_nearest_70 rfl (lv_at hl 2 rfl) ?_
      refine xa_iald hx hb hK hP 7 0 rfl rfl (by omega) (by decide) dX10_nearest_71 ?_
      refine xt_i (y := nI 0) (by decide +kernel) ?_
      refine lv_icmp_ne (tgt := 85) hx hb dX10_nearest_72 (by decide) (fun c9 => False.elim (by revert c9; decide +kernel)) (fun _ => ?_)
      refine lv_iload hx hb dX10_nearest_75 (lv_at hl 0 rfl) ?_
      refine lv_iload_n hx hb dX10_nearest_77 rfl (lv_at hl 2 rfl) ?_
      refine lv_icmp_ge (tgt := 85) hx hb dX10_nearest_78 (by decide) (fun _ => ?_) (fun c9 => False.elim (by revert c9; decide +kernel))
      refine lv_iconst (v := nI 0) hx hb dX10_nearest_85 (by decide) ?_
      refine lv_iadd hx hb dX10_nearest_86 ?_
      refine xt_i (y := nI 0) (by decide +kernel) ?_
      refine lv_istore (lv' := [(4, .int (nI 0)), (5, .int (nI 0)), (3, .int (nI 0)), (2, .int (-1)), (0, .ref (h 0)), (1, .int (nI 3))]) hx hb dX10_nearest_87 hl (by decide) rfl (fun ls hl => ?_)
      refine lv_iinc (v := nI 1) (lv' := [(5, .int (nI 1)), (4, .int (nI 0)), (3, .int (nI 0)), (2, .int (-1)), (0, .ref (h 0)), (1, .int (nI 3))]) hx hb dX10_nearest_89 hl (k := 1) rfl (by decide +kernel) (by decide) rfl (fun ls hl => ?_)
      refine lv_goto (tgt := 32) hx hb dX10_nearest_92 (by decide) ?_
      refine lv_iload hx hb dX10_nearest_32 (lv_at hl 0 rfl) ?_
      refine lv_aload_n hx hb dX10_nearest_34 rfl (lv_at hl 4 rfl) ?_
      refine xj_i (wc := (wD_177 h cs gI gL gA gQ)) (wr := ([] : va_W)) hP hD hS hA [0, 1, 2, 3, 4, 5, 6, 7, 8, 9, 10, 11, 12, 13, 14, 15, 16] [] rfl rfl (by decide) (by decide) (va_runV (As := []) (rest := [.int (nI 1)]) ⟨hx, hb, hml, hown, hts⟩ (a_X10_words_179 l dC dI h cs H.size gI gL gA gQ ) (cwV 0 hts gX10_nearest_X10_words rfl rfl rfl (by decide +kernel) ⟨Nat.le_of_ble_eq_true rfl, Nat.le_of_ble_eq_true rfl⟩) (xpV (wc := (wD_177 h cs gI gL gA gQ)) hP hD hK hN [0, 1, 2, 3, 4, 5, 6, 7, 8, 9, 10, 11, 12, 13, 14, 15, 16] rfl (by decide) 0 (ci := 10) rfl rfl _) rfl rfl hl.1 rfl (lv_room (Nat.le_of_ble_eq_true rfl)) dX10_nearest_35 ⟨Nat.zero_le _, Nat.zero_le _⟩) (fun r_257 u_256 H locs hw hP hD hS => ?_)
      obtain ⟨hf_258, rfl⟩ := hw
      have hP : va_P (dC, dI) vwCl (rW h cs gI gL gA gQ) H := hP
      have hD : va_D A0 (rW h cs gI gL gA gQ) := hD
      obtain rfl := hf_258
      refine lv_icmp_ge (tgt := 95) hx hb dX10_nearest_38 (by decide) (fun c9 => False.elim (by revert c9; decide +kernel)) (fun _ => ?_)
      refine lv_iload hx hb dX10_nearest_41 (lv_at hl 1 rfl) ?_
      refine lv_aload_n hx hb dX10_nearest_43 rfl (lv_at hl 4 rfl) ?_
      refine va_get (D := (dC, dI)) (ci := 10) (v := .ref (h 16)) (C := RX10) (T := TX10) (N := 28) hx hb hts hinX10 hown hK hP 0 rfl rfl 16 (by decide) (hts (.fieldLink RX10 38 "MixedWordsModel" "offs" "[I") (by decide +kernel)) (fun _ h9 => h9) rfl dX10_nearest_44 ?_
      refine lv_iload hx hb dX10_nearest_47 (lv_at hl 0 rfl) ?_
      refine xa_iald hx hb hK hP 7 0 rfl rfl (by omega) (by decide) dX10_nearest_49 ?_
      refine xt_i (y := nI 0) (by decide +kernel) ?_
      refine lv_aload_n hx hb dX10_nearest_50 rfl (lv_at hl 4 rfl) ?_
      refine va_get (D := (dC, dI)) (ci := 10) (v := .ref (h 16)) (C := RX10) (T := TX10) (N := 28) hx hb hts hinX10 hown hK hP 0 rfl rfl 16 (by decide) (hts (.fieldLink RX10 38 "MixedWordsModel" "offs" "[I") (by decide +kernel)) (fun _ h9 => h9) rfl dX10_nearest_51 ?_
      refine lv_iload_n hx hb dX10_nearest_54 rfl (lv_at hl 2 rfl) ?_
      refine xa_iald hx hb hK hP 7 0 rfl rfl (by omega) (by decide) dX10_nearest_55 ?_
      refine xt_i (y := nI 0) (by decide +kernel) ?_
      refine lv_icmp_lt (tgt := 81) hx hb dX10_nearest_56 (by decide) (fun c9 => False.elim (by revert c9; decide +kernel)) (fun _ => ?_)
      refine lv_aload_n hx hb dX10_nearest_59 rfl (lv_at hl 4 rfl) ?_
      refine va_get (D := (dC, dI)) (ci := 10) (v := .ref (h 16)) (C := RX10) (T := TX10) (N := 28) hx hb hts hinX10 hown hK hP 0 rfl rfl 16 (by decide) (hts (.fieldLink RX10 38 "MixedWordsModel" "offs" "[I") (by decide +kernel)) (fun _ h9 => h9) rfl dX10_nearest_60 ?_
      refine lv_iload hx hb dX10_nearest_63 (lv_at hl 0 rfl) ?_
      refine xa_iald hx hb hK hP 7 0 rfl rfl (by omega) (by decide) dX10_nearest_65 ?_
      refine xt_i (y := nI 0) (by decide +kernel) ?_
      refine lv_aload_n hx hb dX10_nearest_66 rfl (lv_at hl 4 rfl) ?_
      refine va_get (D := (dC, dI)) (ci := 10) (v := .ref (h 16)) (C := RX10) (T := TX10) (N := 28) hx hb hts hinX10 hown hK hP 0 rfl rfl 16 (by decide) (hts (.fieldLink RX10 38 "MixedWordsModel" "offs" "[I") (by decide +kernel)) (fun _ h9 => h9) rfl dX10_nearest_67 ?_
      refine lv_iload_n hx hb dX10_nearest_70 rfl (lv_at hl 2 rfl) ?_
      refine xa_iald hx hb hK hP 7 0 rfl rfl (by omega) (by decide) dX10_nearest_71 ?_
      refine xt_i (y := nI 0) (by decide +kernel) ?_
      refine lv_icmp_ne (tgt := 85) hx hb dX10_nearest_72 (by decide) (fun c9 => False.elim (by revert c9; decide +kernel)) (fun _ => ?_)
      refine lv_iload hx hb dX10_nearest_75 (lv_at hl 0 rfl) ?_
      refine lv_iload_n hx hb dX10_nearest_77 rfl (lv_at hl 2 rfl) ?_
      refine lv_icmp_ge (tgt := 85) hx hb dX10_nearest_78 (by decide) (fun _ => ?_) (fun c9 => False.elim (by revert c9; decide +kernel))
      refine lv_iconst (v := nI 0) hx hb dX10_nearest_85 (by decide) ?_
      refine lv_iadd hx hb dX10_nearest_86 ?_
      refine xt_i (y := nI 0) (by decide +kernel) ?_
      refine lv_istore (lv' := [(4, .int (nI 0)), (5, .int (nI 1)), (3, .int (nI 0)), (2, .int (-1)), (0, .ref (h 0)), (1, .int (nI 3))]) hx hb dX10_nearest_87 hl (by decide) rfl (fun ls hl => ?_)
      refine lv_iinc (v := nI 2) (lv' := [(5, .int (nI 2)), (4, .int (nI 0)), (3, .int (nI 0)), (2, .int (-1)), (0, .ref (h 0)), (1, .int (nI 3))]) hx hb dX10_nearest_89 hl (k := 1) rfl (by decide +kernel) (by decide) rfl (fun ls hl => ?_)
      refine lv_goto (tgt := 32) hx hb dX10_nearest_92 (by decide) ?_
      refine lv_iload hx hb dX10_nearest_32 (lv_at hl 0 rfl) ?_
      refine lv_aload_n hx hb dX10_nearest_34 rfl (lv_at hl 4 rfl) ?_
      refine xj_i (wc := (wD_177 h cs gI gL gA gQ)) (wr := ([] : va_W)) hP hD hS hA [0, 1, 2, 3, 4, 5, 6, 7, 8, 9, 10, 11, 12, 13, 14, 15, 16] [] rfl rfl (by decide) (by decide) (va_runV (As := []) (rest := [.int (nI 2)]) ⟨hx, hb, hml, hown, hts⟩ (a_X10_words_179 l dC dI h cs H.size gI gL gA gQ ) (cwV 0 hts gX10_nearest_X10_words rfl rfl rfl (by decide +kernel) ⟨Nat.le_of_ble_eq_true rfl, Nat.le_of_ble_eq_true rfl⟩) (xpV (wc := (wD_177 h cs gI gL gA gQ)) hP hD hK hN [0, 1, 2, 3, 4, 5, 6, 7, 8, 9, 10, 11, 12, 13, 14, 15, 16] rfl (by decide) 0 (ci := 10) rfl rfl _) rfl rfl hl.1 rfl (lv_room (Nat.le_of_ble_eq_true rfl)) dX10_nearest_35 ⟨Nat.zero_le _, Nat.zero_le _⟩) (fun r_260 u_259 H locs hw hP hD hS => ?_)
      obtain ⟨hf_261, rfl⟩ := hw
      have hP : va_P (dC, dI) vwCl (rW h cs gI gL gA gQ) H := hP
      have hD : va_D A0 (rW h cs gI gL gA gQ) := hD
      obtain rfl := hf_261
      refine lv_icmp_ge (tgt := 95) hx hb dX10_nearest_38 (by decide) (fun c9 => False.elim (by revert c9; decide +kernel)) (fun _ => ?_)
      refine lv_iload hx hb dX10_nearest_41 (lv_at hl 1 rfl) ?_
      refine lv_aload_n hx hb dX10_nearest_43 rfl (lv_at hl 4 rfl) ?_
      refine va_get (D := (dC, dI)) (ci := 10) (v := .ref (h 16)) (C := RX10) (T := TX10) (N := 28) hx hb hts hinX10 hown hK hP 0 rfl rfl 16 (by decide) (hts (.fieldLink RX10 38 "MixedWordsModel" "offs" "[I") (by decide +kernel)) (fun _ h9 => h9) rfl dX10_nearest_44 ?_
      refine lv_iload hx hb dX10_nearest_47 (lv_at hl 0 rfl) ?_
      refine xa_iald hx hb hK hP 7 0 rfl rfl (by omega) (by decide) dX10_nearest_49 ?_
      refine xt_i (y := nI 0) (by decide +kernel) ?_
      refine lv_aload_n hx hb dX10_nearest_50 rfl (lv_at hl 4 rfl) ?_
      refine va_get (D := (dC, dI)) (ci := 10) (v := .ref (h 16)) (C := RX10) (T := TX10) (N := 28) hx hb hts hinX10 hown hK hP 0 rfl rfl 16 (by decide) (hts (.fieldLink RX10 38 "MixedWordsModel" "offs" "[I") (by decide +kernel)) (fun _ h9 => h9) rfl dX10_nearest_51 ?_
      refine lv_iload_n hx hb dX10_nearest_54 rfl (lv_at hl 2 rfl) ?_
      refine xa_iald hx hb hK hP 7 0 rfl rfl (by omega) (by decide) dX10_nearest_55 ?_
      refine xt_i (y := nI 0) (by decide +kernel) ?_
      refine lv_icmp_lt (tgt := 81) hx hb dX10_nearest_56 (by decide) (fun c9 => False.elim (by revert c9; decide +kernel)) (fun _ => ?_)
      refine lv_aload_n hx hb dX10_nearest_59 rfl (lv_at hl 4 rfl) ?_
      refine va_get (D := (dC, dI)) (ci := 10) (v := .ref (h 16)) (C := RX10) (T := TX10) (N := 28) hx hb hts hinX10 hown hK hP 0 rfl rfl 16 (by decide) (hts (.fieldLink RX10 38 "MixedWordsModel" "offs" "[I") (by decide +kernel)) (fun _ h9 => h9) rfl dX10_nearest_60 ?_
      refine lv_iload hx hb dX10_nearest_63 (lv_at hl 0 rfl) ?_
      refine xa_iald hx hb hK hP 7 0 rfl rfl (by omega) (by decide) dX10_nearest_65 ?_
      refine xt_i (y := nI 0) (by decide +kernel) ?_
      refine lv_aload_n hx hb dX10_nearest_66 rfl (lv_at hl 4 rfl) ?_
      refine va_get (D := (dC, dI)) (ci := 10) (v := .ref (h 16)) (C := RX10) (T := TX10) (N := 28) hx hb hts hinX10 hown hK hP 0 rfl rfl 16 (by decide) (hts (.fieldLink RX10 38 "MixedWordsModel" "offs" "[I") (by decide +kernel)) (fun _ h9 => h9) rfl dX10_nearest_67 ?_
      refine lv_iload_n hx hb dX10_nearest_70 rfl (lv_at hl 2 rfl) ?_
      refine xa_iald hx hb hK hP 7 0 rfl rfl (by omega) (by decide) dX10_nearest_71 ?_
      refine xt_i (y := nI 0) (by decide +kernel) ?_
      refine lv_icmp_ne (tgt := 85) hx hb dX10_nearest_72 (by decide) (fun c9 => False.elim (by revert c9; decide +kernel)) (fun _ => ?_)
      refine lv_iload hx hb dX10_nearest_75 (lv_at hl 0 rfl) ?_
      refine lv_iload_n hx hb dX10_nearest_77 rfl (lv_at hl 2 rfl) ?_
      refine lv_icmp_ge (tgt := 85) hx hb dX10_nearest_78 (by decide) (fun _ => ?_) (fun c9 => False.elim (by revert c9; decide +kernel))
      refine lv_iconst (v := nI 0) hx hb dX10_nearest_85 (by decide) ?_
      refine lv_iadd hx hb dX10_nearest_86 ?_
      refine xt_i (y := nI 0) (by decide +kernel) ?_
      refine lv_istore (lv' := [(4, .int (nI 0)), (5, .int (nI 2)), (3, .int (nI 0)), (2, .int (-1)), (0, .ref (h 0)), (1, .int (nI 3))]) hx hb dX10_nearest_87 hl (by decide) rfl (fun ls hl => ?_)
      refine lv_iinc (v := nI 3) (lv' := [(5, .int (nI 3)), (4, .int (nI 0)), (3, .int (nI 0)), (2, .int (-1)), (0, .ref (h 0)), (1, .int (nI 3))]) hx hb dX10_nearest_89 hl (k := 1) rfl (by decide +kernel) (by decide) rfl (fun ls hl => ?_)
      refine lv_goto (tgt := 32) hx hb dX10_nearest_92 (by decide) ?_
      refine lv_iload hx hb dX10_nearest_32 (lv_at hl 0 rfl) ?_
      refine lv_aload_n hx hb dX10_nearest_34 rfl (lv_at hl 4 rfl) ?_
      refine xj_i (wc := (wD_177 h cs gI gL gA gQ)) (wr := ([] : va_W)) hP hD hS hA [0, 1, 2, 3, 4, 5, 6, 7, 8, 9, 10, 11, 12, 13, 14, 15, 16] [] rfl rfl (by decide) (by decide) (va_runV (As := []) (rest := [.int (nI 3)]) ⟨hx, hb, hml, hown, hts⟩ (a_X10_words_179 l dC dI h cs H.size gI gL gA gQ ) (cwV 0 hts gX10_nearest_X10_words rfl rfl rfl (by decide +kernel) ⟨Nat.le_of_ble_eq_true rfl, Nat.le_of_ble_eq_true rfl⟩) (xpV (wc := (wD_177 h cs gI gL gA gQ)) hP hD hK hN [0, 1, 2, 3, 4, 5, 6, 7, 8, 9, 10, 11, 12, 13, 14, 15, 16] rfl (by decide) 0 (ci := 10) rfl rfl _) rfl rfl hl.1 rfl (lv_room (Nat.le_of_ble_eq_true rfl)) dX10_nearest_35 ⟨Nat.zero_le _, Nat.zero_le _⟩) (fun r_263 u_262 H locs hw hP hD hS => ?_)
      obtain ⟨hf_264, rfl⟩ := hw
      have hP : va_P (dC, dI) vwCl (rW h cs gI gL gA gQ) H := hP
      have hD : va_D A0 (rW h cs gI gL gA gQ) := hD
      obtain rfl := hf_264
      refine lv_icmp_ge (tgt := 95) hx hb dX10_nearest_38 (by decide) (fun c9 => False.elim (by revert c9; decide +kernel)) (fun _ => ?_)
      refine lv_iload hx hb dX10_nearest_41 (lv_at hl 1 rfl) ?_
      refine lv_aload_n hx hb dX10_nearest_43 rfl (lv_at hl 4 rfl) ?_
      refine va_get (D := (dC, dI)) (ci := 10) (v := .ref (h 16)) (C := RX10) (T := TX10) (N := 28) hx hb hts hinX10 hown hK hP 0 rfl rfl 16 (by decide) (hts (.fieldLink RX10 38 "MixedWordsModel" "offs" "[I") (by decide +kernel)) (fun _ h9 => h9) rfl dX10_nearest_44 ?_
      refine lv_iload hx hb dX10_nearest_47 (lv_at hl 0 rfl) ?_
      refine xa_iald hx hb hK hP 7 0 rfl rfl (by omega) (by decide) dX10_nearest_49 ?_
      refine xt_i (y := nI 0) (by decide +kernel) ?_
      refine lv_aload_n hx hb dX10_nearest_50 rfl (lv_at hl 4 rfl) ?_
      refine va_get (D := (dC, dI)) (ci := 10) (v := .ref (h 16)) (C := RX10) (T := TX10) (N := 28) hx hb hts hinX10 hown hK hP 0 rfl rfl 16 (by decide) (hts (.fieldLink RX10 38 "MixedWordsModel" "offs" "[I") (by decide +kernel)) (fun _ h9 => h9) rfl dX10_nearest_51 ?_
      refine lv_iload_n hx hb dX10_nearest_54 rfl (lv_at hl 2 rfl) ?_
      refine xa_iald hx hb hK hP 7 0 rfl rfl (by omega) (by decide) dX10_nearest_55 ?_
      refine xt_i (y := nI 0) (by decide +kernel) ?_
      refine lv_icmp_lt (tgt := 81) hx hb dX10_nearest_56 (by decide) (fun c9 => False.elim (by revert c9; decide +kernel)) (fun _ => ?_)
      refine lv_aload_n hx hb dX10_nearest_59 rfl (lv_at hl 4 rfl) ?_
      refine va_get (D := (dC, dI)) (ci := 10) (v := .ref (h 16)) (C := RX10) (T := TX10) (N := 28) hx hb hts hinX10 hown hK hP 0 rfl rfl 16 (by decide) (hts (.fieldLink RX10 38 "MixedWordsModel" "offs" "[I") (by decide +kernel)) (fun _ h9 => h9) rfl dX10_nearest_60 ?_
      refine lv_iload hx hb dX10_nearest_63 (lv_at hl 0 rfl) ?_
      refine xa_iald hx hb hK hP 7 0 rfl rfl (by omega) (by decide) dX10_nearest_65 ?_
      refine xt_i (y := nI 0) (by decide +kernel) ?_
      refine lv_aload_n hx hb dX10_nearest_66 rfl (lv_at hl 4 rfl) ?_
      refine va_get (D := (dC, dI)) (ci := 10) (v := .ref (h 16)) (C := RX10) (T := TX10) (N := 28) hx hb hts hinX10 hown hK hP 0 rfl rfl 16 (by decide) (hts (.fieldLink RX10 38 "MixedWordsModel" "offs" "[I") (by decide +kernel)) (fun _ h9 => h9) rfl dX10_nearest_67 ?_
      refine lv_iload_n hx hb dX10_nearest_70 rfl (lv_at hl 2 rfl) ?_
      refine xa_iald hx hb hK hP 7 0 rfl rfl (by omega) (by decide) dX10_nearest_71 ?_
      refine xt_i (y := nI 0) (by decide +kernel) ?_
      refine lv_icmp_ne (tgt := 85) hx hb dX10_nearest_72 (by decide) (fun c9 => False.elim (by revert c9; decide +kernel)) (fun _ => ?_)
      refine lv_iload hx hb dX10_nearest_75 (lv_at hl 0 rfl) ?_
      refine lv_iload_n hx hb dX10_nearest_77 rfl (lv_at hl 2 rfl) ?_
      refine lv_icmp_ge (tgt := 85) hx hb dX10_nearest_78 (by decide) (fun _ => ?_) (fun c9 => False.elim (by revert c9; decide +kernel))
      refine lv_iconst (v := nI 0) hx hb dX10_nearest_85 (by decide) ?_
      refine lv_iadd hx hb dX10_nearest_86 ?_
      refine xt_i (y := nI 0) (by decide +kernel) ?_
      refine lv_istore (lv' := [(4, .int (nI 0)), (5, .int (nI 3)), (3, .int (nI 0)), (2, .int (-1)), (0, .ref (h 0)), (1, .int (nI 3))]) hx hb dX10_nearest_87 hl (by decide) rfl (fun ls hl => ?_)
      refine lv_iinc (v := nI 4) (lv' := [(5, .int (nI 4)), (4, .int (nI 0)), (3, .int (nI 0)), (2, .int (-1)), (0, .ref (h 0)), (1, .int (nI 3))]) hx hb dX10_nearest_89 hl (k := 1) rfl (by decide +kernel) (by decide) rfl (fun ls hl => ?_)
      refine lv_goto (tgt := 32) hx hb dX10_nearest_92 (by decide) ?_
      refine lv_iload hx hb dX10_nearest_32 (lv_at hl 0 rfl) ?_
      refine lv_aload_n hx hb dX10_nearest_34 rfl (lv_at hl 4 rfl) ?_
      refine xj_i (wc := (wD_177 h cs gI gL gA gQ)) (wr := ([] : va_W)) hP hD hS hA [0, 1, 2, 3, 4, 5, 6, 7, 8, 9, 10, 11, 12, 13, 14, 15, 16] [] rfl rfl (by decide) (by decide) (va_runV (As := []) (rest := [.int (nI 4)]) ⟨hx, hb, hml, hown, hts⟩ (a_X10_words_179 l dC dI h cs H.size gI gL gA gQ ) (cwV 0 hts gX10_nearest_X10_words rfl rfl rfl (by decide +kernel) ⟨Nat.le_of_ble_eq_true rfl, Nat.le_of_ble_eq_true rfl⟩) (xpV (wc := (wD_177 h cs gI gL gA gQ)) hP hD hK hN [0, 1, 2, 3, 4, 5, 6, 7, 8, 9, 10, 11, 12, 13, 14, 15, 16] rfl (by decide) 0 (ci := 10) rfl rfl _) rfl rfl hl.1 rfl (lv_room (Nat.le_of_ble_eq_true rfl)) dX10_nearest_35 ⟨Nat.zero_le _, Nat.zero_le _⟩) (fun r_266 u_265 H locs hw hP hD hS => ?_)
      obtain ⟨hf_267, rfl⟩ := hw
      have hP : va_P (dC, dI) vwCl (rW h cs gI gL gA gQ) H := hP
      have hD : va_D A0 (rW h cs gI gL gA gQ) := hD
      obtain rfl := hf_267
      refine lv_icmp_ge (tgt := 95) hx hb dX10_nearest_38 (by decide) (fun _ => ?_) (fun c9 => False.elim (by revert c9; decide +kernel))
      refine lv_iload hx hb dX10_nearest_95 (lv_at hl 1 rfl) ?_
      refine lv_iload_n hx hb dX10_nearest_97 rfl (lv_at hl 5 rfl) ?_
      refine lv_icmp_ne (tgt := 105) hx hb dX10_nearest_98 (by decide) (fun _ => ?_) (fun c9 => False.elim (by revert c9; decide +kernel))
      refine lv_iload_n hx hb dX10_nearest_105 rfl (lv_at hl 3 rfl) ?_
      refine lv_istore_n (lv' := [(2, .int (-1)), (5, .int (nI 4)), (4, .int (nI 0)), (3, .int (nI 0)), (0, .ref (h 0)), (1, .int (nI 3))]) hx hb dX10_nearest_106 rfl hl (by decide) rfl (fun ls hl => ?_)
      refine lv_iinc (v := nI 1) (lv' := [(3, .int (nI 1)), (2, .int (-1)), (5, .int (nI 4)), (4, .int (nI 0)), (0, .ref (h 0)), (1, .int (nI 3))]) hx hb dX10_nearest_107 hl (k := 3) rfl (by decide +kernel) (by decide) rfl (fun ls hl => ?_)
      refine lv_goto (tgt := 18) hx hb dX10_nearest_110 (by decide) ?_
      refine lv_iload_n hx hb dX10_nearest_18 rfl (lv_at hl 0 rfl) ?_
      refine lv_aload_n hx hb dX10_nearest_19 rfl (lv_at hl 4 rfl) ?_
      refine xj_i (wc := (wD_177 h cs gI gL gA gQ)) (wr := ([] : va_W)) hP hD hS hA [0, 1, 2, 3, 4, 5, 6, 7, 8, 9, 10, 11, 12, 13, 14, 15, 16] [] rfl rfl (by decide) (by decide) (va_runV (As := []) (rest := [.int (nI 1)]) ⟨hx, hb, hml, hown, hts⟩ (a_X10_words_179 l dC dI h cs H.size gI gL gA gQ ) (cwV 0 hts gX10_nearest_X10_words rfl rfl rfl (by decide +kernel) ⟨Nat.le_of_ble_eq_true rfl, Nat.le_of_ble_eq_true rfl⟩) (xpV (wc := (wD_177 h cs gI gL gA gQ)) hP hD hK hN [0, 1, 2, 3, 4, 5, 6, 7, 8, 9, 10, 11, 12, 13, 14, 15, 16] rfl (by decide) 0 (ci := 10) rfl rfl _) rfl rfl hl.1 rfl (lv_room (Nat.le_of_ble_eq_true rfl)) dX10_nearest_20 ⟨Nat.zero_le _, Nat.zero_le _⟩) (fun r_269 u_268 H locs hw hP hD hS => ?_)
      obtain ⟨hf_270, rfl⟩ := hw
      have hP : va_P (dC, dI) vwCl (rW h cs gI gL gA gQ) H := hP
      have hD : va_D A0 (rW h cs gI gL gA gQ) := hD
      obtain rfl := hf_270
      refine lv_icmp_ge (tgt := 113) hx hb dX10_nearest_23 (by decide) (fun c9 => False.elim (by revert c9; decide +kernel)) (fun _ => ?_)
      refine lv_iconst (v := nI 0) hx hb dX10_nearest_26 (by decide) ?_
      refine lv_istore (lv' := [(4, .int (nI 0)), (3, .int (nI 1)), (2, .int (-1)), (5, .int (nI 4)), (0, .ref (h 0)), (1, .int (nI 3))]) hx hb dX10_nearest_27 hl (by decide) rfl (fun ls hl => ?_)
      refine lv_iconst (v := nI 0) hx hb dX10_nearest_29 (by decide) ?_
      refine lv_istore (lv' := [(5, .int (nI 0)), (4, .int (nI 0)), (3, .int (nI 1)), (2, .int (-1)), (0, .ref (h 0)), (1, .int (nI 3))]) hx hb dX10_nearest_30 hl (by decide) rfl (fun ls hl => ?_)
      refine lv_iload hx hb dX10_nearest_32 (lv_at hl 0 rfl) ?_
      refine lv_aload_n hx hb dX10_nearest_34 rfl (lv_at hl 4 rfl) ?_
      refine xj_i (wc := (wD_177 h cs gI gL gA gQ)) (wr := ([] : va_W)) hP hD hS hA [0, 1, 2, 3, 4, 5, 6, 7, 8, 9, 10, 11, 12, 13, 14, 15, 16] [] rfl rfl (by decide) (by decide) (va_runV (As := []) (rest := [.int (nI 0)]) ⟨hx, hb, hml, hown, hts⟩ (a_X10_words_179 l dC dI h cs H.size gI gL gA gQ ) (cwV 0 hts gX10_nearest_X10_words rfl rfl rfl (by decide +kernel) ⟨Nat.le_of_ble_eq_true rfl, Nat.le_of_ble_eq_true rfl⟩) (xpV (wc := (wD_177 h cs gI gL gA gQ)) hP hD hK hN [0, 1, 2, 3, 4, 5, 6, 7, 8, 9, 10, 11, 12, 13, 14, 15, 16] rfl (by decide) 0 (ci := 10) rfl rfl _) rfl rfl hl.1 rfl (lv_room (Nat.le_of_ble_eq_true rfl)) dX10_nearest_35 ⟨Nat.zero_le _, Nat.zero_le _⟩) (fun r_272 u_271 H locs hw hP hD hS => ?_)
      obtain ⟨hf_273, rfl⟩ := hw
      have hP : va_P (dC, dI) vwCl (rW h cs gI gL gA gQ) H := hP
      have hD : va_D A0 (rW h cs gI gL gA gQ) := hD
      obtain rfl := hf_273
      refine lv_icmp_ge (tgt := 95) hx hb dX10_nearest_38 (by decide) (fun c9 => False.elim (by revert c9; decide +kernel)) (fun _ => ?_)
      refine lv_iload hx hb dX10_nearest_41 (lv_at hl 1 rfl) ?_
      refine lv_aload_n hx hb dX10_nearest_43 rfl (lv_at hl 4 rfl) ?_
      refine va_get (D := (dC, dI)) (ci := 10) (v := .ref (h 16)) (C := RX10) (T := TX10) (N := 28) hx hb hts hinX10 hown hK hP 0 rfl rfl 16 (by decide) (hts (.fieldLink RX10 38 "MixedWordsModel" "offs" "[I") (by decide +kernel)) (fun _ h9 => h9) rfl dX10_nearest_44 ?_
      refine lv_iload hx hb dX10_nearest_47 (lv_at hl 0 rfl) ?_
      refine xa_iald hx hb hK hP 7 0 rfl rfl (by omega) (by decide) dX10_nearest_49 ?_
      refine xt_i (y := nI 0) (by decide +kernel) ?_
      refine lv_aload_n hx hb dX10_nearest_50 rfl (lv_at hl 4 rfl) ?_
      refine va_get (D := (dC, dI)) (ci := 10) (v := .ref (h 16)) (C := RX10) (T := TX10) (N := 28) hx hb hts hinX10 hown hK hP 0 rfl rfl 16 (by decide) (hts (.fieldLink RX10 38 "MixedWordsModel" "offs" "[I") (by decide +kernel)) (fun _ h9 => h9) rfl dX10_nearest_51 ?_
      refine lv_iload_n hx hb dX10_nearest_54 rfl (lv_at hl 2 rfl) ?_
      refine xa_iald hx hb hK hP 7 0 rfl rfl (by omega) (by decide) dX10_nearest_55 ?_
      refine xt_i (y := nI 0) (by decide +kernel) ?_
      refine lv_icmp_lt (tgt := 81) hx hb dX10_nearest_56 (by decide) (fun c9 => False.elim (by revert c9; decide +kernel)) (fun _ => ?_)
      refine lv_aload_n hx hb dX10_nearest_59 rfl (lv_at hl 4 rfl) ?_
      refine va_get (D := (dC, dI)) (ci := 10) (v := .ref (h 16)) (C := RX10) (T := TX10) (N := 28) hx hb hts hinX10 hown hK hP 0 rfl rfl 16 (by decide) (hts (.fieldLink RX10 38 "MixedWordsModel" "offs" "[I") (by decide +kernel)) (fun _ h9 => h9) rfl dX10_nearest_60 ?_
      refine lv_iload hx hb dX10_nearest_63 (lv_at hl 0 rfl) ?_
      refine xa_iald hx hb hK hP 7 0 rfl rfl (by omega) (by decide) dX10_nearest_65 ?_
      refine xt_i (y := nI 0) (by decide +kernel) ?_
      refine lv_aload_n hx hb dX10_nearest_66 rfl (lv_at hl 4 rfl) ?_
      refine va_get (D := (dC, dI)) (ci := 10) (v := .ref (h 16)) (C := RX10) (T := TX10) (N := 28) hx hb hts hinX10 hown hK hP 0 rfl rfl 16 (by decide) (hts (.fieldLink RX10 38 "MixedWordsModel" "offs" "[I") (by decide +kernel)) (fun _ h9 => h9) rfl dX10_nearest_67 ?_
      refine lv_iload_n hx hb dX10_nearest_70 rfl (lv_at hl 2 rfl) ?_
      refine xa_iald hx hb hK hP 7 0 rfl rfl (by omega) (by decide) dX10_nearest_71 ?_
      refine xt_i (y := nI 0) (by decide +kernel) ?_
      refine lv_icmp_ne (tgt := 85) hx hb dX10_nearest_72 (by decide) (fun c9 => False.elim (by revert c9; decide +kernel)) (fun _ => ?_)
      refine lv_iload hx hb dX10_nearest_75 (lv_at hl 0 rfl) ?_
      refine lv_iload_n hx hb dX10_nearest_77 rfl (lv_at hl 2 rfl) ?_
      refine lv_icmp_ge (tgt := 85) hx hb dX10_nearest_78 (by decide) (fun c9 => False.elim (by revert c9; decide +kernel)) (fun _ => ?_)
      refine lv_iconst (v := nI 1) hx hb dX10_nearest_81 (by decide) ?_
      refine lv_goto (tgt := 86) hx hb dX10_nearest_82 (by decide) ?_
      refine lv_iadd hx hb dX10_nearest_86 ?_
      refine xt_i (y := nI 1) (by decide +kernel) ?_
      refine lv_istore (lv' := [(4, .int (nI 1)), (5, .int (nI 0)), (3, .int (nI 1)), (2, .int (-1)), (0, .ref (h 0)), (1, .int (nI 3))]) hx hb dX10_nearest_87 hl (by decide) rfl (fun ls hl => ?_)
      refine lv_iinc (v := nI 1) (lv' := [(5, .int (nI 1)), (4, .int (nI 1)), (3, .int (nI 1)), (2, .int (-1)), (0, .ref (h 0)), (1, .int (nI 3))]) hx hb dX10_nearest_89 hl (k := 1) rfl (by decide +kernel) (by decide) rfl (fun ls hl => ?_)
      refine lv_goto (tgt := 32) hx hb dX10_nearest_92 (by decide) ?_
      refine lv_iload hx hb dX10_nearest_32 (lv_at hl 0 rfl) ?_
      refine lv_aload_n hx hb dX10_nearest_34 rfl (lv_at hl 4 rfl) ?_
      refine xj_i (wc := (wD_177 h cs gI gL gA gQ)) (wr := ([] : va_W)) hP hD hS hA [0, 1, 2, 3, 4, 5, 6, 7, 8, 9, 10, 11, 12, 13, 14, 15, 16] [] rfl rfl (by decide) (by decide) (va_runV (As := []) (rest := [.int (nI 1)]) ⟨hx, hb, hml, hown, hts⟩ (a_X10_words_179 l dC dI h cs H.size gI gL gA gQ ) (cwV 0 hts gX10_nearest_X10_words rfl rfl rfl (by decide +kernel) ⟨Nat.le_of_ble_eq_true rfl, Nat.le_of_ble_eq_true rfl⟩) (xpV (wc := (wD_177 h cs gI gL gA gQ)) hP hD hK hN [0, 1, 2, 3, 4, 5, 6, 7, 8, 9, 10, 11, 12, 13, 14, 15, 16] rfl (by decide) 0 (ci := 10) rfl rfl _) rfl rfl hl.1 rfl (lv_room (Nat.le_of_ble_eq_true rfl)) dX10_nearest_35 ⟨Nat.zero_le _, Nat.zero_le _⟩) (fun r_275 u_274 H locs hw hP hD hS => ?_)
      obtain ⟨hf_276, rfl⟩ := hw
      have hP : va_P (dC, dI) vwCl (rW h cs gI gL gA gQ) H := hP
      have hD : va_D A0 (rW h cs gI gL gA gQ) := hD
      obtain rfl := hf_276
      refine lv_icmp_ge (tgt := 95) hx hb dX10_nearest_38 (by decide) (fun c9 => False.elim (by revert c9; decide +kernel)) (fun _ => ?_)
      refine lv_iload hx hb dX10_nearest_41 (lv_at hl 1 rfl) ?_
      refine lv_aload_n hx hb dX10_nearest_43 rfl (lv_at hl 4 rfl) ?_
      refine va_get (D := (dC, dI)) (ci := 10) (v := .ref (h 16)) (C := RX10) (T := TX10) (N := 28) hx hb hts hinX10 hown hK hP 0 rfl rfl 16 (by decide) (hts (.fieldLink RX10 38 "MixedWordsModel" "offs" "[I") (by decide +kernel)) (fun _ h9 => h9) rfl dX10_nearest_44 ?_
      refine lv_iload hx hb dX10_nearest_47 (lv_at hl 0 rfl) ?_
      refine xa_iald hx hb hK hP 7 0 rfl rfl (by omega) (by decide) dX10_nearest_49 ?_
      refine xt_i (y := nI 0) (by decide +kernel) ?_
      refine lv_aload_n hx hb dX10_nearest_50 rfl (lv_at hl 4 rfl) ?_
      refine va_get (D := (dC, dI)) (ci := 10) (v := .ref (h 16)) (C := RX10) (T := TX10) (N := 28) hx hb hts hinX10 hown hK hP 0 rfl rfl 16 (by decide) (hts (.fieldLink RX10 38 "MixedWordsModel" "offs" "[I") (by decide +kernel)) (fun _ h9 => h9) rfl dX10_nearest_51 ?_
      refine lv_iload_n hx hb dX10_nearest_54 rfl (lv_at hl 2 rfl) ?_
      refine xa_iald hx hb hK hP 7 0 rfl rfl (by omega) (by decide) dX10_nearest_55 ?_
      refine xt_i (y := nI 0) (by decide +kernel) ?_
      refine lv_icmp_lt (tgt := 81) hx hb dX10_nearest_56 (by decide) (fun c9 => False.elim (by revert c9; decide +kernel)) (fun _ => ?_)
      refine lv_aload_n hx hb dX10_nearest_59 rfl (lv_at hl 4 rfl) ?_
      refine va_get (D := (dC, dI)) (ci := 10) (v := .ref (h 16)) (C := RX10) (T := TX10) (N := 28) hx hb hts hinX10 hown hK hP 0 rfl rfl 16 (by decide) (hts (.fieldLink RX10 38 "MixedWordsModel" "offs" "[I") (by decide +kernel)) (fun _ h9 => h9) rfl dX10_nearest_60 ?_
      refine lv_iload hx hb dX10_nearest_63 (lv_at hl 0 rfl) ?_
      refine xa_iald hx hb hK hP 7 0 rfl rfl (by omega) (by decide) dX10_nearest_65 ?_
      refine xt_i (y := nI 0) (by decide +kernel) ?_
      refine lv_aload_n hx hb dX10_nearest_66 rfl (lv_at hl 4 rfl) ?_
      refine va_get (D := (dC, dI)) (ci := 10) (v := .ref (h 16)) (C := RX10) (T := TX10) (N := 28) hx hb hts hinX10 hown hK hP 0 rfl rfl 16 (by decide) (hts (.fieldLink RX10 38 "MixedWordsModel" "offs" "[I") (by decide +kernel)) (fun _ h9 => h9) rfl dX10_nearest_67 ?_
      refine lv_iload_n hx hb dX10_nearest_70 rfl (lv_at hl 2 rfl) ?_
      refine xa_iald hx hb hK hP 7 0 rfl rfl (by omega) (by decide) dX10_nearest_71 ?_
      refine xt_i (y := nI 0) (by decide +kernel) ?_
      refine lv_icmp_ne (tgt := 85) hx hb dX10_nearest_72 (by decide) (fun c9 => False.elim (by revert c9; decide +kernel)) (fun _ => ?_)
      refine lv_iload hx hb dX10_nearest_75 (lv_at hl 0 rfl) ?_
      refine lv_iload_n hx hb dX10_nearest_77 rfl (lv_at hl 2 rfl) ?_
      refine lv_icmp_ge (tgt := 85) hx hb dX10_nearest_78 (by decide) (fun _ => ?_) (fun c9 => False.elim (by revert c9; decide +kernel))
      refine lv_iconst (v := nI 0) hx hb dX10_nearest_85 (by decide) ?_
      refine lv_iadd hx hb dX10_nearest_86 ?_
      refine xt_i (y := nI 1) (by decide +kernel) ?_
      refine lv_istore (lv' := [(4, .int (nI 1)), (5, .int (nI 1)), (3, .int (nI 1)), (2, .int (-1)), (0, .ref (h 0)), (1, .int (nI 3))]) hx hb dX10_nearest_87 hl (by decide) rfl (fun ls hl => ?_)
      refine lv_iinc (v := nI 2) (lv' := [(5, .int (nI 2)), (4, .int (nI 1)), (3, .int (nI 1)), (2, .int (-1)), (0, .ref (h 0)), (1, .int (nI 3))]) hx hb dX10_nearest_89 hl (k := 1) rfl (by decide +kernel) (by decide) rfl (fun ls hl => ?_)
      refine lv_goto (tgt := 32) hx hb dX10_nearest_92 (by decide) ?_
      refine lv_iload hx hb dX10_nearest_32 (lv_at hl 0 rfl) ?_
      refine lv_aload_n hx hb dX10_nearest_34 rfl (lv_at hl 4 rfl) ?_
      refine xj_i (wc := (wD_177 h cs gI gL gA gQ)) (wr := ([] : va_W)) hP hD hS hA [0, 1, 2, 3, 4, 5, 6, 7, 8, 9, 10, 11, 12, 13, 14, 15, 16] [] rfl rfl (by decide) (by decide) (va_runV (As := []) (rest := [.int (nI 2)]) ⟨hx, hb, hml, hown, hts⟩ (a_X10_words_179 l dC dI h cs H.size gI gL gA gQ ) (cwV 0 hts gX10_nearest_X10_words rfl rfl rfl (by decide +kernel) ⟨Nat.le_of_ble_eq_true rfl, Nat.le_of_ble_eq_true rfl⟩) (xpV (wc := (wD_177 h cs gI gL gA gQ)) hP hD hK hN [0, 1, 2, 3, 4, 5, 6, 7, 8, 9, 10, 11, 12, 13, 14, 15, 16] rfl (by decide) 0 (ci := 10) rfl rfl _) rfl rfl hl.1 rfl (lv_room (Nat.le_of_ble_eq_true rfl)) dX10_nearest_35 ⟨Nat.zero_le _, Nat.zero_le _⟩) (fun r_278 u_277 H locs hw hP hD hS => ?_)
      obtain ⟨hf_279, rfl⟩ := hw
      have hP : va_P (dC, dI) vwCl (rW h cs gI gL gA gQ) H := hP
      have hD : va_D A0 (rW h cs gI gL gA gQ) := hD
      obtain rfl := hf_279
      refine lv_icmp_ge (tgt := 95) hx hb dX10_nearest_38 (by decide) (fun c9 => False.elim (by revert c9; decide +kernel)) (fun _ => ?_)
      refine lv_iload hx hb dX10_nearest_41 (lv_at hl 1 rfl) ?_
      refine lv_aload_n hx hb dX10_nearest_43 rfl (lv_at hl 4 rfl) ?_
      refine va_get (D := (dC, dI)) (ci := 10) (v := .ref (h 16)) (C := RX10) (T := TX10) (N := 28) hx hb hts hinX10 hown hK hP 0 rfl rfl 16 (by decide) (hts (.fieldLink RX10 38 "MixedWordsModel" "offs" "[I") (by decide +kernel)) (fun _ h9 => h9) rfl dX10_nearest_44 ?_
      refine lv_iload hx hb dX10_nearest_47 (lv_at hl 0 rfl) ?_
      refine xa_iald hx hb hK hP 7 0 rfl rfl (by omega) (by decide) dX10_nearest_49 ?_
      refine xt_i (y := nI 0) (by decide +kernel) ?_
      refine lv_aload_n hx hb dX10_nearest_50 rfl (lv_at hl 4 rfl) ?_
      refine va_get (D := (dC, dI)) (ci := 10) (v := .ref (h 16)) (C := RX10) (T := TX10) (N := 28) hx hb hts hinX10 hown hK hP 0 rfl rfl 16 (by decide) (hts (.fieldLink RX10 38 "MixedWordsModel" "offs" "[I") (by decide +kernel)) (fun _ h9 => h9) rfl dX10_nearest_51 ?_
      refine lv_iload_n hx hb dX10_nearest_54 rfl (lv_at hl 2 rfl) ?_
      refine xa_iald hx hb hK hP 7 0 rfl rfl (by omega) (by decide) dX10_nearest_55 ?_
      refine xt_i (y := nI 0) (by decide +kernel) ?_
      refine lv_icmp_lt (tgt := 81) hx hb dX10_nearest_56 (by decide) (fun c9 => False.elim (by revert c9; decide +kernel)) (fun _ => ?_)
      refine lv_aload_n hx hb dX10_nearest_59 rfl (lv_at hl 4 rfl) ?_
      refine va_get (D := (dC, dI)) (ci := 10) (v := .ref (h 16)) (C := RX10) (T := TX10) (N := 28) hx hb hts hinX10 hown hK hP 0 rfl rfl 16 (by decide) (hts (.fieldLink RX10 38 "MixedWordsModel" "offs" "[I") (by decide +kernel)) (fun _ h9 => h9) rfl dX10_nearest_60 ?_
      refine lv_iload hx hb dX10_nearest_63 (lv_at hl 0 rfl) ?_
      refine xa_iald hx hb hK hP 7 0 rfl rfl (by omega) (by decide) dX10_nearest_65 ?_
      refine xt_i (y := nI 0) (by decide +kernel) ?_
      refine lv_aload_n hx hb dX10_nearest_66 rfl (lv_at hl 4 rfl) ?_
      refine va_get (D := (dC, dI)) (ci := 10) (v := .ref (h 16)) (C := RX10) (T := TX10) (N := 28) hx hb hts hinX10 hown hK hP 0 rfl rfl 16 (by decide) (hts (.fieldLink RX10 38 "MixedWordsModel" "offs" "[I") (by decide +kernel)) (fun _ h9 => h9) rfl dX10_nearest_67 ?_
      refine lv_iload_n hx hb dX10_nearest_70 rfl (lv_at hl 2 rfl) ?_
      refine xa_iald hx hb hK hP 7 0 rfl rfl (by omega) (by decide) dX10_nearest_71 ?_
      refine xt_i (y := nI 0) (by decide +kernel) ?_
      refine lv_icmp_ne (tgt := 85) hx hb dX10_nearest_72 (by decide) (fun c9 => False.elim (by revert c9; decide +kernel)) (fun _ => ?_)
      refine lv_iload hx hb dX10_nearest_75 (lv_at hl 0 rfl) ?_
      refine lv_iload_n hx hb dX10_nearest_77 rfl (lv_at hl 2 rfl) ?_
      refine lv_icmp_ge (tgt := 85) hx hb dX10_nearest_78 (by decide) (fun _ => ?_) (fun c9 => False.elim (by revert c9; decide +kernel))
      refine lv_iconst (v := nI 0) hx hb dX10_nearest_85 (by decide) ?_
      refine lv_iadd hx hb dX10_nearest_86 ?_
      refine xt_i (y := nI 1) (by decide +kernel) ?_
      refine lv_istore (lv' := [(4, .int (nI 1)), (5, .int (nI 2)), (3, .int (nI 1)), (2, .int (-1)), (0, .ref (h 0)), (1, .int (nI 3))]) hx hb dX10_nearest_87 hl (by decide) rfl (fun ls hl => ?_)
      refine lv_iinc (v := nI 3) (lv' := [(5, .int (nI 3)), (4, .int (nI 1)), (3, .int (nI 1)), (2, .int (-1)), (0, .ref (h 0)), (1, .int (nI 3))]) hx hb dX10_nearest_89 hl (k := 1) rfl (by decide +kernel) (by decide) rfl (fun ls hl => ?_)
      refine lv_goto (tgt := 32) hx hb dX10_nearest_92 (by decide) ?_
      refine lv_iload hx hb dX10_nearest_32 (lv_at hl 0 rfl) ?_
      refine lv_aload_n hx hb dX10_nearest_34 rfl (lv_at hl 4 rfl) ?_
      refine xj_i (wc := (wD_177 h cs gI gL gA gQ)) (wr := ([] : va_W)) hP hD hS hA [0, 1, 2, 3, 4, 5, 6, 7, 8, 9, 10, 11, 12, 13, 14, 15, 16] [] rfl rfl (by decide) (by decide) (va_runV (As := []) (rest := [.int (nI 3)]) ⟨hx, hb, hml, hown, hts⟩ (a_X10_words_179 l dC dI h cs H.size gI gL gA gQ ) (cwV 0 hts gX10_nearest_X10_words rfl rfl rfl (by decide +kernel) ⟨Nat.le_of_ble_eq_true rfl, Nat.le_of_ble_eq_true rfl⟩) (xpV (wc := (wD_177 h cs gI gL gA gQ)) hP hD hK hN [0, 1, 2, 3, 4, 5, 6, 7, 8, 9, 10, 11, 12, 13, 14, 15, 16] rfl (by decide) 0 (ci := 10) rfl rfl _) rfl rfl hl.1 rfl (lv_room (Nat.le_of_ble_eq_true rfl)) dX10_nearest_35 ⟨Nat.zero_le _, Nat.zero_le _⟩) (fun r_281 u_280 H locs hw hP hD hS => ?_)
      obtain ⟨hf_282, rfl⟩ := hw
      have hP : va_P (dC, dI) vwCl (rW h cs gI gL gA gQ) H := hP
      have hD : va_D A0 (rW h cs gI gL gA gQ) := hD
      obtain rfl := hf_282
      refine lv_icmp_ge (tgt := 95) hx hb dX10_nearest_38 (by decide) (fun c9 => False.elim (by revert c9; decide +kernel)) (fun _ => ?_)
      refine lv_iload hx hb dX10_nearest_41 (lv_at hl 1 rfl) ?_
      refine lv_aload_n hx hb dX10_nearest_43 rfl (lv_at hl 4 rfl) ?_
      refine va_get (D := (dC, dI)) (ci := 10) (v := .ref (h 16)) (C := RX10) (T := TX10) (N := 28) hx hb hts hinX10 hown hK hP 0 rfl rfl 16 (by decide) (hts (.fieldLink RX10 38 "MixedWordsModel" "offs" "[I") (by decide +kernel)) (fun _ h9 => h9) rfl dX10_nearest_44 ?_
      refine lv_iload hx hb dX10_nearest_47 (lv_at hl 0 rfl) ?_
      refine xa_iald hx hb hK hP 7 0 rfl rfl (by omega) (by decide) dX10_nearest_49 ?_
      refine xt_i (y := nI 0) (by decide +kernel) ?_
      refine lv_aload_n hx hb dX10_nearest_50 rfl (lv_at hl 4 rfl) ?_
      refine va_get (D := (dC, dI)) (ci := 10) (v := .ref (h 16)) (C := RX10) (T := TX10) (N := 28) hx hb hts hinX10 hown hK hP 0 rfl rfl 16 (by decide) (hts (.fieldLink RX10 38 "MixedWordsModel" "offs" "[I") (by decide +kernel)) (fun _ h9 => h9) rfl dX10_nearest_51 ?_
      refine lv_iload_n hx hb dX10_nearest_54 rfl (lv_at hl 2 rfl) ?_
      refine xa_iald hx hb hK hP 7 0 rfl rfl (by omega) (by decide) dX10_nearest_55 ?_
      refine xt_i (y := nI 0) (by decide +kernel) ?_
      refine lv_icmp_lt (tgt := 81) hx hb dX10_nearest_56 (by decide) (fun c9 => False.elim (by revert c9; decide +kernel)) (fun _ => ?_)
      refine lv_aload_n hx hb dX10_nearest_59 rfl (lv_at hl 4 rfl) ?_
      refine va_get (D := (dC, dI)) (ci := 10) (v := .ref (h 16)) (C := RX10) (T := TX10) (N := 28) hx hb hts hinX10 hown hK hP 0 rfl rfl 16 (by decide) (hts (.fieldLink RX10 38 "MixedWordsModel" "offs" "[I") (by decide +kernel)) (fun _ h9 => h9) rfl dX10_nearest_60 ?_
      refine lv_iload hx hb dX10_nearest_63 (lv_at hl 0 rfl) ?_
      refine xa_iald hx hb hK hP 7 0 rfl rfl (by omega) (by decide) dX10_nearest_65 ?_
      refine xt_i (y := nI 0) (by decide +kernel) ?_
      refine lv_aload_n hx hb dX10_nearest_66 rfl (lv_at hl 4 rfl) ?_
      refine va_get (D := (dC, dI)) (ci := 10) (v := .ref (h 16)) (C := RX10) (T := TX10) (N := 28) hx hb hts hinX10 hown hK hP 0 rfl rfl 16 (by decide) (hts (.fieldLink RX10 38 "MixedWordsModel" "offs" "[I") (by decide +kernel)) (fun _ h9 => h9) rfl dX10_nearest_67 ?_
      refine lv_iload_n hx hb dX10_nearest_70 rfl (lv_at hl 2 rfl) ?_
      refine xa_iald hx hb hK hP 7 0 rfl rfl (by omega) (by decide) dX10_nearest_71 ?_
      refine xt_i (y := nI 0) (by decide +kernel) ?_
      refine lv_icmp_ne (tgt := 85) hx hb dX10_nearest_72 (by decide) (fun c9 => False.elim (by revert c9; decide +kernel)) (fun _ => ?_)
      refine lv_iload hx hb dX10_nearest_75 (lv_at hl 0 rfl) ?_
      refine lv_iload_n hx hb dX10_nearest_77 rfl (lv_at hl 2 rfl) ?_
      refine lv_icmp_ge (tgt := 85) hx hb dX10_nearest_78 (by decide) (fun _ => ?_) (fun c9 => False.elim (by revert c9; decide +kernel))
      refine lv_iconst (v := nI 0) hx hb dX10_nearest_85 (by decide) ?_
      refine lv_iadd hx hb dX10_nearest_86 ?_
      refine xt_i (y := nI 1) (by decide +kernel) ?_
      refine lv_istore (lv' := [(4, .int (nI 1)), (5, .int (nI 3)), (3, .int (nI 1)), (2, .int (-1)), (0, .ref (h 0)), (1, .int (nI 3))]) hx hb dX10_nearest_87 hl (by decide) rfl (fun ls hl => ?_)
      refine lv_iinc (v := nI 4) (lv' := [(5, .int (nI 4)), (4, .int (nI 1)), (3, .int (nI 1)), (2, .int (-1)), (0, .ref (h 0)), (1, .int (nI 3))]) hx hb dX10_nearest_89 hl (k := 1) rfl (by decide +kernel) (by decide) rfl (fun ls hl => ?_)
      refine lv_goto (tgt := 32) hx hb dX10_nearest_92 (by decide) ?_
      refine lv_iload hx hb dX10_nearest_32 (lv_at hl 0 rfl) ?_
      refine lv_aload_n hx hb dX10_nearest_34 rfl (lv_at hl 4 rfl) ?_
      refine xj_i (wc := (wD_177 h cs gI gL gA gQ)) (wr := ([] : va_W)) hP hD hS hA [0, 1, 2, 3, 4, 5, 6, 7, 8, 9, 10, 11, 12, 13, 14, 15, 16] [] rfl rfl (by decide) (by decide) (va_runV (As := []) (rest := [.int (nI 4)]) ⟨hx, hb, hml, hown, hts⟩ (a_X10_words_179 l dC dI h cs H.size gI gL gA gQ ) (cwV 0 hts gX10_nearest_X10_words rfl rfl rfl (by decide +kernel) ⟨Nat.le_of_ble_eq_true rfl, Nat.le_of_ble_eq_true rfl⟩) (xpV (wc := (wD_177 h cs gI gL gA gQ)) hP hD hK hN [0, 1, 2, 3, 4, 5, 6, 7, 8, 9, 10, 11, 12, 13, 14, 15, 16] rfl (by decide) 0 (ci := 10) rfl rfl _) rfl rfl hl.1 rfl (lv_room (Nat.le_of_ble_eq_true rfl)) dX10_nearest_35 ⟨Nat.zero_le _, Nat.zero_le _⟩) (fun r_284 u_283 H locs hw hP hD hS => ?_)
      obtain ⟨hf_285, rfl⟩ := hw
      have hP : va_P (dC, dI) vwCl (rW h cs gI gL gA gQ) H := hP
      have hD : va_D A0 (rW h cs gI gL gA gQ) := hD
      obtain rfl := hf_285
      refine lv_icmp_ge (tgt := 95) hx hb dX10_nearest_38 (by decide) (fun _ => ?_) (fun c9 => False.elim (by revert c9; decide +kernel))
      refine lv_iload hx hb dX10_nearest_95 (lv_at hl 1 rfl) ?_
      refine lv_iload_n hx hb dX10_nearest_97 rfl (lv_at hl 5 rfl) ?_
      refine lv_icmp_ne (tgt := 105) hx hb dX10_nearest_98 (by decide) (fun _ => ?_) (fun c9 => False.elim (by revert c9; decide +kernel))
      refine lv_iload_n hx hb dX10_nearest_105 rfl (lv_at hl 3 rfl) ?_
      refine lv_istore_n (lv' := [(2, .int (-1)), (5, .int (nI 4)), (4, .int (nI 1)), (3, .int (nI 1)), (0, .ref (h 0)), (1, .int (nI 3))]) hx hb dX10_nearest_106 rfl hl (by decide) rfl (fun ls hl => ?_)
      refine lv_iinc (v := nI 2) (lv' := [(3, .int (nI 2)), (2, .int (-1)), (5, .int (nI 4)), (4, .int (nI 1)), (0, .ref (h 0)), (1, .int (nI 3))]) hx hb dX10_nearest_107 hl (k := 3) rfl (by decide +kernel) (by decide) rfl (fun ls hl => ?_)
      refine lv_goto (tgt := 18) hx hb dX10_nearest_110 (by decide) ?_
      refine lv_iload_n hx hb dX10_nearest_18 rfl (lv_at hl 0 rfl) ?_
      refine lv_aload_n hx hb dX10_nearest_19 rfl (lv_at hl 4 rfl) ?_
      refine xj_i (wc := (wD_177 h cs gI gL gA gQ)) (wr := ([] : va_W)) hP hD hS hA [0, 1, 2, 3, 4, 5, 6, 7, 8, 9, 10, 11, 12, 13, 14, 15, 16] [] rfl rfl (by decide) (by decide) (va_runV (As := []) (rest := [.int (nI 2)]) ⟨hx, hb, hml, hown, hts⟩ (a_X10_words_179 l dC dI h cs H.size gI gL gA gQ ) (cwV 0 hts gX10_nearest_X10_words rfl rfl rfl (by decide +kernel) ⟨Nat.le_of_ble_eq_true rfl, Nat.le_of_ble_eq_true rfl⟩) (xpV (wc := (wD_177 h cs gI gL gA gQ)) hP hD hK hN [0, 1, 2, 3, 4, 5, 6, 7, 8, 9, 10, 11, 12, 13, 14, 15, 16] rfl (by decide) 0 (ci := 10) rfl rfl _) rfl rfl hl.1 rfl (lv_room (Nat.le_of_ble_eq_true rfl)) dX10_nearest_20 ⟨Nat.zero_le _, Nat.zero_le _⟩) (fun r_287 u_286 H locs hw hP hD hS => ?_)
      obtain ⟨hf_288, rfl⟩ := hw
      have hP : va_P (dC, dI) vwCl (rW h cs gI gL gA gQ) H := hP
      have hD : va_D A0 (rW h cs gI gL gA gQ) := hD
      obtain rfl := hf_288
      refine lv_icmp_ge (tgt := 113) hx hb dX10_nearest_23 (by decide) (fun c9 => False.elim (by revert c9; decide +kernel)) (fun _ => ?_)
      refine lv_iconst (v := nI 0) hx hb dX10_nearest_26 (by decide) ?_
      refine lv_istore (lv' := [(4, .int (nI 0)), (3, .int (nI 2)), (2, .int (-1)), (5, .int (nI 4)), (0, .ref (h 0)), (1, .int (nI 3))]) hx hb dX10_nearest_27 hl (by decide) rfl (fun ls hl => ?_)
      refine lv_iconst (v := nI 0) hx hb dX10_nearest_29 (by decide) ?_
      refine lv_istore (lv' := [(5, .int (nI 0)), (4, .int (nI 0)), (3, .int (nI 2)), (2, .int (-1)), (0, .ref (h 0)), (1, .int (nI 3))]) hx hb dX10_nearest_30 hl (by decide) rfl (fun ls hl => ?_)
      refine lv_iload hx hb dX10_nearest_32 (lv_at hl 0 rfl) ?_
      refine lv_aload_n hx hb dX10_nearest_34 rfl (lv_at hl 4 rfl) ?_
      refine xj_i (wc := (wD_177 h cs gI gL gA gQ)) (wr := ([] : va_W)) hP hD hS hA [0, 1, 2, 3, 4, 5, 6, 7, 8, 9, 10, 11, 12, 13, 14, 15, 16] [] rfl rfl (by decide) (by decide) (va_runV (As := []) (rest := [.int (nI 0)]) ⟨hx, hb, hml, hown, hts⟩ (a_X10_words_179 l dC dI h cs H.size gI gL gA gQ ) (cwV 0 hts gX10_nearest_X10_words rfl rfl rfl (by decide +kernel) ⟨Nat.le_of_ble_eq_true rfl, Nat.le_of_ble_eq_true rfl⟩) (xpV (wc := (wD_177 h cs gI gL gA gQ)) hP hD hK hN [0, 1, 2, 3, 4, 5, 6, 7, 8, 9, 10, 11, 12, 13, 14, 15, 16] rfl (by decide) 0 (ci := 10) rfl rfl _) rfl rfl hl.1 rfl (lv_room (Nat.le_of_ble_eq_true rfl)) dX10_nearest_35 ⟨Nat.zero_le _, Nat.zero_le _⟩) (fun r_290 u_289 H locs hw hP hD hS => ?_)
      obtain ⟨hf_291, rfl⟩ := hw
      have hP : va_P (dC, dI) vwCl (rW h cs gI gL gA gQ) H := hP
      have hD : va_D A0 (rW h cs gI gL gA gQ) := hD
      obtain rfl := hf_291
      refine lv_icmp_ge (tgt := 95) hx hb dX10_nearest_38 (by decide) (fun c9 => False.elim (by revert c9; decide +kernel)) (fun _ => ?_)
      refine lv_iload hx hb dX10_nearest_41 (lv_at hl 1 rfl) ?_
      refine lv_aload_n hx hb dX10_nearest_43 rfl (lv_at hl 4 rfl) ?_
      refine va_get (D := (dC, dI)) (ci := 10) (v := .ref (h 16)) (C := RX10) (T := TX10) (N := 28) hx hb hts hinX10 hown hK hP 0 rfl rfl 16 (by decide) (hts (.fieldLink RX10 38 "MixedWordsModel" "offs" "[I") (by decide +kernel)) (fun _ h9 => h9) rfl dX10_nearest_44 ?_
      refine lv_iload hx hb dX10_nearest_47 (lv_at hl 0 rfl) ?_
      refine xa_iald hx hb hK hP 7 0 rfl rfl (by omega) (by decide) dX10_nearest_49 ?_
      refine xt_i (y := nI 0) (by decide +kernel) ?_
      refine lv_aload_n hx hb dX10_nearest_50 rfl (lv_at hl 4 rfl) ?_
      refine va_get (D := (dC, dI)) (ci := 10) (v := .ref (h 16)) (C := RX10) (T := TX10) (N := 28) hx hb hts hinX10 hown hK hP 0 rfl rfl 16 (by decide) (hts (.fieldLink RX10 38 "MixedWordsModel" "offs" "[I") (by decide +kernel)) (fun _ h9 => h9) rfl dX10_nearest_51 ?_
      refine lv_iload_n hx hb dX10_nearest_54 rfl (lv_at hl 2 rfl) ?_
      refine xa_iald hx hb hK hP 7 0 rfl rfl (by omega) (by decide) dX10_nearest_55 ?_
      refine xt_i (y := nI 0) (by decide +kernel) ?_
      refine lv_icmp_lt (tgt := 81) hx hb dX10_nearest_56 (by decide) (fun c9 => False.elim (by revert c9; decide +kernel)) (fun _ => ?_)
      refine lv_aload_n hx hb dX10_nearest_59 rfl (lv_at hl 4 rfl) ?_
      refine va_get (D := (dC, dI)) (ci := 10) (v := .ref (h 16)) (C := RX10) (T := TX10) (N := 28) hx hb hts hinX10 hown hK hP 0 rfl rfl 16 (by decide) (hts (.fieldLink RX10 38 "MixedWordsModel" "offs" "[I") (by decide +kernel)) (fun _ h9 => h9) rfl dX10_nearest_60 ?_
      refine lv_iload hx hb dX10_nearest_63 (lv_at hl 0 rfl) ?_
      refine xa_iald hx hb hK hP 7 0 rfl rfl (by omega) (by decide) dX10_nearest_65 ?_
      refine xt_i (y := nI 0) (by decide +kernel) ?_
      refine lv_aload_n hx hb dX10_nearest_66 rfl (lv_at hl 4 rfl) ?_
      refine va_get (D := (dC, dI)) (ci := 10) (v := .ref (h 16)) (C := RX10) (T := TX10) (N := 28) hx hb hts hinX10 hown hK hP 0 rfl rfl 16 (by decide) (hts (.fieldLink RX10 38 "MixedWordsModel" "offs" "[I") (by decide +kernel)) (fun _ h9 => h9) rfl dX10_nearest_67 ?_
      refine lv_iload_n hx hb dX10_nearest_70 rfl (lv_at hl 2 rfl) ?_
      refine xa_iald hx hb hK hP 7 0 rfl rfl (by omega) (by decide) dX10_nearest_71 ?_
      refine xt_i (y := nI 0) (by decide +kernel) ?_
      refine lv_icmp_ne (tgt := 85) hx hb dX10_nearest_72 (by decide) (fun c9 => False.elim (by revert c9; decide +kernel)) (fun _ => ?_)
      refine lv_iload hx hb dX10_nearest_75 (lv_at hl 0 rfl) ?_
      refine lv_iload_n hx hb dX10_nearest_77 rfl (lv_at hl 2 rfl) ?_
      refine lv_icmp_ge (tgt := 85) hx hb dX10_nearest_78 (by decide) (fun c9 => False.elim (by revert c9; decide +kernel)) (fun _ => ?_)
      refine lv_iconst (v := nI 1) hx hb dX10_nearest_81 (by decide) ?_
      refine lv_goto (tgt := 86) hx hb dX10_nearest_82 (by decide) ?_
      refine lv_iadd hx hb dX10_nearest_86 ?_
      refine xt_i (y := nI 1) (by decide +kernel) ?_
      refine lv_istore (lv' := [(4, .int (nI 1)), (5, .int (nI 0)), (3, .int (nI 2)), (2, .int (-1)), (0, .ref (h 0)), (1, .int (nI 3))]) hx hb dX10_nearest_87 hl (by decide) rfl (fun ls hl => ?_)
      refine lv_iinc (v := nI 1) (lv' := [(5, .int (nI 1)), (4, .int (nI 1)), (3, .int (nI 2)), (2, .int (-1)), (0, .ref (h 0)), (1, .int (nI 3))]) hx hb dX10_nearest_89 hl (k := 1) rfl (by decide +kernel) (by decide) rfl (fun ls hl => ?_)
      refine lv_goto (tgt := 32) hx hb dX10_nearest_92 (by decide) ?_
      refine lv_iload hx hb dX10_nearest_32 (lv_at hl 0 rfl) ?_
      refine lv_aload_n hx hb dX10_nearest_34 rfl (lv_at hl 4 rfl) ?_
      refine xj_i (wc := (wD_177 h cs gI gL gA gQ)) (wr := ([] : va_W)) hP hD hS hA [0, 1, 2, 3, 4, 5, 6, 7, 8, 9, 10, 11, 12, 13, 14, 15, 16] [] rfl rfl (by decide) (by decide) (va_runV (As := []) (rest := [.int (nI 1)]) ⟨hx, hb, hml, hown, hts⟩ (a_X10_words_179 l dC dI h cs H.size gI gL gA gQ ) (cwV 0 hts gX10_nearest_X10_words rfl rfl rfl (by decide +kernel) ⟨Nat.le_of_ble_eq_true rfl, Nat.le_of_ble_eq_true rfl⟩) (xpV (wc := (wD_177 h cs gI gL gA gQ)) hP hD hK hN [0, 1, 2, 3, 4, 5, 6, 7, 8, 9, 10, 11, 12, 13, 14, 15, 16] rfl (by decide) 0 (ci := 10) rfl rfl _) rfl rfl hl.1 rfl (lv_room (Nat.le_of_ble_eq_true rfl)) dX10_nearest_35 ⟨Nat.zero_le _, Nat.zero_le _⟩) (fun r_293 u_292 H locs hw hP hD hS => ?_)
      obtain ⟨hf_294, rfl⟩ := hw
      have hP : va_P (dC, dI) vwCl (rW h cs gI gL gA gQ) H := hP
      have hD : va_D A0 (rW h cs gI gL gA gQ) := hD
      obtain rfl := hf_294
      refine lv_icmp_ge (tgt := 95) hx hb dX10_nearest_38 (by decide) (fun c9 => False.elim (by revert c9; decide +kernel)) (fun _ => ?_)
      refine lv_iload hx hb dX10_nearest_41 (lv_at hl 1 rfl) ?_
      refine lv_aload_n hx hb dX10_nearest_43 rfl (lv_at hl 4 rfl) ?_
      refine va_get (D := (dC, dI)) (ci := 10) (v := .ref (h 16)) (C := RX10) (T := TX10) (N := 28) hx hb hts hinX10 hown hK hP 0 rfl rfl 16 (by decide) (hts (.fieldLink RX10 38 "MixedWordsModel" "offs" "[I") (by decide +kernel)) (fun _ h9 => h9) rfl dX10_nearest_44 ?_
      refine lv_iload hx hb dX10_nearest_47 (lv_at hl 0 rfl) ?_
      refine xa_iald hx hb hK hP 7 0 rfl rfl (by omega) (by decide) dX10_nearest_49 ?_
      refine xt_i (y := nI 0) (by decide +kernel) ?_
      refine lv_aload_n hx hb dX10_nearest_50 rfl (lv_at hl 4 rfl) ?_
      refine va_get (D := (dC, dI)) (ci := 10) (v := .ref (h 16)) (C := RX10) (T := TX10) (N := 28) hx hb hts hinX10 hown hK hP 0 rfl rfl 16 (by decide) (hts (.fieldLink RX10 38 "MixedWordsModel" "offs" "[I") (by decide +kernel)) (fun _ h9 => h9) rfl dX10_nearest_51 ?_
      refine lv_iload_n hx hb dX10_nearest_54 rfl (lv_at hl 2 rfl) ?_
      refine xa_iald hx hb hK hP 7 0 rfl rfl (by omega) (by decide) dX10_nearest_55 ?_
      refine xt_i (y := nI 0) (by decide +kernel) ?_
      refine lv_icmp_lt (tgt := 81) hx hb dX10_nearest_56 (by decide) (fun c9 => False.elim (by revert c9; decide +kernel)) (fun _ => ?_)
      refine lv_aload_n hx hb dX10_nearest_59 rfl (lv_at hl 4 rfl) ?_
      refine va_get (D := (dC, dI)) (ci := 10) (v := .ref (h 16)) (C := RX10) (T := TX10) (N := 28) hx hb hts hinX10 hown hK hP 0 rfl rfl 16 (by decide) (hts (.fieldLink RX10 38 "MixedWordsModel" "offs" "[I") (by decide +kernel)) (fun _ h9 => h9) rfl dX10_nearest_60 ?_
      refine lv_iload hx hb dX10_nearest_63 (lv_at hl 0 rfl) ?_
      refine xa_iald hx hb hK hP 7 0 rfl rfl (by omega) (by decide) dX10_nearest_65 ?_
      refine xt_i (y := nI 0) (by decide +kernel) ?_
      refine lv_aload_n hx hb dX10_nearest_66 rfl (lv_at hl 4 rfl) ?_
      refine va_get (D := (dC, dI)) (ci := 10) (v := .ref (h 16)) (C := RX10) (T := TX10) (N := 28) hx hb hts hinX10 hown hK hP 0 rfl rfl 16 (by decide) (hts (.fieldLink RX10 38 "MixedWordsModel" "offs" "[I") (by decide +kernel)) (fun _ h9 => h9) rfl dX10_nearest_67 ?_
      refine lv_iload_n hx hb dX10_nearest_70 rfl (lv_at hl 2 rfl) ?_
      refine xa_iald hx hb hK hP 7 0 rfl rfl (by omega) (by decide) dX10_nearest_71 ?_
      refine xt_i (y := nI 0) (by decide +kernel) ?_
      refine lv_icmp_ne (tgt := 85) hx hb dX10_nearest_72 (by decide) (fun c9 => False.elim (by revert c9; decide +kernel)) (fun _ => ?_)
      refine lv_iload hx hb dX10_nearest_75 (lv_at hl 0 rfl) ?_
      refine lv_iload_n hx hb dX10_nearest_77 rfl (lv_at hl 2 rfl) ?_
      refine lv_icmp_ge (tgt := 85) hx hb dX10_nearest_78 (by decide) (fun c9 => False.elim (by revert c9; decide +kernel)) (fun _ => ?_)
      refine lv_iconst (v := nI 1) hx hb dX10_nearest_81 (by decide) ?_
      refine lv_goto (tgt := 86) hx hb dX10_nearest_82 (by decide) ?_
      refine lv_iadd hx hb dX10_nearest_86 ?_
      refine xt_i (y := nI 2) (by decide +kernel) ?_
      refine lv_istore (lv' := [(4, .int (nI 2)), (5, .int (nI 1)), (3, .int (nI 2)), (2, .int (-1)), (0, .ref (h 0)), (1, .int (nI 3))]) hx hb dX10_nearest_87 hl (by decide) rfl (fun ls hl => ?_)
      refine lv_iinc (v := nI 2) (lv' := [(5, .int (nI 2)), (4, .int (nI 2)), (3, .int (nI 2)), (2, .int (-1)), (0, .ref (h 0)), (1, .int (nI 3))]) hx hb dX10_nearest_89 hl (k := 1) rfl (by decide +kernel) (by decide) rfl (fun ls hl => ?_)
      refine lv_goto (tgt := 32) hx hb dX10_nearest_92 (by decide) ?_
      refine lv_iload hx hb dX10_nearest_32 (lv_at hl 0 rfl) ?_
      refine lv_aload_n hx hb dX10_nearest_34 rfl (lv_at hl 4 rfl) ?_
      refine xj_i (wc := (wD_177 h cs gI gL gA gQ)) (wr := ([] : va_W)) hP hD hS hA [0, 1, 2, 3, 4, 5, 6, 7, 8, 9, 10, 11, 12, 13, 14, 15, 16] [] rfl rfl (by decide) (by decide) (va_runV (As := []) (rest := [.int (nI 2)]) ⟨hx, hb, hml, hown, hts⟩ (a_X10_words_179 l dC dI h cs H.size gI gL gA gQ ) (cwV 0 hts gX10_nearest_X10_words rfl rfl rfl (by decide +kernel) ⟨Nat.le_of_ble_eq_true rfl, Nat.le_of_ble_eq_true rfl⟩) (xpV (wc := (wD_177 h cs gI gL gA gQ)) hP hD hK hN [0, 1, 2, 3, 4, 5, 6, 7, 8, 9, 10, 11, 12, 13, 14, 15, 16] rfl (by decide) 0 (ci := 10) rfl rfl _) rfl rfl hl.1 rfl (lv_room (Nat.le_of_ble_eq_true rfl)) dX10_nearest_35 ⟨Nat.zero_le _, Nat.zero_le _⟩) (fun r_296 u_295 H locs hw hP hD hS => ?_)
      obtain ⟨hf_297, rfl⟩ := hw
      have hP : va_P (dC, dI) vwCl (rW h cs gI gL gA gQ) H := hP
      have hD : va_D A0 (rW h cs gI gL gA gQ) := hD
      obtain rfl := hf_297
      refine lv_icmp_ge (tgt := 95) hx hb dX10_nearest_38 (by decide) (fun c9 => False.elim (by revert c9; decide +kernel)) (fun _ => ?_)
      refine lv_iload hx hb dX10_nearest_41 (lv_at hl 1 rfl) ?_
      refine lv_aload_n hx hb dX10_nearest_43 rfl (lv_at hl 4 rfl) ?_
      refine va_get (D := (dC, dI)) (ci := 10) (v := .ref (h 16)) (C := RX10) (T := TX10) (N := 28) hx hb hts hinX10 hown hK hP 0 rfl rfl 16 (by decide) (hts (.fieldLink RX10 38 "MixedWordsModel" "offs" "[I") (by decide +kernel)) (fun _ h9 => h9) rfl dX10_nearest_44 ?_
      refine lv_iload hx hb dX10_nearest_47 (lv_at hl 0 rfl) ?_
      refine xa_iald hx hb hK hP 7 0 rfl rfl (by omega) (by decide) dX10_nearest_49 ?_
      refine xt_i (y := nI 0) (by decide +kernel) ?_
      refine lv_aload_n hx hb dX10_nearest_50 rfl (lv_at hl 4 rfl) ?_
      refine va_get (D := (dC, dI)) (ci := 10) (v := .ref (h 16)) (C := RX10) (T := TX10) (N := 28) hx hb hts hinX10 hown hK hP 0 rfl rfl 16 (by decide) (hts (.fieldLink RX10 38 "MixedWordsModel" "offs" "[I") (by decide +kernel)) (fun _ h9 => h9) rfl dX10_nearest_51 ?_
      refine lv_iload_n hx hb dX10_nearest_54 rfl (lv_at hl 2 rfl) ?_
      refine xa_iald hx hb hK hP 7 0 rfl rfl (by omega) (by decide) dX10_nearest_55 ?_
      refine xt_i (y := nI 0) (by decide +kernel) ?_
      refine lv_icmp_lt (tgt := 81) hx hb dX10_nearest_56 (by decide) (fun c9 => False.elim (by revert c9; decide +kernel)) (fun _ => ?_)
      refine lv_aload_n hx hb dX10_nearest_59 rfl (lv_at hl 4 rfl) ?_
      refine va_get (D := (dC, dI)) (ci := 10) (v := .ref (h 16)) (C := RX10) (T := TX10) (N := 28) hx hb hts hinX10 hown hK hP 0 rfl rfl 16 (by decide) (hts (.fieldLink RX10 38 "MixedWordsModel" "offs" "[I") (by decide +kernel)) (fun _ h9 => h9) rfl dX10_nearest_60 ?_
      refine lv_iload hx hb dX10_nearest_63 (lv_at hl 0 rfl) ?_
      refine xa_iald hx hb hK hP 7 0 rfl rfl (by omega) (by decide) dX10_nearest_65 ?_
      refine xt_i (y := nI 0) (by decide +kernel) ?_
      refine lv_aload_n hx hb dX10_nearest_66 rfl (lv_at hl 4 rfl) ?_
      refine va_get (D := (dC, dI)) (ci := 10) (v := .ref (h 16)) (C := RX10) (T := TX10) (N := 28) hx hb hts hinX10 hown hK hP 0 rfl rfl 16 (by decide) (hts (.fieldLink RX10 38 "MixedWordsModel" "offs" "[I") (by decide +kernel)) (fun _ h9 => h9) rfl dX10_nearest_67 ?_
      refine lv_iload_n hx hb dX10_nearest_70 rfl (lv_at hl 2 rfl) ?_
      refine xa_iald hx hb hK hP 7 0 rfl rfl (by omega) (by decide) dX10_nearest_71 ?_
      refine xt_i (y := nI 0) (by decide +kernel) ?_
      refine lv_icmp_ne (tgt := 85) hx hb dX10_nearest_72 (by decide) (fun c9 => False.elim (by revert c9; decide +kernel)) (fun _ => ?_)
      refine lv_iload hx hb dX10_nearest_75 (lv_at hl 0 rfl) ?_
      refine lv_iload_n hx hb dX10_nearest_77 rfl (lv_at hl 2 rfl) ?_
      refine lv_icmp_ge (tgt := 85) hx hb dX10_nearest_78 (by decide) (fun _ => ?_) (fun c9 => False.elim (by revert c9; decide +kernel))
      refine lv_iconst (v := nI 0) hx hb dX10_nearest_85 (by decide) ?_
      refine lv_iadd hx hb dX10_nearest_86 ?_
      refine xt_i (y := nI 2) (by decide +kernel) ?_
      refine lv_istore (lv' := [(4, .int (nI 2)), (5, .int (nI 2)), (3, .int (nI 2)), (2, .int (-1)), (0, .ref (h 0)), (1, .int (nI 3))]) hx hb dX10_nearest_87 hl (by decide) rfl (fun ls hl => ?_)
      refine lv_iinc (v := nI 3) (lv' := [(5, .int (nI 3)), (4, .int (nI 2)), (3, .int (nI 2)), (2, .int (-1)), (0, .ref (h 0)), (1, .int (nI 3))]) hx hb dX10_nearest_89 hl (k := 1) rfl (by decide +kernel) (by decide) rfl (fun ls hl => ?_)
      refine lv_goto (tgt := 32) hx hb dX10_nearest_92 (by decide) ?_
      refine lv_iload hx hb dX10_nearest_32 (lv_at hl 0 rfl) ?_
      refine lv_aload_n hx hb dX10_nearest_34 rfl (lv_at hl 4 rfl) ?_
      refine xj_i (wc := (wD_177 h cs gI gL gA gQ)) (wr := ([] : va_W)) hP hD hS hA [0, 1, 2, 3, 4, 5, 6, 7, 8, 9, 10, 11, 12, 13, 14, 15, 16] [] rfl rfl (by decide) (by decide) (va_runV (As := []) (rest := [.int (nI 3)]) ⟨hx, hb, hml, hown, hts⟩ (a_X10_words_179 l dC dI h cs H.size gI gL gA gQ ) (cwV 0 hts gX10_nearest_X10_words rfl rfl rfl (by decide +kernel) ⟨Nat.le_of_ble_eq_true rfl, Nat.le_of_ble_eq_true rfl⟩) (xpV (wc := (wD_177 h cs gI gL gA gQ)) hP hD hK hN [0, 1, 2, 3, 4, 5, 6, 7, 8, 9, 10, 11, 12, 13, 14, 15, 16] rfl (by decide) 0 (ci := 10) rfl rfl _) rfl rfl hl.1 rfl (lv_room (Nat.le_of_ble_eq_true rfl)) dX10_nearest_35 ⟨Nat.zero_le _, Nat.zero_le _⟩) (fun r_299 u_298 H locs hw hP hD hS => ?_)
      obtain ⟨hf_300, rfl⟩ := hw
      have hP : va_P (dC, dI) vwCl (rW h cs gI gL gA gQ) H := hP
      have hD : va_D A0 (rW h cs gI gL gA gQ) := hD
      obtain rfl := hf_300
      refine lv_icmp_ge (tgt := 95) hx hb dX10_nearest_38 (by decide) (fun c9 => False.elim (by revert c9; decide +kernel)) (fun _ => ?_)
      refine lv_iload hx hb dX10_nearest_41 (lv_at hl 1 rfl) ?_
      refine lv_aload_n hx hb dX10_nearest_43 rfl (lv_at hl 4 rfl) ?_
      refine va_get (D := (dC, dI)) (ci := 10) (v := .ref (h 16)) (C := RX10) (T := TX10) (N := 28) hx hb hts hinX10 hown hK hP 0 rfl rfl 16 (by decide) (hts (.fieldLink RX10 38 "MixedWordsModel" "offs" "[I") (by decide +kernel)) (fun _ h9 => h9) rfl dX10_nearest_44 ?_
      refine lv_iload hx hb dX10_nearest_47 (lv_at hl 0 rfl) ?_
      refine xa_iald hx hb hK hP 7 0 rfl rfl (by omega) (by decide) dX10_nearest_49 ?_
      refine xt_i (y := nI 0) (by decide +kernel) ?_
      refine lv_aload_n hx hb dX10_nearest_50 rfl (lv_at hl 4 rfl) ?_
      refine va_get (D := (dC, dI)) (ci := 10) (v := .ref (h 16)) (C := RX10) (T := TX10) (N := 28) hx hb hts hinX10 hown hK hP 0 rfl rfl 16 (by decide) (hts (.fieldLink RX10 38 "MixedWordsModel" "offs" "[I") (by decide +kernel)) (fun _ h9 => h9) rfl dX10_nearest_51 ?_
      refine lv_iload_n hx hb dX10_nearest_54 rfl (lv_at hl 2 rfl) ?_
      refine xa_iald hx hb hK hP 7 0 rfl rfl (by omega) (by decide) dX10_nearest_55 ?_
      refine xt_i (y := nI 0) (by decide +kernel) ?_
      refine lv_icmp_lt (tgt := 81) hx hb dX10_nearest_56 (by decide) (fun c9 => False.elim (by revert c9; decide +kernel)) (fun _ => ?_)
      refine lv_aload_n hx hb dX10_nearest_59 rfl (lv_at hl 4 rfl) ?_
      refine va_get (D := (dC, dI)) (ci := 10) (v := .ref (h 16)) (C := RX10) (T := TX10) (N := 28) hx hb hts hinX10 hown hK hP 0 rfl rfl 16 (by decide) (hts (.fieldLink RX10 38 "MixedWordsModel" "offs" "[I") (by decide +kernel)) (fun _ h9 => h9) rfl dX10_nearest_60 ?_
      refine lv_iload hx hb dX10_nearest_63 (lv_at hl 0 rfl) ?_
      refine xa_iald hx hb hK hP 7 0 rfl rfl (by omega) (by decide) dX10_nearest_65 ?_
      refine xt_i (y := nI 0) (by decide +kernel) ?_
      refine lv_aload_n hx hb dX10_nearest_66 rfl (lv_at hl 4 rfl) ?_
      refine va_get (D := (dC, dI)) (ci := 10) (v := .ref (h 16)) (C := RX10) (T := TX10) (N := 28) hx hb hts hinX10 hown hK hP 0 rfl rfl 16 (by decide) (hts (.fieldLink RX10 38 "MixedWordsModel" "offs" "[I") (by decide +kernel)) (fun _ h9 => h9) rfl dX10_nearest_67 ?_
      refine lv_iload_n hx hb dX10_nearest_70 rfl (lv_at hl 2 rfl) ?_
      refine xa_iald hx hb hK hP 7 0 rfl rfl (by omega) (by decide) dX10_nearest_71 ?_
      refine xt_i (y := nI 0) (by decide +kernel) ?_
      refine lv_icmp_ne (tgt := 85) hx hb dX10_nearest_72 (by decide) (fun c9 => False.elim (by revert c9; decide +kernel)) (fun _ => ?_)
      refine lv_iload hx hb dX10_nearest_75 (lv_at hl 0 rfl) ?_
      refine lv_iload_n hx hb dX10_nearest_77 rfl (lv_at hl 2 rfl) ?_
      refine lv_icmp_ge (tgt := 85) hx hb dX10_nearest_78 (by decide) (fun _ => ?_) (fun c9 => False.elim (by revert c9; decide +kernel))
      refine lv_iconst (v := nI 0) hx hb dX10_nearest_85 (by decide) ?_
      refine lv_iadd hx hb dX10_nearest_86 ?_
      refine xt_i (y := nI 2) (by decide +kernel) ?_
      refine lv_istore (lv' := [(4, .int (nI 2)), (5, .int (nI 3)), (3, .int (nI 2)), (2, .int (-1)), (0, .ref (h 0)), (1, .int (nI 3))]) hx hb dX10_nearest_87 hl (by decide) rfl (fun ls hl => ?_)
      refine lv_iinc (v := nI 4) (lv' := [(5, .int (nI 4)), (4, .int (nI 2)), (3, .int (nI 2)), (2, .int (-1)), (0, .ref (h 0)), (1, .int (nI 3))]) hx hb dX10_nearest_89 hl (k := 1) rfl (by decide +kernel) (by decide) rfl (fun ls hl => ?_)
      refine lv_goto (tgt := 32) hx hb dX10_nearest_92 (by decide) ?_
      refine lv_iload hx hb dX10_nearest_32 (lv_at hl 0 rfl) ?_
      refine lv_aload_n hx hb dX10_nearest_34 rfl (lv_at hl 4 rfl) ?_
      refine xj_i (wc := (wD_177 h cs gI gL gA gQ)) (wr := ([] : va_W)) hP hD hS hA [0, 1, 2, 3, 4, 5, 6, 7, 8, 9, 10, 11, 12, 13, 14, 15, 16] [] rfl rfl (by decide) (by decide) (va_runV (As := []) (rest := [.int (nI 4)]) ⟨hx, hb, hml, hown, hts⟩ (a_X10_words_179 l dC dI h cs H.size gI gL gA gQ ) (cwV 0 hts gX10_nearest_X10_words rfl rfl rfl (by decide +kernel) ⟨Nat.le_of_ble_eq_true rfl, Nat.le_of_ble_eq_true rfl⟩) (xpV (wc := (wD_177 h cs gI gL gA gQ)) hP hD hK hN [0, 1, 2, 3, 4, 5, 6, 7, 8, 9, 10, 11, 12, 13, 14, 15, 16] rfl (by decide) 0 (ci := 10) rfl rfl _) rfl rfl hl.1 rfl (lv_room (Nat.le_of_ble_eq_true rfl)) dX10_nearest_35 ⟨Nat.zero_le _, Nat.zero_le _⟩) (fun r_302 u_301 H locs hw hP hD hS => ?_)
      obtain ⟨hf_303, rfl⟩ := hw
      have hP : va_P (dC, dI) vwCl (rW h cs gI gL gA gQ) H := hP
      have hD : va_D A0 (rW h cs gI gL gA gQ) := hD
      obtain rfl := hf_303
      refine lv_icmp_ge (tgt := 95) hx hb dX10_nearest_38 (by decide) (fun _ => ?_) (fun c9 => False.elim (by revert c9; decide +kernel))
      refine lv_iload hx hb dX10_nearest_95 (lv_at hl 1 rfl) ?_
      refine lv_iload_n hx hb dX10_nearest_97 rfl (lv_at hl 5 rfl) ?_
      refine lv_icmp_ne (tgt := 105) hx hb dX10_nearest_98 (by decide) (fun _ => ?_) (fun c9 => False.elim (by revert c9; decide +kernel))
      refine lv_iload_n hx hb dX10_nearest_105 rfl (lv_at hl 3 rfl) ?_
      refine lv_istore_n (lv' := [(2, .int (-1)), (5, .int (nI 4)), (4, .int (nI 2)), (3, .int (nI 2)), (0, .ref (h 0)), (1, .int (nI 3))]) hx hb dX10_nearest_106 rfl hl (by decide) rfl (fun ls hl => ?_)
      refine lv_iinc (v := nI 3) (lv' := [(3, .int (nI 3)), (2, .int (-1)), (5, .int (nI 4)), (4, .int (nI 2)), (0, .ref (h 0)), (1, .int (nI 3))]) hx hb dX10_nearest_107 hl (k := 3) rfl (by decide +kernel) (by decide) rfl (fun ls hl => ?_)
      refine lv_goto (tgt := 18) hx hb dX10_nearest_110 (by decide) ?_
      refine lv_iload_n hx hb dX10_nearest_18 rfl (lv_at hl 0 rfl) ?_
      refine lv_aload_n hx hb dX10_nearest_19 rfl (lv_at hl 4 rfl) ?_
      refine xj_i (wc := (wD_177 h cs gI gL gA gQ)) (wr := ([] : va_W)) hP hD hS hA [0, 1, 2, 3, 4, 5, 6, 7, 8, 9, 10, 11, 12, 13, 14, 15, 16] [] rfl rfl (by decide) (by decide) (va_runV (As := []) (rest := [.int (nI 3)]) ⟨hx, hb, hml, hown, hts⟩ (a_X10_words_179 l dC dI h cs H.size gI gL gA gQ ) (cwV 0 hts gX10_nearest_X10_words rfl rfl rfl (by decide +kernel) ⟨Nat.le_of_ble_eq_true rfl, Nat.le_of_ble_eq_true rfl⟩) (xpV (wc := (wD_177 h cs gI gL gA gQ)) hP hD hK hN [0, 1, 2, 3, 4, 5, 6, 7, 8, 9, 10, 11, 12, 13, 14, 15, 16] rfl (by decide) 0 (ci := 10) rfl rfl _) rfl rfl hl.1 rfl (lv_room (Nat.le_of_ble_eq_true rfl)) dX10_nearest_20 ⟨Nat.zero_le _, Nat.zero_le _⟩) (fun r_305 u_304 H locs hw hP hD hS => ?_)
      obtain ⟨hf_306, rfl⟩ := hw
      have hP : va_P (dC, dI) vwCl (rW h cs gI gL gA gQ) H := hP
      have hD : va_D A0 (rW h cs gI gL gA gQ) := hD
      obtain rfl := hf_306
      refine lv_icmp_ge (tgt := 113) hx hb dX10_nearest_23 (by decide) (fun c9 => False.elim (by revert c9; decide +kernel)) (fun _ => ?_)
      refine lv_iconst (v := nI 0) hx hb dX10_nearest_26 (by decide) ?_
      refine lv_istore (lv' := [(4, .int (nI 0)), (3, .int (nI 3)), (2, .int (-1)), (5, .int (nI 4)), (0, .ref (h 0)), (1, .int (nI 3))]) hx hb dX10_nearest_27 hl (by decide) rfl (fun ls hl => ?_)
      refine lv_iconst (v := nI 0) hx hb dX10_nearest_29 (by decide) ?_
      refine lv_istore (lv' := [(5, .int (nI 0)), (4, .int (nI 0)), (3, .int (nI 3)), (2, .int (-1)), (0, .ref (h 0)), (1, .int (nI 3))]) hx hb dX10_nearest_30 hl (by decide) rfl (fun ls hl => ?_)
      refine lv_iload hx hb dX10_nearest_32 (lv_at hl 0 rfl) ?_
      refine lv_aload_n hx hb dX10_nearest_34 rfl (lv_at hl 4 rfl) ?_
      refine xj_i (wc := (wD_177 h cs gI gL gA gQ)) (wr := ([] : va_W)) hP hD hS hA [0, 1, 2, 3, 4, 5, 6, 7, 8, 9, 10, 11, 12, 13, 14, 15, 16] [] rfl rfl (by decide) (by decide) (va_runV (As := []) (rest := [.int (nI 0)]) ⟨hx, hb, hml, hown, hts⟩ (a_X10_words_179 l dC dI h cs H.size gI gL gA gQ ) (cwV 0 hts gX10_nearest_X10_words rfl rfl rfl (by decide +kernel) ⟨Nat.le_of_ble_eq_true rfl, Nat.le_of_ble_eq_true rfl⟩) (xpV (wc := (wD_177 h cs gI gL gA gQ)) hP hD hK hN [0, 1, 2, 3, 4, 5, 6, 7, 8, 9, 10, 11, 12, 13, 14, 15, 16] rfl (by decide) 0 (ci := 10) rfl rfl _) rfl rfl hl.1 rfl (lv_room (Nat.le_of_ble_eq_true rfl)) dX10_nearest_35 ⟨Nat.zero_le _, Nat.zero_le _⟩) (fun r_308 u_307 H locs hw hP hD hS => ?_)
      obtain ⟨hf_309, rfl⟩ := hw
      have hP : va_P (dC, dI) vwCl (rW h cs gI gL gA gQ) H := hP
      have hD : va_D A0 (rW h cs gI gL gA gQ) := hD
      obtain rfl := hf_309
      refine lv_icmp_ge (tgt := 95) hx hb dX10_nearest_38 (by decide) (fun c9 => False.elim (by revert c9; decide +kernel)) (fun _ => ?_)
      refine lv_iload hx hb dX10_nearest_41 (lv_at hl 1 rfl) ?_
      refine lv_aload_n hx hb dX10_nearest_43 rfl (lv_at hl 4 rfl) ?_
      refine va_get (D := (dC, dI)) (ci := 10) (v := .ref (h 16)) (C := RX10) (T := TX10) (N := 28) hx hb hts hinX10 hown hK hP 0 rfl rfl 16 (by decide) (hts (.fieldLink RX10 38 "MixedWordsModel" "offs" "[I") (by decide +kernel)) (fun _ h9 => h9) rfl dX10_nearest_44 ?_
      refine lv_iload hx hb dX10_nearest_47 (lv_at hl 0 rfl) ?_
      refine xa_iald hx hb hK hP 7 0 rfl rfl (by omega) (by decide) dX10_nearest_49 ?_
      refine xt_i (y := nI 0) (by decide +kernel) ?_
      refine lv_aload_n hx hb dX10_nearest_50 rfl (lv_at hl 4 rfl) ?_
      refine va_get (D := (dC, dI)) (ci := 10) (v := .ref (h 16)) (C := RX10) (T := TX10) (N := 28) hx hb hts hinX10 hown hK hP 0 rfl rfl 16 (by decide) (hts (.fieldLink RX10 38 "MixedWordsModel" "offs" "[I") (by decide +kernel)) (fun _ h9 => h9) rfl dX10_nearest_51 ?_
      refine lv_iload_n hx hb dX10_nearest_54 rfl (lv_at hl 2 rfl) ?_
      refine xa_iald hx hb hK hP 7 0 rfl rfl (by omega) (by decide) dX10_nearest_55 ?_
      refine xt_i (y := nI 0) (by decide +kernel) ?_
      refine lv_icmp_lt (tgt := 81) hx hb dX10_nearest_56 (by decide) (fun c9 => False.elim (by revert c9; decide +kernel)) (fun _ => ?_)
      refine lv_aload_n hx hb dX10_nearest_59 rfl (lv_at hl 4 rfl) ?_
      refine va_get (D := (dC, dI)) (ci := 10) (v := .ref (h 16)) (C := RX10) (T := TX10) (N := 28) hx hb hts hinX10 hown hK hP 0 rfl rfl 16 (by decide) (hts (.fieldLink RX10 38 "MixedWordsModel" "offs" "[I") (by decide +kernel)) (fun _ h9 => h9) rfl dX10_nearest_60 ?_
      refine lv_iload hx hb dX10_nearest_63 (lv_at hl 0 rfl) ?_
      refine xa_iald hx hb hK hP 7 0 rfl rfl (by omega) (by decide) dX10_nearest_65 ?_
      refine xt_i (y := nI 0) (by decide +kernel) ?_
      refine lv_aload_n hx hb dX10_nearest_66 rfl (lv_at hl 4 rfl) ?_
      refine va_get (D := (dC, dI)) (ci := 10) (v := .ref (h 16)) (C := RX10) (T := TX10) (N := 28) hx hb hts hinX10 hown hK hP 0 rfl rfl 16 (by decide) (hts (.fieldLink RX10 38 "MixedWordsModel" "offs" "[I") (by decide +kernel)) (fun _ h9 => h9) rfl dX10_nearest_67 ?_
      refine lv_iload_n hx hb dX10_nearest_70 rfl (lv_at hl 2 rfl) ?_
      refine xa_iald hx hb hK hP 7 0 rfl rfl (by omega) (by decide) dX10_nearest_71 ?_
      refine xt_i (y := nI 0) (by decide +kernel) ?_
      refine lv_icmp_ne (tgt := 85) hx hb dX10_nearest_72 (by decide) (fun c9 => False.elim (by revert c9; decide +kernel)) (fun _ => ?_)
      refine lv_iload hx hb dX10_nearest_75 (lv_at hl 0 rfl) ?_
      refine lv_iload_n hx hb dX10_nearest_77 rfl (lv_at hl 2 rfl) ?_
      refine lv_icmp_ge (tgt := 85) hx hb dX10_nearest_78 (by decide) (fun c9 => False.elim (by revert c9; decide +kernel)) (fun _ => ?_)
      refine lv_iconst (v := nI 1) hx hb dX10_nearest_81 (by decide) ?_
      refine lv_goto (tgt := 86) hx hb dX10_nearest_82 (by decide) ?_
      refine lv_iadd hx hb dX10_nearest_86 ?_
      refine xt_i (y := nI 1) (by decide +kernel) ?_
      refine lv_istore (lv' := [(4, .int (nI 1)), (5, .int (nI 0)), (3, .int (nI 3)), (2, .int (-1)), (0, .ref (h 0)), (1, .int (nI 3))]) hx hb dX10_nearest_87 hl (by decide) rfl (fun ls hl => ?_)
      refine lv_iinc (v := nI 1) (lv' := [(5, .int (nI 1)), (4, .int (nI 1)), (3, .int (nI 3)), (2, .int (-1)), (0, .ref (h 0)), (1, .int (nI 3))]) hx hb dX10_nearest_89 hl (k := 1) rfl (by decide +kernel) (by decide) rfl (fun ls hl => ?_)
      refine lv_goto (tgt := 32) hx hb dX10_nearest_92 (by decide) ?_
      refine lv_iload hx hb dX10_nearest_32 (lv_at hl 0 rfl) ?_
      refine lv_aload_n hx hb dX10_nearest_34 rfl (lv_at hl 4 rfl) ?_
      refine xj_i (wc := (wD_177 h cs gI gL gA gQ)) (wr := ([] : va_W)) hP hD hS hA [0, 1, 2, 3, 4, 5, 6, 7, 8, 9, 10, 11, 12, 13, 14, 15, 16] [] rfl rfl (by decide) (by decide) (va_runV (As := []) (rest := [.int (nI 1)]) ⟨hx, hb, hml, hown, hts⟩ (a_X10_words_179 l dC dI h cs H.size gI gL gA gQ ) (cwV 0 hts gX10_nearest_X10_words rfl rfl rfl (by decide +kernel) ⟨Nat.le_of_ble_eq_true rfl, Nat.le_of_ble_eq_true rfl⟩) (xpV (wc := (wD_177 h cs gI gL gA gQ)) hP hD hK hN [0, 1, 2, 3, 4, 5, 6, 7, 8, 9, 10, 11, 12, 13, 14, 15, 16] rfl (by decide) 0 (ci := 10) rfl rfl _) rfl rfl hl.1 rfl (lv_room (Nat.le_of_ble_eq_true rfl)) dX10_nearest_35 ⟨Nat.zero_le _, Nat.zero_le _⟩) (fun r_311 u_310 H locs hw hP hD hS => ?_)
      obtain ⟨hf_312, rfl⟩ := hw
      have hP : va_P (dC, dI) vwCl (rW h cs gI gL gA gQ) H := hP
      have hD : va_D A0 (rW h cs gI gL gA gQ) := hD
      obtain rfl := hf_312
      refine lv_icmp_ge (tgt := 95) hx hb dX10_nearest_38 (by decide) (fun c9 => False.elim (by revert c9; decide +kernel)) (fun _ => ?_)
      refine lv_iload hx hb dX10_nearest_41 (lv_at hl 1 rfl) ?_
      refine lv_aload_n hx hb dX10_nearest_43 rfl (lv_at hl 4 rfl) ?_
      refine va_get (D := (dC, dI)) (ci := 10) (v := .ref (h 16)) (C := RX10) (T := TX10) (N := 28) hx hb hts hinX10 hown hK hP 0 rfl rfl 16 (by decide) (hts (.fieldLink RX10 38 "MixedWordsModel" "offs" "[I") (by decide +kernel)) (fun _ h9 => h9) rfl dX10_nearest_44 ?_
      refine lv_iload hx hb dX10_nearest_47 (lv_at hl 0 rfl) ?_
      refine xa_iald hx hb hK hP 7 0 rfl rfl (by omega) (by decide) dX10_nearest_49 ?_
      refine xt_i (y := nI 0) (by decide +kernel) ?_
      refine lv_aload_n hx hb dX10_nearest_50 rfl (lv_at hl 4 rfl) ?_
      refine va_get (D := (dC, dI)) (ci := 10) (v := .ref (h 16)) (C := RX10) (T := TX10) (N := 28) hx hb hts hinX10 hown hK hP 0 rfl rfl 16 (by decide) (hts (.fieldLink RX10 38 "MixedWordsModel" "offs" "[I") (by decide +kernel)) (fun _ h9 => h9) rfl dX10_nearest_51 ?_
      refine lv_iload_n hx hb dX10_nearest_54 rfl (lv_at hl 2 rfl) ?_
      refine xa_iald hx hb hK hP 7 0 rfl rfl (by omega) (by decide) dX10_nearest_55 ?_
      refine xt_i (y := nI 0) (by decide +kernel) ?_
      refine lv_icmp_lt (tgt := 81) hx hb dX10_nearest_56 (by decide) (fun c9 => False.elim (by revert c9; decide +kernel)) (fun _ => ?_)
      refine lv_aload_n hx hb dX10_nearest_59 rfl (lv_at hl 4 rfl) ?_
      refine va_get (D := (dC, dI)) (ci := 10) (v := .ref (h 16)) (C := RX10) (T := TX10) (N := 28) hx hb hts hinX10 hown hK hP 0 rfl rfl 16 (by decide) (hts (.fieldLink RX10 38 "MixedWordsModel" "offs" "[I") (by decide +kernel)) (fun _ h9 => h9) rfl dX10_nearest_60 ?_
      refine lv_iload hx hb dX10_nearest_63 (lv_at hl 0 rfl) ?_
      refine xa_iald hx hb hK hP 7 0 rfl rfl (by omega) (by decide) dX10_nearest_65 ?_
      refine xt_i (y := nI 0) (by decide +kernel) ?_
      refine lv_aload_n hx hb dX10_nearest_66 rfl (lv_at hl 4 rfl) ?_
      refine va_get (D := (dC, dI)) (ci := 10) (v := .ref (h 16)) (C := RX10) (T := TX10) (N := 28) hx hb hts hinX10 hown hK hP 0 rfl rfl 16 (by decide) (hts (.fieldLink RX10 38 "MixedWordsModel" "offs" "[I") (by decide +kernel)) (fun _ h9 => h9) rfl dX10_nearest_67 ?_
      refine lv_iload_n hx hb dX10_nearest_70 rfl (lv_at hl 2 rfl) ?_
      refine xa_iald hx hb hK hP 7 0 rfl rfl (by omega) (by decide) dX10_nearest_71 ?_
      refine xt_i (y := nI 0) (by decide +kernel) ?_
      refine lv_icmp_ne (tgt := 85) hx hb dX10_nearest_72 (by decide) (fun c9 => False.elim (by revert c9; decide +kernel)) (fun _ => ?_)
      refine lv_iload hx hb dX10_nearest_75 (lv_at hl 0 rfl) ?_
      refine lv_iload_n hx hb dX10_nearest_77 rfl (lv_at hl 2 rfl) ?_
      refine lv_icmp_ge (tgt := 85) hx hb dX10_nearest_78 (by decide) (fun c9 => False.elim (by revert c9; decide +kernel)) (fun _ => ?_)
      refine lv_iconst (v := nI 1) hx hb dX10_nearest_81 (by decide) ?_
      refine lv_goto (tgt := 86) hx hb dX10_nearest_82 (by decide) ?_
      refine lv_iadd hx hb dX10_nearest_86 ?_
      refine xt_i (y := nI 2) (by decide +kernel) ?_
      refine lv_istore (lv' := [(4, .int (nI 2)), (5, .int (nI 1)), (3, .int (nI 3)), (2, .int (-1)), (0, .ref (h 0)), (1, .int (nI 3))]) hx hb dX10_nearest_87 hl (by decide) rfl (fun ls hl => ?_)
      refine lv_iinc (v := nI 2) (lv' := [(5, .int (nI 2)), (4, .int (nI 2)), (3, .int (nI 3)), (2, .int (-1)), (0, .ref (h 0)), (1, .int (nI 3))]) hx hb dX10_nearest_89 hl (k := 1) rfl (by decide +kernel) (by decide) rfl (fun ls hl => ?_)
      refine lv_goto (tgt := 32) hx hb dX10_nearest_92 (by decide) ?_
      refine lv_iload hx hb dX10_nearest_32 (lv_at hl 0 rfl) ?_
      refine lv_aload_n hx hb dX10_nearest_34 rfl (lv_at hl 4 rfl) ?_
      refine xj_i (wc := (wD_177 h cs gI gL gA gQ)) (wr := ([] : va_W)) hP hD hS hA [0, 1, 2, 3, 4, 5, 6, 7, 8, 9, 10, 11, 12, 13, 14, 15, 16] [] rfl rfl (by decide) (by decide) (va_runV (As := []) (rest := [.int (nI 2)]) ⟨hx, hb, hml, hown, hts⟩ (a_X10_words_179 l dC dI h cs H.size gI gL gA gQ ) (cwV 0 hts gX10_nearest_X10_words rfl rfl rfl (by decide +kernel) ⟨Nat.le_of_ble_eq_true rfl, Nat.le_of_ble_eq_true rfl⟩) (xpV (wc := (wD_177 h cs gI gL gA gQ)) hP hD hK hN [0, 1, 2, 3, 4, 5, 6, 7, 8, 9, 10, 11, 12, 13, 14, 15, 16] rfl (by decide) 0 (ci := 10) rfl rfl _) rfl rfl hl.1 rfl (lv_room (Nat.le_of_ble_eq_true rfl)) dX10_nearest_35 ⟨Nat.zero_le _, Nat.zero_le _⟩) (fun r_314 u_313 H locs hw hP hD hS => ?_)
      obtain ⟨hf_315, rfl⟩ := hw
      have hP : va_P (dC, dI) vwCl (rW h cs gI gL gA gQ) H := hP
      have hD : va_D A0 (rW h cs gI gL gA gQ) := hD
      obtain rfl := hf_315
      refine lv_icmp_ge (tgt := 95) hx hb dX10_nearest_38 (by decide) (fun c9 => False.elim (by revert c9; decide +kernel)) (fun _ => ?_)
      refine lv_iload hx hb dX10_nearest_41 (lv_at hl 1 rfl) ?_
      refine lv_aload_n hx hb dX10_nearest_43 rfl (lv_at hl 4 rfl) ?_
      refine va_get (D := (dC, dI)) (ci := 10) (v := .ref (h 16)) (C := RX10) (T := TX10) (N := 28) hx hb hts hinX10 hown hK hP 0 rfl rfl 16 (by decide) (hts (.fieldLink RX10 38 "MixedWordsModel" "offs" "[I") (by decide +kernel)) (fun _ h9 => h9) rfl dX10_nearest_44 ?_
      refine lv_iload hx hb dX10_nearest_47 (lv_at hl 0 rfl) ?_
      refine xa_iald hx hb hK hP 7 0 rfl rfl (by omega) (by decide) dX10_nearest_49 ?_
      refine xt_i (y := nI 0) (by decide +kernel) ?_
      refine lv_aload_n hx hb dX10_nearest_50 rfl (lv_at hl 4 rfl) ?_
      refine va_get (D := (dC, dI)) (ci := 10) (v := .ref (h 16)) (C := RX10) (T := TX10) (N := 28) hx hb hts hinX10 hown hK hP 0 rfl rfl 16 (by decide) (hts (.fieldLink RX10 38 "MixedWordsModel" "offs" "[I") (by decide +kernel)) (fun _ h9 => h9) rfl dX10_nearest_51 ?_
      refine lv_iload_n hx hb dX10_nearest_54 rfl (lv_at hl 2 rfl) ?_
      refine xa_iald hx hb hK hP 7 0 rfl rfl (by omega) (by decide) dX10_nearest_55 ?_
      refine xt_i (y := nI 0) (by decide +kernel) ?_
      refine lv_icmp_lt (tgt := 81) hx hb dX10_nearest_56 (by decide) (fun c9 => False.elim (by revert c9; decide +kernel)) (fun _ => ?_)
      refine lv_aload_n hx hb dX10_nearest_59 rfl (lv_at hl 4 rfl) ?_
      refine va_get (D := (dC, dI)) (ci := 10) (v := .ref (h 16)) (C := RX10) (T := TX10) (N := 28) hx hb hts hinX10 hown hK hP 0 rfl rfl 16 (by decide) (hts (.fieldLink RX10 38 "MixedWordsModel" "offs" "[I") (by decide +kernel)) (fun _ h9 => h9) rfl dX10_nearest_60 ?_
      refine lv_iload hx hb dX10_nearest_63 (lv_at hl 0 rfl) ?_
      refine xa_iald hx hb hK hP 7 0 rfl rfl (by omega) (by decide) dX10_nearest_65 ?_
      refine xt_i (y := nI 0) (by decide +kernel) ?_
      refine lv_aload_n hx hb dX10_nearest_66 rfl (lv_at hl 4 rfl) ?_
      refine va_get (D := (dC, dI)) (ci := 10) (v := .ref (h 16)) (C := RX10) (T := TX10) (N := 28) hx hb hts hinX10 hown hK hP 0 rfl rfl 16 (by decide) (hts (.fieldLink RX10 38 "MixedWordsModel" "offs" "[I") (by decide +kernel)) (fun _ h9 => h9) rfl dX10_nearest_67 ?_
      refine lv_iload_n hx hb dX10_nearest_70 rfl (lv_at hl 2 rfl) ?_
      refine xa_iald hx hb hK hP 7 0 rfl rfl (by omega) (by decide) dX10_nearest_71 ?_
      refine xt_i (y := nI 0) (by decide +kernel) ?_
      refine lv_icmp_ne (tgt := 85) hx hb dX10_nearest_72 (by decide) (fun c9 => False.elim (by revert c9; decide +kernel)) (fun _ => ?_)
      refine lv_iload hx hb dX10_nearest_75 (lv_at hl 0 rfl) ?_
      refine lv_iload_n hx hb dX10_nearest_77 rfl (lv_at hl 2 rfl) ?_
      refine lv_icmp_ge (tgt := 85) hx hb dX10_nearest_78 (by decide) (fun c9 => False.elim (by revert c9; decide +kernel)) (fun _ => ?_)
      refine lv_iconst (v := nI 1) hx hb dX10_nearest_81 (by decide) ?_
      refine lv_goto (tgt := 86) hx hb dX10_nearest_82 (by decide) ?_
      refine lv_iadd hx hb dX10_nearest_86 ?_
      refine xt_i (y := nI 3) (by decide +kernel) ?_
      refine lv_istore (lv' := [(4, .int (nI 3)), (5, .int (nI 2)), (3, .int (nI 3)), (2, .int (-1)), (0, .ref (h 0)), (1, .int (nI 3))]) hx hb dX10_nearest_87 hl (by decide) rfl (fun ls hl => ?_)
      refine lv_iinc (v := nI 3) (lv' := [(5, .int (nI 3)), (4, .int (nI 3)), (3, .int (nI 3)), (2, .int (-1)), (0, .ref (h 0)), (1, .int (nI 3))]) hx hb dX10_nearest_89 hl (k := 1) rfl (by decide +kernel) (by decide) rfl (fun ls hl => ?_)
      refine lv_goto (tgt := 32) hx hb dX10_nearest_92 (by decide) ?_
      refine lv_iload hx hb dX10_nearest_32 (lv_at hl 0 rfl) ?_
      refine lv_aload_n hx hb dX10_nearest_34 rfl (lv_at hl 4 rfl) ?_
      refine xj_i (wc := (wD_177 h cs gI gL gA gQ)) (wr := ([] : va_W)) hP hD hS hA [0, 1, 2, 3, 4, 5, 6, 7, 8, 9, 10, 11, 12, 13, 14, 15, 16] [] rfl rfl (by decide) (by decide) (va_runV (As := []) (rest := [.int (nI 3)]) ⟨hx, hb, hml, hown, hts⟩ (a_X10_words_179 l dC dI h cs H.size gI gL gA gQ ) (cwV 0 hts gX10_nearest_X10_words rfl rfl rfl (by decide +kernel) ⟨Nat.le_of_ble_eq_true rfl, Nat.le_of_ble_eq_true rfl⟩) (xpV (wc := (wD_177 h cs gI gL gA gQ)) hP hD hK hN [0, 1, 2, 3, 4, 5, 6, 7, 8, 9, 10, 11, 12, 13, 14, 15, 16] rfl (by decide) 0 (ci := 10) rfl rfl _) rfl rfl hl.1 rfl (lv_room (Nat.le_of_ble_eq_true rfl)) dX10_nearest_35 ⟨Nat.zero_le _, Nat.zero_le _⟩) (fun r_317 u_316 H locs hw hP hD hS => ?_)
      obtain ⟨hf_318, rfl⟩ := hw
      have hP : va_P (dC, dI) vwCl (rW h cs gI gL gA gQ) H := hP
      have hD : va_D A0 (rW h cs gI gL gA gQ) := hD
      obtain rfl := hf_318
      refine lv_icmp_ge (tgt := 95) hx hb dX10_nearest_38 (by decide) (fun c9 => False.elim (by revert c9; decide +kernel)) (fun _ => ?_)
      refine lv_iload hx hb dX10_nearest_41 (lv_at hl 1 rfl) ?_
      refine lv_aload_n hx hb dX10_nearest_43 rfl (lv_at hl 4 rfl) ?_
      refine va_get (D := (dC, dI)) (ci := 10) (v := .ref (h 16)) (C := RX10) (T := TX10) (N := 28) hx hb hts hinX10 hown hK hP 0 rfl rfl 16 (by decide) (hts (.fieldLink RX10 38 "MixedWordsModel" "offs" "[I") (by decide +kernel)) (fun _ h9 => h9) rfl dX10_nearest_44 ?_
      refine lv_iload hx hb dX10_nearest_47 (lv_at hl 0 rfl) ?_
      refine xa_iald hx hb hK hP 7 0 rfl rfl (by omega) (by decide) dX10_nearest_49 ?_
      refine xt_i (y := nI 0) (by decide +kernel) ?_
      refine lv_aload_n hx hb dX10_nearest_50 rfl (lv_at hl 4 rfl) ?_
      refine va_get (D := (dC, dI)) (ci := 10) (v := .ref (h 16)) (C := RX10) (T := TX10) (N := 28) hx hb hts hinX10 hown hK hP 0 rfl rfl 16 (by decide) (hts (.fieldLink RX10 38 "MixedWordsModel" "offs" "[I") (by decide +kernel)) (fun _ h9 => h9) rfl dX10_nearest_51 ?_
      refine lv_iload_n hx hb dX10_nearest_54 rfl (lv_at hl 2 rfl) ?_
      refine xa_iald hx hb hK hP 7 0 rfl rfl (by omega) (by decide) dX10_nearest_55 ?_
      refine xt_i (y := nI 0) (by decide +kernel) ?_
      refine lv_icmp_lt (tgt := 81) hx hb dX10_nearest_56 (by decide) (fun c9 => False.elim (by revert c9; decide +kernel)) (fun _ => ?_)
      refine lv_aload_n hx hb dX10_nearest_59 rfl (lv_at hl 4 rfl) ?_
      refine va_get (D := (dC, dI)) (ci := 10) (v := .ref (h 16)) (C := RX10) (T := TX10) (N := 28) hx hb hts hinX10 hown hK hP 0 rfl rfl 16 (by decide) (hts (.fieldLink RX10 38 "MixedWordsModel" "offs" "[I") (by decide +kernel)) (fun _ h9 => h9) rfl dX10_nearest_60 ?_
      refine lv_iload hx hb dX10_nearest_63 (lv_at hl 0 rfl) ?_
      refine xa_iald hx hb hK hP 7 0 rfl rfl (by omega) (by decide) dX10_nearest_65 ?_
      refine xt_i (y := nI 0) (by decide +kernel) ?_
      refine lv_aload_n hx hb dX10_nearest_66 rfl (lv_at hl 4 rfl) ?_
      refine va_get (D := (dC, dI)) (ci := 10) (v := .ref (h 16)) (C := RX10) (T := TX10) (N := 28) hx hb hts hinX10 hown hK hP 0 rfl rfl 16 (by decide) (hts (.fieldLink RX10 38 "MixedWordsModel" "offs" "[I") (by decide +kernel)) (fun _ h9 => h9) rfl dX10_nearest_67 ?_
      refine lv_iload_n hx hb dX10_nearest_70 rfl (lv_at hl 2 rfl) ?_
      refine xa_iald hx hb hK hP 7 0 rfl rfl (by omega) (by decide) dX10_nearest_71 ?_
      refine xt_i (y := nI 0) (by decide +kernel) ?_
      refine lv_icmp_ne (tgt := 85) hx hb dX10_nearest_72 (by decide) (fun c9 => False.elim (by revert c9; decide +kernel)) (fun _ => ?_)
      refine lv_iload hx hb dX10_nearest_75 (lv_at hl 0 rfl) ?_
      refine lv_iload_n hx hb dX10_nearest_77 rfl (lv_at hl 2 rfl) ?_
      refine lv_icmp_ge (tgt := 85) hx hb dX10_nearest_78 (by decide) (fun _ => ?_) (fun c9 => False.elim (by revert c9; decide +kernel))
      refine lv_iconst (v := nI 0) hx hb dX10_nearest_85 (by decide) ?_
      refine lv_iadd hx hb dX10_nearest_86 ?_
      refine xt_i (y := nI 3) (by decide +kernel) ?_
      refine lv_istore (lv' := [(4, .int (nI 3)), (5, .int (nI 3)), (3, .int (nI 3)), (2, .int (-1)), (0, .ref (h 0)), (1, .int (nI 3))]) hx hb dX10_nearest_87 hl (by decide) rfl (fun ls hl => ?_)
      refine lv_iinc (v := nI 4) (lv' := [(5, .int (nI 4)), (4, .int (nI 3)), (3, .int (nI 3)), (2, .int (-1)), (0, .ref (h 0)), (1, .int (nI 3))]) hx hb dX10_nearest_89 hl (k := 1) rfl (by decide +kernel) (by decide) rfl (fun ls hl => ?_)
      refine lv_goto (tgt := 32) hx hb dX10_nearest_92 (by decide) ?_
      refine lv_iload hx hb dX10_nearest_32 (lv_at hl 0 rfl) ?_
      refine lv_aload_n hx hb dX10_nearest_34 rfl (lv_at hl 4 rfl) ?_
      refine xj_i (wc := (wD_177 h cs gI gL gA gQ)) (wr := ([] : va_W)) hP hD hS hA [0, 1, 2, 3, 4, 5, 6, 7, 8, 9, 10, 11, 12, 13, 14, 15, 16] [] rfl rfl (by decide) (by decide) (va_runV (As := []) (rest := [.int (nI 4)]) ⟨hx, hb, hml, hown, hts⟩ (a_X10_words_179 l dC dI h cs H.size gI gL gA gQ ) (cwV 0 hts gX10_nearest_X10_words rfl rfl rfl (by decide +kernel) ⟨Nat.le_of_ble_eq_true rfl, Nat.le_of_ble_eq_true rfl⟩) (xpV (wc := (wD_177 h cs gI gL gA gQ)) hP hD hK hN [0, 1, 2, 3, 4, 5, 6, 7, 8, 9, 10, 11, 12, 13, 14, 15, 16] rfl (by decide) 0 (ci := 10) rfl rfl _) rfl rfl hl.1 rfl (lv_room (Nat.le_of_ble_eq_true rfl)) dX10_nearest_35 ⟨Nat.zero_le _, Nat.zero_le _⟩) (fun r_320 u_319 H locs hw hP hD hS => ?_)
      obtain ⟨hf_321, rfl⟩ := hw
      have hP : va_P (dC, dI) vwCl (rW h cs gI gL gA gQ) H := hP
      have hD : va_D A0 (rW h cs gI gL gA gQ) := hD
      obtain rfl := hf_321
      refine lv_icmp_ge (tgt := 95) hx hb dX10_nearest_38 (by decide) (fun _ => ?_) (fun c9 => False.elim (by revert c9; decide +kernel))
      refine lv_iload hx hb dX10_nearest_95 (lv_at hl 1 rfl) ?_
      refine lv_iload_n hx hb dX10_nearest_97 rfl (lv_at hl 5 rfl) ?_
      refine lv_icmp_ne (tgt := 105) hx hb dX10_nearest_98 (by decide) (fun c9 => False.elim (by revert c9; decide +kernel)) (fun _ => ?_)
      refine lv_iload_n hx hb dX10_nearest_101 rfl (lv_at hl 2 rfl) ?_
      refine lv_goto (tgt := 106) hx hb dX10_nearest_102 (by decide) ?_
      refine lv_istore_n (lv' := [(2, .int (nI 3)), (5, .int (nI 4)), (4, .int (nI 3)), (3, .int (nI 3)), (0, .ref (h 0)), (1, .int (nI 3))]) hx hb dX10_nearest_106 rfl hl (by decide) rfl (fun ls hl => ?_)
      refine lv_iinc (v := nI 4) (lv' := [(3, .int (nI 4)), (2, .int (nI 3)), (5, .int (nI 4)), (4, .int (nI 3)), (0, .ref (h 0)), (1, .int (nI 3))]) hx hb dX10_nearest_107 hl (k := 3) rfl (by decide +kernel) (by decide) rfl (fun ls hl => ?_)
      refine lv_goto (tgt := 18) hx hb dX10_nearest_110 (by decide) ?_
      refine lv_iload_n hx hb dX10_nearest_18 rfl (lv_at hl 0 rfl) ?_
      refine lv_aload_n hx hb dX10_nearest_19 rfl (lv_at hl 4 rfl) ?_
      refine xj_i (wc := (wD_177 h cs gI gL gA gQ)) (wr := ([] : va_W)) hP hD hS hA [0, 1, 2, 3, 4, 5, 6, 7, 8, 9, 10, 11, 12, 13, 14, 15, 16] [] rfl rfl (by decide) (by decide) (va_runV (As := []) (rest := [.int (nI 4)]) ⟨hx, hb, hml, hown, hts⟩ (a_X10_words_179 l dC dI h cs H.size gI gL gA gQ ) (cwV 0 hts gX10_nearest_X10_words rfl rfl rfl (by decide +kernel) ⟨Nat.le_of_ble_eq_true rfl, Nat.le_of_ble_eq_true rfl⟩) (xpV (wc := (wD_177 h cs gI gL gA gQ)) hP hD hK hN [0, 1, 2, 3, 4, 5, 6, 7, 8, 9, 10, 11, 12, 13, 14, 15, 16] rfl (by decide) 0 (ci := 10) rfl rfl _) rfl rfl hl.1 rfl (lv_room (Nat.le_of_ble_eq_true rfl)) dX10_nearest_20 ⟨Nat.zero_le _, Nat.zero_le _⟩) (fun r_323 u_322 H locs hw hP hD hS => ?_)
      obtain ⟨hf_324, rfl⟩ := hw
      have hP : va_P (dC, dI) vwCl (rW h cs gI gL gA gQ) H := hP
      have hD : va_D A0 (rW h cs gI gL gA gQ) := hD
      obtain rfl := hf_324
      refine lv_icmp_ge (tgt := 113) hx hb dX10_nearest_23 (by decide) (fun _ => ?_) (fun c9 => False.elim (by revert c9; decide +kernel))
      refine lv_iload_n hx hb dX10_nearest_113 rfl (lv_at hl 1 rfl) ?_
      exact xr_i (v := (nI 3)) hx hb hr hlocks hK hS dX10_nearest_114 (gI, gL, gA, gQ) ⟨(by decide +kernel), rfl⟩ hP hD
  · skip
    refine lv_aload_n hx hb dX10_nearest_0 rfl (lv_at hl 0 rfl) ?_
    refine lv_iload_n hx hb dX10_nearest_1 rfl (lv_at hl 1 rfl) ?_
    refine xj_i (wc := (rW h cs gI gL gA gQ)) (wr := ([] : va_W)) hP hD hS hA [0, 1, 2, 3, 4, 5, 6, 7, 8, 9, 10, 11, 12, 13, 14, 15, 16] [] rfl rfl (by decide) (by decide) (va_runV (As := [.int x]) (rest := []) ⟨hx, hb, hml, hown, hts⟩ (k_X10_isWord l dC dI h cs H.size gI gL gA gQ x 2 2 (by decide +kernel) (by first | assumption | omega) (by first | assumption | omega) (by decide +kernel) (by first | assumption | omega)) (cwV 1 hts gX10_nearest_X10_isWord rfl rfl rfl (by decide +kernel) ⟨Nat.le_of_ble_eq_true rfl, Nat.le_of_ble_eq_true rfl⟩) (xpV (wc := (rW h cs gI gL gA gQ)) hP hD hK hN [0, 1, 2, 3, 4, 5, 6, 7, 8, 9, 10, 11, 12, 13, 14, 15, 16] rfl (by decide) 0 (ci := 10) rfl rfl _) rfl rfl hl.1 rfl (lv_room (Nat.le_of_ble_eq_true rfl)) dX10_nearest_2 ⟨Nat.zero_le _, Nat.zero_le _⟩) (fun r_326 u_325 H locs hw hP hD hS => ?_)
    obtain ⟨hf_327, rfl⟩ := hw
    have hP : va_P (dC, dI) vwCl (rW h cs gI gL gA gQ) H := hP
    have hD : va_D A0 (rW h cs gI gL gA gQ) := hD
    rcases hf_327 with ⟨rfl, i_328, hh_329, ee_330⟩ | ⟨rfl, -⟩
    · skip
      exact absurd (by rw [ee_330, nI_toInt (by omega)]; omega) hz_x
    · skip
      refine lv_if_ne (tgt := 10) hx hb dX10_nearest_5 (by decide) (fun c9 => False.elim (by revert c9; decide +kernel)) (fun _ => ?_)
      refine lv_iconst (v := (-1)) hx hb dX10_nearest_8 (by decide) ?_
      exact xr_i (v := (-1)) hx hb hr hlocks hK hS dX10_nearest_9 (gI, gL, gA, gQ) ⟨(by unfold an_nearest; rw [if_neg (by omega)]), rfl⟩ hP hD
