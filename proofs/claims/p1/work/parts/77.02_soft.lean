set_option maxHeartbeats 4000000 in
set_option maxRecDepth 100000 in
theorem a_X3_hasColumn_89 (l : Launch) (dC : Nat → ClassId) (dI : Nat → Nat → Nat) (h : Nat → Nat) (cs : Nat → ClassId) (sz : Nat) (I : Nat → Int32) (L : Nat → Int64) (A : Nat → Nat → Int32) (Q : Nat → Nat → Int64) (G : Nat → Nat → Nat → Int32) (J : Nat → Nat → Nat → Int64) : Met l yX3_hasColumn wsX3_hasColumn ({ frames := 0, cells := 0, slots := 0, locals := 0 }) (va_Pc [.ref (h 101), .int (nI 0)] (xPre (dC, dI) (wD_32 h cs fI fL fA fQ fG fJ) (tysA cs) sz)) (va_Qi (fun (r : Int32) (u : CS) => (r = nI 1) ∧ u = (fI, fL, fA, fQ, fG, fJ)) (xB (dC, dI) (tysA cs) (va_A (wD_32 h cs fI fL fA fQ fG fJ) sz) (fun u : CS => wD_32 h cs u.1 u.2.1 u.2.2.1 u.2.2.2.1 u.2.2.2.2.1 u.2.2.2.2.2)) (va_A (wD_32 h cs fI fL fA fQ fG fJ) sz)) 0 0 (va_A (wD_32 h cs fI fL fA fQ fG fJ) sz) := by
  refine Met.ofW (cc := cX3_hasColumn) (maxL := 2) (ret := (some .boolean)) (by decide) rfl ?_
  intro p e s m args below meth c s₁ B hml hv
  obtain ⟨rfl, hsz, hP, hK, hD0, hN⟩ := hv
  have hx := B.exec
  have hb := B.bytes
  have hr := B.returns
  have hts := atoms_spec (ws := wsX3_hasColumn) B.pre
  have hown : s.vm.findClass RX3 = some m.cls := findClass_of_methodNamed B.named
  have hlocks := B.notSynchronized
  subst hsz
  have hD := hD0.self (sz := s.heap.size)
  generalize hAe : va_A (wD_32 h cs fI fL fA fQ fG fJ) s.heap.size = A0 at hD ⊢
  have hA : ∀ q : Nat, s.heap.size ≤ q → A0 q := fun q h => by rw [← hAe]; exact Or.inr h
  have hl := lv_entry ([.ref (h 101), .int (nI 0)]) (n := 2) (Nat.le_of_ble_eq_true rfl)
  rw [lg_entry_eq]
  generalize (lg_sl ([.ref (h 101), .int (nI 0)]) ++ List.replicate (2 - (lg_sl ([.ref (h 101), .int (nI 0)])).length) Slot.unset).toArray = ls at hl ⊢
  have hl : lv_has ls 2 [(0, .ref (h 101)), (1, .int (nI 0))] := hl
  generalize hH : s.heap = H at hP ⊢
  have hS : va_S A0 s.heap H [] := by rw [← hH]; exact va_S.rf
  have hinX3 : ∀ w ∈ wsX30, w ∈ wsX3_hasColumn := by decide +kernel
  refine lv_iload_n hx hb dX3_hasColumn_0 rfl (lv_at hl 1 rfl) ?_
  refine lv_if_lt (tgt := 16) hx hb dX3_hasColumn_1 (by decide) (fun c9 => False.elim (by revert c9; decide +kernel)) (fun _ => ?_)
  refine lv_iload_n hx hb dX3_hasColumn_4 rfl (lv_at hl 1 rfl) ?_
  refine lv_aload_n hx hb dX3_hasColumn_5 rfl (lv_at hl 0 rfl) ?_
  refine va_get (D := (dC, dI)) (ci := 3) (v := .int (fI 121)) (C := RX3) (T := TX3) (N := 6) hx hb hts hinX3 hown hK hP 0 rfl rfl 1 (by decide) (hts (.fieldLink RX3 15 "MixedWords$Mix" "width" "I") (by decide +kernel)) (fun _ h9 => h9) rfl dX3_hasColumn_6 ?_
  refine xt_i (y := nI 2) (by decide +kernel) ?_
  refine lv_icmp_ge (tgt := 16) hx hb dX3_hasColumn_9 (by decide) (fun c9 => False.elim (by revert c9; decide +kernel)) (fun _ => ?_)
  refine lv_iconst (v := nI 1) hx hb dX3_hasColumn_12 (by decide) ?_
  refine lv_goto (tgt := 17) hx hb dX3_hasColumn_13 (by decide) ?_
  exact xr_z (v := (nI 1)) hx hb hr hlocks hK hS dX3_hasColumn_17 (rfl) (fI, fL, fA, fQ, fG, fJ) ⟨rfl, rfl⟩ hP hD
set_option maxHeartbeats 4000000 in
set_option maxRecDepth 100000 in
theorem a_X8_indexOf_92 (l : Launch) (dC : Nat → ClassId) (dI : Nat → Nat → Nat) (h : Nat → Nat) (cs : Nat → ClassId) (sz : Nat) (I : Nat → Int32) (L : Nat → Int64) (A : Nat → Nat → Int32) (Q : Nat → Nat → Int64) (G : Nat → Nat → Nat → Int32) (J : Nat → Nat → Nat → Int64) : Met l yX8_indexOf wsX8_indexOf ({ frames := 1, cells := 0, slots := 0, locals := 20 }) (va_Pc [.ref (h 105), .int (nI 0), .int (nI 0)] (xPre (dC, dI) (wD_60 h cs qI_75 fL fA fQ fG fJ) (tysA cs) sz)) (va_Qi (fun (r : Int32) (u : CS) => (r = nI 0) ∧ u = (qI_75, fL, fA, fQ, fG, fJ)) (xB (dC, dI) (tysA cs) (va_A (wD_60 h cs qI_75 fL fA fQ fG fJ) sz) (fun u : CS => wD_60 h cs u.1 u.2.1 u.2.2.1 u.2.2.2.1 u.2.2.2.2.1 u.2.2.2.2.2)) (va_A (wD_60 h cs qI_75 fL fA fQ fG fJ) sz)) 0 0 (va_A (wD_60 h cs qI_75 fL fA fQ fG fJ) sz) := by
  refine Met.ofW (cc := cX8_indexOf) (maxL := 3) (ret := (some .int)) (by decide) rfl ?_
  intro p e s m args below meth c s₁ B hml hv
  obtain ⟨rfl, hsz, hP, hK, hD0, hN⟩ := hv
  have hx := B.exec
  have hb := B.bytes
  have hr := B.returns
  have hts := atoms_spec (ws := wsX8_indexOf) B.pre
  have hown : s.vm.findClass RX8 = some m.cls := findClass_of_methodNamed B.named
  have hlocks := B.notSynchronized
  subst hsz
  have hD := hD0.self (sz := s.heap.size)
  generalize hAe : va_A (wD_60 h cs qI_75 fL fA fQ fG fJ) s.heap.size = A0 at hD ⊢
  have hA : ∀ q : Nat, s.heap.size ≤ q → A0 q := fun q h => by rw [← hAe]; exact Or.inr h
  have hl := lv_entry ([.ref (h 105), .int (nI 0), .int (nI 0)]) (n := 3) (Nat.le_of_ble_eq_true rfl)
  rw [lg_entry_eq]
  generalize (lg_sl ([.ref (h 105), .int (nI 0), .int (nI 0)]) ++ List.replicate (3 - (lg_sl ([.ref (h 105), .int (nI 0), .int (nI 0)])).length) Slot.unset).toArray = ls at hl ⊢
  have hl : lv_has ls 3 [(0, .ref (h 105)), (1, .int (nI 0)), (2, .int (nI 0))] := hl
  generalize hH : s.heap = H at hP ⊢
  have hS : va_S A0 s.heap H [] := by rw [← hH]; exact va_S.rf
  have hinX8 : ∀ w ∈ wsX80, w ∈ wsX8_indexOf := by decide +kernel
  have hinX3 : ∀ w ∈ wsX30, w ∈ wsX8_indexOf := by decide +kernel
  refine lv_iload_n hx hb dX8_indexOf_0 rfl (lv_at hl 1 rfl) ?_
  refine lv_aload_n hx hb dX8_indexOf_1 rfl (lv_at hl 0 rfl) ?_
  refine va_get (D := (dC, dI)) (ci := 8) (v := .ref (h 101)) (C := RX8) (T := TX8) (N := 6) hx hb hts hinX8 hown hK hP 0 rfl rfl 0 (by decide) (hts (.fieldLink RX8 28 "MixedWords$Words" "mix" "LMixedWords$Mix;") (by decide +kernel)) (fun _ h9 => h9) rfl dX8_indexOf_2 ?_
  refine xj_i (wc := (wD_32 h cs qI_75 fL fA fQ fG fJ)) (wr := [(h 105, .inr (8, [.ref (h 101), .ref (h 170), .ref (h 171), .ref (h 172), .int (qI_75 173), .int (qI_75 174)])), (h 170, .inl (cs 0, 256, .inl (fA 170))), (h 171, .inl (cs 0, 256, .inl (fA 171))), (h 172, .inl (cs 0, 256, .inl (fA 172)))]) hP hD hS hA [1, 2, 3, 4, 5, 6, 7, 8] [0, 9, 10, 11] rfl rfl (by decide) (by decide) (va_runV (As := []) (rest := [.int (nI 0)]) ⟨hx, hb, hml, hown, hts⟩ (a_X3_bitsOfLetter_78 l dC dI h cs H.size qI_75 fL fA fQ fG fJ ) (cwV 0 hts gX8_indexOf_X3_bitsOfLetter rfl rfl rfl (by decide +kernel) ⟨Nat.le_of_ble_eq_true rfl, Nat.le_of_ble_eq_true rfl⟩) (xpV (wc := (wD_32 h cs qI_75 fL fA fQ fG fJ)) hP hD hK hN [1, 2, 3, 4, 5, 6, 7, 8] rfl (by decide) 1 (ci := 3) rfl rfl _) rfl rfl hl.1 rfl (lv_room (Nat.le_of_ble_eq_true rfl)) dX8_indexOf_5 ⟨Nat.zero_le _, Nat.zero_le _⟩) (fun r_2 u_1 H locs hw hP hD hS => ?_)
  obtain ⟨hf_3, rfl⟩ := hw
  have hP : va_P (dC, dI) vwCl (wD_60 h cs qI_75 fL fA fQ fG fJ) H := xP_sub hP [0, 4, 5, 6, 7, 8, 9, 10, 11, 1, 2, 3] rfl
  have hD : va_D A0 (wD_60 h cs qI_75 fL fA fQ fG fJ) := hD.sub [0, 4, 5, 6, 7, 8, 9, 10, 11, 1, 2, 3] (by decide) rfl
  obtain rfl := hf_3
  refine lv_aload_n hx hb dX8_indexOf_8 rfl (lv_at hl 0 rfl) ?_
  refine va_get (D := (dC, dI)) (ci := 8) (v := .ref (h 101)) (C := RX8) (T := TX8) (N := 6) hx hb hts hinX8 hown hK hP 0 rfl rfl 0 (by decide) (hts (.fieldLink RX8 28 "MixedWords$Words" "mix" "LMixedWords$Mix;") (by decide +kernel)) (fun _ h9 => h9) rfl dX8_indexOf_9 ?_
  refine va_get (D := (dC, dI)) (ci := 3) (v := .int (qI_75 121)) (C := RX3) (T := TX3) (N := 6) hx hb hts hinX3 hown hK hP 1 rfl rfl 1 (by decide) (hts (.fieldLink RX8 40 "MixedWords$Mix" "width" "I") (by decide +kernel)) (fun _ h9 => h9) rfl dX8_indexOf_12 ?_
  refine xt_i (y := nI 2) (by decide +kernel) ?_
  refine lv_iconst (v := nI 1) hx hb dX8_indexOf_15 (by decide) ?_
  refine lv_isub hx hb dX8_indexOf_16 ?_
  refine xt_i (y := nI 1) (by decide +kernel) ?_
  refine lv_iload_n hx hb dX8_indexOf_17 rfl (lv_at hl 2 rfl) ?_
  refine lv_isub hx hb dX8_indexOf_18 ?_
  refine xt_i (y := nI 1) (by decide +kernel) ?_
  refine lv_imul hx hb dX8_indexOf_19 ?_
  refine xt_i (y := nI 1) (by decide +kernel) ?_
  refine lv_ishr hx hb dX8_indexOf_20 ?_
  refine xt_i (y := nI 0) (by decide +kernel) ?_
  refine lv_aload_n hx hb dX8_indexOf_21 rfl (lv_at hl 0 rfl) ?_
  refine va_get (D := (dC, dI)) (ci := 8) (v := .ref (h 101)) (C := RX8) (T := TX8) (N := 6) hx hb hts hinX8 hown hK hP 0 rfl rfl 0 (by decide) (hts (.fieldLink RX8 28 "MixedWords$Words" "mix" "LMixedWords$Mix;") (by decide +kernel)) (fun _ h9 => h9) rfl dX8_indexOf_22 ?_
  refine va_get (D := (dC, dI)) (ci := 3) (v := .int (qI_75 122)) (C := RX3) (T := TX3) (N := 6) hx hb hts hinX3 hown hK hP 1 rfl rfl 2 (by decide) (hts (.fieldLink RX8 51 "MixedWords$Mix" "letterCount" "I") (by decide +kernel)) (fun _ h9 => h9) rfl dX8_indexOf_25 ?_
  refine xt_i (y := nI 2) (by decide +kernel) ?_
  refine lv_iconst (v := nI 1) hx hb dX8_indexOf_28 (by decide) ?_
  refine lv_isub hx hb dX8_indexOf_29 ?_
  refine xt_i (y := nI 1) (by decide +kernel) ?_
  refine lv_iand hx hb dX8_indexOf_30 ?_
  refine xt_i (y := nI 0) (by decide +kernel) ?_
  exact xr_i (v := (nI 0)) hx hb hr hlocks hK hS dX8_indexOf_31 (qI_75, fL, fA, fQ, fG, fJ) ⟨rfl, rfl⟩ hP hD
set_option maxHeartbeats 4000000 in
set_option maxRecDepth 100000 in
theorem a_X8_bitOf_91 (l : Launch) (dC : Nat → ClassId) (dI : Nat → Nat → Nat) (h : Nat → Nat) (cs : Nat → ClassId) (sz : Nat) (I : Nat → Int32) (L : Nat → Int64) (A : Nat → Nat → Int32) (Q : Nat → Nat → Int64) (G : Nat → Nat → Nat → Int32) (J : Nat → Nat → Nat → Int64) : Met l yX8_bitOf wsX8_bitOf ({ frames := 2, cells := 0, slots := 0, locals := 42 }) (va_Pc [.ref (h 105), .int (nI 0), .int (nI 0), .int (nI 0)] (xPre (dC, dI) (wD_60 h cs qI_75 fL fA fQ fG fJ) (tysA cs) sz)) (va_Qi (fun (r : Int32) (u : CS) => (r = nI 0) ∧ u = (qI_75, fL, fA, fQ, fG, fJ)) (xB (dC, dI) (tysA cs) (va_A (wD_60 h cs qI_75 fL fA fQ fG fJ) sz) (fun u : CS => wD_60 h cs u.1 u.2.1 u.2.2.1 u.2.2.2.1 u.2.2.2.2.1 u.2.2.2.2.2)) (va_A (wD_60 h cs qI_75 fL fA fQ fG fJ) sz)) 0 0 (va_A (wD_60 h cs qI_75 fL fA fQ fG fJ) sz) := by
  refine Met.ofW (cc := cX8_bitOf) (maxL := 5) (ret := (some .int)) (by decide) rfl ?_
  intro p e s m args below meth c s₁ B hml hv
  obtain ⟨rfl, hsz, hP, hK, hD0, hN⟩ := hv
  have hx := B.exec
  have hb := B.bytes
  have hr := B.returns
  have hts := atoms_spec (ws := wsX8_bitOf) B.pre
  have hown : s.vm.findClass RX8 = some m.cls := findClass_of_methodNamed B.named
  have hlocks := B.notSynchronized
  subst hsz
  have hD := hD0.self (sz := s.heap.size)
  generalize hAe : va_A (wD_60 h cs qI_75 fL fA fQ fG fJ) s.heap.size = A0 at hD ⊢
  have hA : ∀ q : Nat, s.heap.size ≤ q → A0 q := fun q h => by rw [← hAe]; exact Or.inr h
  have hl := lv_entry ([.ref (h 105), .int (nI 0), .int (nI 0), .int (nI 0)]) (n := 5) (Nat.le_of_ble_eq_true rfl)
  rw [lg_entry_eq]
  generalize (lg_sl ([.ref (h 105), .int (nI 0), .int (nI 0), .int (nI 0)]) ++ List.replicate (5 - (lg_sl ([.ref (h 105), .int (nI 0), .int (nI 0), .int (nI 0)])).length) Slot.unset).toArray = ls at hl ⊢
  have hl : lv_has ls 5 [(0, .ref (h 105)), (1, .int (nI 0)), (2, .int (nI 0)), (3, .int (nI 0))] := hl
  generalize hH : s.heap = H at hP ⊢
  have hS : va_S A0 s.heap H [] := by rw [← hH]; exact va_S.rf
  have hinX8 : ∀ w ∈ wsX80, w ∈ wsX8_bitOf := by decide +kernel
  have hinX3 : ∀ w ∈ wsX30, w ∈ wsX8_bitOf := by decide +kernel
  refine lv_aload_n hx hb dX8_bitOf_0 rfl (lv_at hl 0 rfl) ?_
  refine lv_iload_n hx hb dX8_bitOf_1 rfl (lv_at hl 1 rfl) ?_
  refine lv_iload_n hx hb dX8_bitOf_2 rfl (lv_at hl 2 rfl) ?_
  refine xj_i (wc := (wD_60 h cs qI_75 fL fA fQ fG fJ)) (wr := ([] : va_W)) hP hD hS hA [0, 1, 2, 3, 4, 5, 6, 7, 8, 9, 10, 11] [] rfl rfl (by decide) (by decide) (va_runV (As := [.int (nI 0), .int (nI 0)]) (rest := []) ⟨hx, hb, hml, hown, hts⟩ (a_X8_indexOf_92 l dC dI h cs H.size qI_75 fL fA fQ fG fJ ) (cwV 2 hts gX8_bitOf_X8_indexOf rfl rfl rfl (by decide +kernel) ⟨Nat.le_of_ble_eq_true rfl, Nat.le_of_ble_eq_true rfl⟩) (xpV (wc := (wD_60 h cs qI_75 fL fA fQ fG fJ)) hP hD hK hN [0, 1, 2, 3, 4, 5, 6, 7, 8, 9, 10, 11] rfl (by decide) 0 (ci := 8) rfl rfl _) rfl rfl hl.1 rfl (lv_room (Nat.le_of_ble_eq_true rfl)) dX8_bitOf_3 ⟨Nat.zero_le _, Nat.zero_le _⟩) (fun r_2 u_1 H locs hw hP hD hS => ?_)
  obtain ⟨hf_3, rfl⟩ := hw
  have hP : va_P (dC, dI) vwCl (wD_60 h cs qI_75 fL fA fQ fG fJ) H := hP
  have hD : va_D A0 (wD_60 h cs qI_75 fL fA fQ fG fJ) := hD
  obtain rfl := hf_3
  refine lv_istore (lv' := [(4, .int (nI 0)), (0, .ref (h 105)), (1, .int (nI 0)), (2, .int (nI 0)), (3, .int (nI 0))]) hx hb dX8_bitOf_6 hl (by decide) rfl (fun ls hl => ?_)
  refine lv_aload_n hx hb dX8_bitOf_8 rfl (lv_at hl 1 rfl) ?_
  refine va_get (D := (dC, dI)) (ci := 8) (v := .ref (h 101)) (C := RX8) (T := TX8) (N := 6) hx hb hts hinX8 hown hK hP 0 rfl rfl 0 (by decide) (hts (.fieldLink RX8 28 "MixedWords$Words" "mix" "LMixedWords$Mix;") (by decide +kernel)) (fun _ h9 => h9) rfl dX8_bitOf_9 ?_
  refine va_get (D := (dC, dI)) (ci := 3) (v := .int (qI_75 122)) (C := RX3) (T := TX3) (N := 6) hx hb hts hinX3 hown hK hP 1 rfl rfl 2 (by decide) (hts (.fieldLink RX8 51 "MixedWords$Mix" "letterCount" "I") (by decide +kernel)) (fun _ h9 => h9) rfl dX8_bitOf_12 ?_
  refine xt_i (y := nI 2) (by decide +kernel) ?_
  refine lv_iconst (v := nI 2) hx hb dX8_bitOf_15 (by decide) ?_
  refine lv_icmp_ne (tgt := 22) hx hb dX8_bitOf_16 (by decide) (fun c9 => False.elim (by revert c9; decide +kernel)) (fun _ => ?_)
  refine lv_iload hx hb dX8_bitOf_19 (lv_at hl 0 rfl) ?_
  exact xr_i (v := (nI 0)) hx hb hr hlocks hK hS dX8_bitOf_21 (qI_75, fL, fA, fQ, fG, fJ) ⟨rfl, rfl⟩ hP hD
set_option maxHeartbeats 4000000 in
set_option maxRecDepth 100000 in
theorem a_X8_indexOf_94 (l : Launch) (dC : Nat → ClassId) (dI : Nat → Nat → Nat) (h : Nat → Nat) (cs : Nat → ClassId) (sz : Nat) (I : Nat → Int32) (L : Nat → Int64) (A : Nat → Nat → Int32) (Q : Nat → Nat → Int64) (G : Nat → Nat → Nat → Int32) (J : Nat → Nat → Nat → Int64) : Met l yX8_indexOf wsX8_indexOf ({ frames := 1, cells := 0, slots := 0, locals := 20 }) (va_Pc [.ref (h 105), .int (nI 1), .int (nI 0)] (xPre (dC, dI) (wD_60 h cs qI_75 fL fA fQ fG fJ) (tysA cs) sz)) (va_Qi (fun (r : Int32) (u : CS) => (r = nI 0) ∧ u = (qI_75, fL, fA, fQ, fG, fJ)) (xB (dC, dI) (tysA cs) (va_A (wD_60 h cs qI_75 fL fA fQ fG fJ) sz) (fun u : CS => wD_60 h cs u.1 u.2.1 u.2.2.1 u.2.2.2.1 u.2.2.2.2.1 u.2.2.2.2.2)) (va_A (wD_60 h cs qI_75 fL fA fQ fG fJ) sz)) 0 0 (va_A (wD_60 h cs qI_75 fL fA fQ fG fJ) sz) := by
  refine Met.ofW (cc := cX8_indexOf) (maxL := 3) (ret := (some .int)) (by decide) rfl ?_
  intro p e s m args below meth c s₁ B hml hv
  obtain ⟨rfl, hsz, hP, hK, hD0, hN⟩ := hv
  have hx := B.exec
  have hb := B.bytes
  have hr := B.returns
  have hts := atoms_spec (ws := wsX8_indexOf) B.pre
  have hown : s.vm.findClass RX8 = some m.cls := findClass_of_methodNamed B.named
  have hlocks := B.notSynchronized
  subst hsz
  have hD := hD0.self (sz := s.heap.size)
  generalize hAe : va_A (wD_60 h cs qI_75 fL fA fQ fG fJ) s.heap.size = A0 at hD ⊢
  have hA : ∀ q : Nat, s.heap.size ≤ q → A0 q := fun q h => by rw [← hAe]; exact Or.inr h
  have hl := lv_entry ([.ref (h 105), .int (nI 1), .int (nI 0)]) (n := 3) (Nat.le_of_ble_eq_true rfl)
  rw [lg_entry_eq]
  generalize (lg_sl ([.ref (h 105), .int (nI 1), .int (nI 0)]) ++ List.replicate (3 - (lg_sl ([.ref (h 105), .int (nI 1), .int (nI 0)])).length) Slot.unset).toArray = ls at hl ⊢
  have hl : lv_has ls 3 [(0, .ref (h 105)), (1, .int (nI 1)), (2, .int (nI 0))] := hl
  generalize hH : s.heap = H at hP ⊢
  have hS : va_S A0 s.heap H [] := by rw [← hH]; exact va_S.rf
  have hinX8 : ∀ w ∈ wsX80, w ∈ wsX8_indexOf := by decide +kernel
  have hinX3 : ∀ w ∈ wsX30, w ∈ wsX8_indexOf := by decide +kernel
  refine lv_iload_n hx hb dX8_indexOf_0 rfl (lv_at hl 1 rfl) ?_
  refine lv_aload_n hx hb dX8_indexOf_1 rfl (lv_at hl 0 rfl) ?_
  refine va_get (D := (dC, dI)) (ci := 8) (v := .ref (h 101)) (C := RX8) (T := TX8) (N := 6) hx hb hts hinX8 hown hK hP 0 rfl rfl 0 (by decide) (hts (.fieldLink RX8 28 "MixedWords$Words" "mix" "LMixedWords$Mix;") (by decide +kernel)) (fun _ h9 => h9) rfl dX8_indexOf_2 ?_
  refine xj_i (wc := (wD_32 h cs qI_75 fL fA fQ fG fJ)) (wr := [(h 105, .inr (8, [.ref (h 101), .ref (h 170), .ref (h 171), .ref (h 172), .int (qI_75 173), .int (qI_75 174)])), (h 170, .inl (cs 0, 256, .inl (fA 170))), (h 171, .inl (cs 0, 256, .inl (fA 171))), (h 172, .inl (cs 0, 256, .inl (fA 172)))]) hP hD hS hA [1, 2, 3, 4, 5, 6, 7, 8] [0, 9, 10, 11] rfl rfl (by decide) (by decide) (va_runV (As := []) (rest := [.int (nI 1)]) ⟨hx, hb, hml, hown, hts⟩ (a_X3_bitsOfLetter_78 l dC dI h cs H.size qI_75 fL fA fQ fG fJ ) (cwV 0 hts gX8_indexOf_X3_bitsOfLetter rfl rfl rfl (by decide +kernel) ⟨Nat.le_of_ble_eq_true rfl, Nat.le_of_ble_eq_true rfl⟩) (xpV (wc := (wD_32 h cs qI_75 fL fA fQ fG fJ)) hP hD hK hN [1, 2, 3, 4, 5, 6, 7, 8] rfl (by decide) 1 (ci := 3) rfl rfl _) rfl rfl hl.1 rfl (lv_room (Nat.le_of_ble_eq_true rfl)) dX8_indexOf_5 ⟨Nat.zero_le _, Nat.zero_le _⟩) (fun r_2 u_1 H locs hw hP hD hS => ?_)
  obtain ⟨hf_3, rfl⟩ := hw
  have hP : va_P (dC, dI) vwCl (wD_60 h cs qI_75 fL fA fQ fG fJ) H := xP_sub hP [0, 4, 5, 6, 7, 8, 9, 10, 11, 1, 2, 3] rfl
  have hD : va_D A0 (wD_60 h cs qI_75 fL fA fQ fG fJ) := hD.sub [0, 4, 5, 6, 7, 8, 9, 10, 11, 1, 2, 3] (by decide) rfl
  obtain rfl := hf_3
  refine lv_aload_n hx hb dX8_indexOf_8 rfl (lv_at hl 0 rfl) ?_
  refine va_get (D := (dC, dI)) (ci := 8) (v := .ref (h 101)) (C := RX8) (T := TX8) (N := 6) hx hb hts hinX8 hown hK hP 0 rfl rfl 0 (by decide) (hts (.fieldLink RX8 28 "MixedWords$Words" "mix" "LMixedWords$Mix;") (by decide +kernel)) (fun _ h9 => h9) rfl dX8_indexOf_9 ?_
  refine va_get (D := (dC, dI)) (ci := 3) (v := .int (qI_75 121)) (C := RX3) (T := TX3) (N := 6) hx hb hts hinX3 hown hK hP 1 rfl rfl 1 (by decide) (hts (.fieldLink RX8 40 "MixedWords$Mix" "width" "I") (by decide +kernel)) (fun _ h9 => h9) rfl dX8_indexOf_12 ?_
  refine xt_i (y := nI 2) (by decide +kernel) ?_
  refine lv_iconst (v := nI 1) hx hb dX8_indexOf_15 (by decide) ?_
  refine lv_isub hx hb dX8_indexOf_16 ?_
  refine xt_i (y := nI 1) (by decide +kernel) ?_
  refine lv_iload_n hx hb dX8_indexOf_17 rfl (lv_at hl 2 rfl) ?_
  refine lv_isub hx hb dX8_indexOf_18 ?_
  refine xt_i (y := nI 1) (by decide +kernel) ?_
  refine lv_imul hx hb dX8_indexOf_19 ?_
  refine xt_i (y := nI 1) (by decide +kernel) ?_
  refine lv_ishr hx hb dX8_indexOf_20 ?_
  refine xt_i (y := nI 0) (by decide +kernel) ?_
  refine lv_aload_n hx hb dX8_indexOf_21 rfl (lv_at hl 0 rfl) ?_
  refine va_get (D := (dC, dI)) (ci := 8) (v := .ref (h 101)) (C := RX8) (T := TX8) (N := 6) hx hb hts hinX8 hown hK hP 0 rfl rfl 0 (by decide) (hts (.fieldLink RX8 28 "MixedWords$Words" "mix" "LMixedWords$Mix;") (by decide +kernel)) (fun _ h9 => h9) rfl dX8_indexOf_22 ?_
  refine va_get (D := (dC, dI)) (ci := 3) (v := .int (qI_75 122)) (C := RX3) (T := TX3) (N := 6) hx hb hts hinX3 hown hK hP 1 rfl rfl 2 (by decide) (hts (.fieldLink RX8 51 "MixedWords$Mix" "letterCount" "I") (by decide +kernel)) (fun _ h9 => h9) rfl dX8_indexOf_25 ?_
  refine xt_i (y := nI 2) (by decide +kernel) ?_
  refine lv_iconst (v := nI 1) hx hb dX8_indexOf_28 (by decide) ?_
  refine lv_isub hx hb dX8_indexOf_29 ?_
  refine xt_i (y := nI 1) (by decide +kernel) ?_
  refine lv_iand hx hb dX8_indexOf_30 ?_
  refine xt_i (y := nI 0) (by decide +kernel) ?_
  exact xr_i (v := (nI 0)) hx hb hr hlocks hK hS dX8_indexOf_31 (qI_75, fL, fA, fQ, fG, fJ) ⟨rfl, rfl⟩ hP hD
set_option maxHeartbeats 4000000 in
set_option maxRecDepth 100000 in
theorem a_X8_bitOf_93 (l : Launch) (dC : Nat → ClassId) (dI : Nat → Nat → Nat) (h : Nat → Nat) (cs : Nat → ClassId) (sz : Nat) (I : Nat → Int32) (L : Nat → Int64) (A : Nat → Nat → Int32) (Q : Nat → Nat → Int64) (G : Nat → Nat → Nat → Int32) (J : Nat → Nat → Nat → Int64) : Met l yX8_bitOf wsX8_bitOf ({ frames := 2, cells := 0, slots := 0, locals := 42 }) (va_Pc [.ref (h 105), .int (nI 1), .int (nI 0), .int (nI 0)] (xPre (dC, dI) (wD_60 h cs qI_75 fL fA fQ fG fJ) (tysA cs) sz)) (va_Qi (fun (r : Int32) (u : CS) => (r = nI 0) ∧ u = (qI_75, fL, fA, fQ, fG, fJ)) (xB (dC, dI) (tysA cs) (va_A (wD_60 h cs qI_75 fL fA fQ fG fJ) sz) (fun u : CS => wD_60 h cs u.1 u.2.1 u.2.2.1 u.2.2.2.1 u.2.2.2.2.1 u.2.2.2.2.2)) (va_A (wD_60 h cs qI_75 fL fA fQ fG fJ) sz)) 0 0 (va_A (wD_60 h cs qI_75 fL fA fQ fG fJ) sz) := by
  refine Met.ofW (cc := cX8_bitOf) (maxL := 5) (ret := (some .int)) (by decide) rfl ?_
  intro p e s m args below meth c s₁ B hml hv
  obtain ⟨rfl, hsz, hP, hK, hD0, hN⟩ := hv
  have hx := B.exec
  have hb := B.bytes
  have hr := B.returns
  have hts := atoms_spec (ws := wsX8_bitOf) B.pre
  have hown : s.vm.findClass RX8 = some m.cls := findClass_of_methodNamed B.named
  have hlocks := B.notSynchronized
  subst hsz
  have hD := hD0.self (sz := s.heap.size)
  generalize hAe : va_A (wD_60 h cs qI_75 fL fA fQ fG fJ) s.heap.size = A0 at hD ⊢
  have hA : ∀ q : Nat, s.heap.size ≤ q → A0 q := fun q h => by rw [← hAe]; exact Or.inr h
  have hl := lv_entry ([.ref (h 105), .int (nI 1), .int (nI 0), .int (nI 0)]) (n := 5) (Nat.le_of_ble_eq_true rfl)
  rw [lg_entry_eq]
  generalize (lg_sl ([.ref (h 105), .int (nI 1), .int (nI 0), .int (nI 0)]) ++ List.replicate (5 - (lg_sl ([.ref (h 105), .int (nI 1), .int (nI 0), .int (nI 0)])).length) Slot.unset).toArray = ls at hl ⊢
  have hl : lv_has ls 5 [(0, .ref (h 105)), (1, .int (nI 1)), (2, .int (nI 0)), (3, .int (nI 0))] := hl
  generalize hH : s.heap = H at hP ⊢
  have hS : va_S A0 s.heap H [] := by rw [← hH]; exact va_S.rf
  have hinX8 : ∀ w ∈ wsX80, w ∈ wsX8_bitOf := by decide +kernel
  have hinX3 : ∀ w ∈ wsX30, w ∈ wsX8_bitOf := by decide +kernel
  refine lv_aload_n hx hb dX8_bitOf_0 rfl (lv_at hl 0 rfl) ?_
  refine lv_iload_n hx hb dX8_bitOf_1 rfl (lv_at hl 1 rfl) ?_
  refine lv_iload_n hx hb dX8_bitOf_2 rfl (lv_at hl 2 rfl) ?_
  refine xj_i (wc := (wD_60 h cs qI_75 fL fA fQ fG fJ)) (wr := ([] : va_W)) hP hD hS hA [0, 1, 2, 3, 4, 5, 6, 7, 8, 9, 10, 11] [] rfl rfl (by decide) (by decide) (va_runV (As := [.int (nI 1), .int (nI 0)]) (rest := []) ⟨hx, hb, hml, hown, hts⟩ (a_X8_indexOf_94 l dC dI h cs H.size qI_75 fL fA fQ fG fJ ) (cwV 2 hts gX8_bitOf_X8_indexOf rfl rfl rfl (by decide +kernel) ⟨Nat.le_of_ble_eq_true rfl, Nat.le_of_ble_eq_true rfl⟩) (xpV (wc := (wD_60 h cs qI_75 fL fA fQ fG fJ)) hP hD hK hN [0, 1, 2, 3, 4, 5, 6, 7, 8, 9, 10, 11] rfl (by decide) 0 (ci := 8) rfl rfl _) rfl rfl hl.1 rfl (lv_room (Nat.le_of_ble_eq_true rfl)) dX8_bitOf_3 ⟨Nat.zero_le _, Nat.zero_le _⟩) (fun r_2 u_1 H locs hw hP hD hS => ?_)
  obtain ⟨hf_3, rfl⟩ := hw
  have hP : va_P (dC, dI) vwCl (wD_60 h cs qI_75 fL fA fQ fG fJ) H := hP
  have hD : va_D A0 (wD_60 h cs qI_75 fL fA fQ fG fJ) := hD
  obtain rfl := hf_3
  refine lv_istore (lv' := [(4, .int (nI 0)), (0, .ref (h 105)), (1, .int (nI 1)), (2, .int (nI 0)), (3, .int (nI 0))]) hx hb dX8_bitOf_6 hl (by decide) rfl (fun ls hl => ?_)
  refine lv_aload_n hx hb dX8_bitOf_8 rfl (lv_at hl 1 rfl) ?_
  refine va_get (D := (dC, dI)) (ci := 8) (v := .ref (h 101)) (C := RX8) (T := TX8) (N := 6) hx hb hts hinX8 hown hK hP 0 rfl rfl 0 (by decide) (hts (.fieldLink RX8 28 "MixedWords$Words" "mix" "LMixedWords$Mix;") (by decide +kernel)) (fun _ h9 => h9) rfl dX8_bitOf_9 ?_
  refine va_get (D := (dC, dI)) (ci := 3) (v := .int (qI_75 122)) (C := RX3) (T := TX3) (N := 6) hx hb hts hinX3 hown hK hP 1 rfl rfl 2 (by decide) (hts (.fieldLink RX8 51 "MixedWords$Mix" "letterCount" "I") (by decide +kernel)) (fun _ h9 => h9) rfl dX8_bitOf_12 ?_
  refine xt_i (y := nI 2) (by decide +kernel) ?_
  refine lv_iconst (v := nI 2) hx hb dX8_bitOf_15 (by decide) ?_
  refine lv_icmp_ne (tgt := 22) hx hb dX8_bitOf_16 (by decide) (fun c9 => False.elim (by revert c9; decide +kernel)) (fun _ => ?_)
  refine lv_iload hx hb dX8_bitOf_19 (lv_at hl 0 rfl) ?_
  exact xr_i (v := (nI 0)) hx hb hr hlocks hK hS dX8_bitOf_21 (qI_75, fL, fA, fQ, fG, fJ) ⟨rfl, rfl⟩ hP hD
set_option maxHeartbeats 4000000 in
set_option maxRecDepth 100000 in
theorem a_X8_indexOf_96 (l : Launch) (dC : Nat → ClassId) (dI : Nat → Nat → Nat) (h : Nat → Nat) (cs : Nat → ClassId) (sz : Nat) (I : Nat → Int32) (L : Nat → Int64) (A : Nat → Nat → Int32) (Q : Nat → Nat → Int64) (G : Nat → Nat → Nat → Int32) (J : Nat → Nat → Nat → Int64) : Met l yX8_indexOf wsX8_indexOf ({ frames := 1, cells := 0, slots := 0, locals := 20 }) (va_Pc [.ref (h 105), .int (nI 2), .int (nI 0)] (xPre (dC, dI) (wD_60 h cs qI_75 fL fA fQ fG fJ) (tysA cs) sz)) (va_Qi (fun (r : Int32) (u : CS) => (r = nI 1) ∧ u = (qI_75, fL, fA, fQ, fG, fJ)) (xB (dC, dI) (tysA cs) (va_A (wD_60 h cs qI_75 fL fA fQ fG fJ) sz) (fun u : CS => wD_60 h cs u.1 u.2.1 u.2.2.1 u.2.2.2.1 u.2.2.2.2.1 u.2.2.2.2.2)) (va_A (wD_60 h cs qI_75 fL fA fQ fG fJ) sz)) 0 0 (va_A (wD_60 h cs qI_75 fL fA fQ fG fJ) sz) := by
  refine Met.ofW (cc := cX8_indexOf) (maxL := 3) (ret := (some .int)) (by decide) rfl ?_
  intro p e s m args below meth c s₁ B hml hv
  obtain ⟨rfl, hsz, hP, hK, hD0, hN⟩ := hv
  have hx := B.exec
  have hb := B.bytes
  have hr := B.returns
  have hts := atoms_spec (ws := wsX8_indexOf) B.pre
  have hown : s.vm.findClass RX8 = some m.cls := findClass_of_methodNamed B.named
  have hlocks := B.notSynchronized
  subst hsz
  have hD := hD0.self (sz := s.heap.size)
  generalize hAe : va_A (wD_60 h cs qI_75 fL fA fQ fG fJ) s.heap.size = A0 at hD ⊢
  have hA : ∀ q : Nat, s.heap.size ≤ q → A0 q := fun q h => by rw [← hAe]; exact Or.inr h
  have hl := lv_entry ([.ref (h 105), .int (nI 2), .int (nI 0)]) (n := 3) (Nat.le_of_ble_eq_true rfl)
  rw [lg_entry_eq]
  generalize (lg_sl ([.ref (h 105), .int (nI 2), .int (nI 0)]) ++ List.replicate (3 - (lg_sl ([.ref (h 105), .int (nI 2), .int (nI 0)])).length) Slot.unset).toArray = ls at hl ⊢
  have hl : lv_has ls 3 [(0, .ref (h 105)), (1, .int (nI 2)), (2, .int (nI 0))] := hl
  generalize hH : s.heap = H at hP ⊢
  have hS : va_S A0 s.heap H [] := by rw [← hH]; exact va_S.rf
  have hinX8 : ∀ w ∈ wsX80, w ∈ wsX8_indexOf := by decide +kernel
  have hinX3 : ∀ w ∈ wsX30, w ∈ wsX8_indexOf := by decide +kernel
  refine lv_iload_n hx hb dX8_indexOf_0 rfl (lv_at hl 1 rfl) ?_
  refine lv_aload_n hx hb dX8_indexOf_1 rfl (lv_at hl 0 rfl) ?_
  refine va_get (D := (dC, dI)) (ci := 8) (v := .ref (h 101)) (C := RX8) (T := TX8) (N := 6) hx hb hts hinX8 hown hK hP 0 rfl rfl 0 (by decide) (hts (.fieldLink RX8 28 "MixedWords$Words" "mix" "LMixedWords$Mix;") (by decide +kernel)) (fun _ h9 => h9) rfl dX8_indexOf_2 ?_
  refine xj_i (wc := (wD_32 h cs qI_75 fL fA fQ fG fJ)) (wr := [(h 105, .inr (8, [.ref (h 101), .ref (h 170), .ref (h 171), .ref (h 172), .int (qI_75 173), .int (qI_75 174)])), (h 170, .inl (cs 0, 256, .inl (fA 170))), (h 171, .inl (cs 0, 256, .inl (fA 171))), (h 172, .inl (cs 0, 256, .inl (fA 172)))]) hP hD hS hA [1, 2, 3, 4, 5, 6, 7, 8] [0, 9, 10, 11] rfl rfl (by decide) (by decide) (va_runV (As := []) (rest := [.int (nI 2)]) ⟨hx, hb, hml, hown, hts⟩ (a_X3_bitsOfLetter_78 l dC dI h cs H.size qI_75 fL fA fQ fG fJ ) (cwV 0 hts gX8_indexOf_X3_bitsOfLetter rfl rfl rfl (by decide +kernel) ⟨Nat.le_of_ble_eq_true rfl, Nat.le_of_ble_eq_true rfl⟩) (xpV (wc := (wD_32 h cs qI_75 fL fA fQ fG fJ)) hP hD hK hN [1, 2, 3, 4, 5, 6, 7, 8] rfl (by decide) 1 (ci := 3) rfl rfl _) rfl rfl hl.1 rfl (lv_room (Nat.le_of_ble_eq_true rfl)) dX8_indexOf_5 ⟨Nat.zero_le _, Nat.zero_le _⟩) (fun r_2 u_1 H locs hw hP hD hS => ?_)
  obtain ⟨hf_3, rfl⟩ := hw
  have hP : va_P (dC, dI) vwCl (wD_60 h cs qI_75 fL fA fQ fG fJ) H := xP_sub hP [0, 4, 5, 6, 7, 8, 9, 10, 11, 1, 2, 3] rfl
  have hD : va_D A0 (wD_60 h cs qI_75 fL fA fQ fG fJ) := hD.sub [0, 4, 5, 6, 7, 8, 9, 10, 11, 1, 2, 3] (by decide) rfl
  obtain rfl := hf_3
  refine lv_aload_n hx hb dX8_indexOf_8 rfl (lv_at hl 0 rfl) ?_
  refine va_get (D := (dC, dI)) (ci := 8) (v := .ref (h 101)) (C := RX8) (T := TX8) (N := 6) hx hb hts hinX8 hown hK hP 0 rfl rfl 0 (by decide) (hts (.fieldLink RX8 28 "MixedWords$Words" "mix" "LMixedWords$Mix;") (by decide +kernel)) (fun _ h9 => h9) rfl dX8_indexOf_9 ?_
  refine va_get (D := (dC, dI)) (ci := 3) (v := .int (qI_75 121)) (C := RX3) (T := TX3) (N := 6) hx hb hts hinX3 hown hK hP 1 rfl rfl 1 (by decide) (hts (.fieldLink RX8 40 "MixedWords$Mix" "width" "I") (by decide +kernel)) (fun _ h9 => h9) rfl dX8_indexOf_12 ?_
  refine xt_i (y := nI 2) (by decide +kernel) ?_
  refine lv_iconst (v := nI 1) hx hb dX8_indexOf_15 (by decide) ?_
  refine lv_isub hx hb dX8_indexOf_16 ?_
  refine xt_i (y := nI 1) (by decide +kernel) ?_
  refine lv_iload_n hx hb dX8_indexOf_17 rfl (lv_at hl 2 rfl) ?_
  refine lv_isub hx hb dX8_indexOf_18 ?_
  refine xt_i (y := nI 1) (by decide +kernel) ?_
  refine lv_imul hx hb dX8_indexOf_19 ?_
  refine xt_i (y := nI 1) (by decide +kernel) ?_
  refine lv_ishr hx hb dX8_indexOf_20 ?_
  refine xt_i (y := nI 1) (by decide +kernel) ?_
  refine lv_aload_n hx hb dX8_indexOf_21 rfl (lv_at hl 0 rfl) ?_
  refine va_get (D := (dC, dI)) (ci := 8) (v := .ref (h 101)) (C := RX8) (T := TX8) (N := 6) hx hb hts hinX8 hown hK hP 0 rfl rfl 0 (by decide) (hts (.fieldLink RX8 28 "MixedWords$Words" "mix" "LMixedWords$Mix;") (by decide +kernel)) (fun _ h9 => h9) rfl dX8_indexOf_22 ?_
  refine va_get (D := (dC, dI)) (ci := 3) (v := .int (qI_75 122)) (C := RX3) (T := TX3) (N := 6) hx hb hts hinX3 hown hK hP 1 rfl rfl 2 (by decide) (hts (.fieldLink RX8 51 "MixedWords$Mix" "letterCount" "I") (by decide +kernel)) (fun _ h9 => h9) rfl dX8_indexOf_25 ?_
  refine xt_i (y := nI 2) (by decide +kernel) ?_
  refine lv_iconst (v := nI 1) hx hb dX8_indexOf_28 (by decide) ?_
  refine lv_isub hx hb dX8_indexOf_29 ?_
  refine xt_i (y := nI 1) (by decide +kernel) ?_
  refine lv_iand hx hb dX8_indexOf_30 ?_
  refine xt_i (y := nI 1) (by decide +kernel) ?_
  exact xr_i (v := (nI 1)) hx hb hr hlocks hK hS dX8_indexOf_31 (qI_75, fL, fA, fQ, fG, fJ) ⟨rfl, rfl⟩ hP hD
set_option maxHeartbeats 4000000 in
set_option maxRecDepth 100000 in
theorem a_X8_bitOf_95 (l : Launch) (dC : Nat → ClassId) (dI : Nat → Nat → Nat) (h : Nat → Nat) (cs : Nat → ClassId) (sz : Nat) (I : Nat → Int32) (L : Nat → Int64) (A : Nat → Nat → Int32) (Q : Nat → Nat → Int64) (G : Nat → Nat → Nat → Int32) (J : Nat → Nat → Nat → Int64) : Met l yX8_bitOf wsX8_bitOf ({ frames := 2, cells := 0, slots := 0, locals := 42 }) (va_Pc [.ref (h 105), .int (nI 2), .int (nI 0), .int (nI 0)] (xPre (dC, dI) (wD_60 h cs qI_75 fL fA fQ fG fJ) (tysA cs) sz)) (va_Qi (fun (r : Int32) (u : CS) => (r = nI 1) ∧ u = (qI_75, fL, fA, fQ, fG, fJ)) (xB (dC, dI) (tysA cs) (va_A (wD_60 h cs qI_75 fL fA fQ fG fJ) sz) (fun u : CS => wD_60 h cs u.1 u.2.1 u.2.2.1 u.2.2.2.1 u.2.2.2.2.1 u.2.2.2.2.2)) (va_A (wD_60 h cs qI_75 fL fA fQ fG fJ) sz)) 0 0 (va_A (wD_60 h cs qI_75 fL fA fQ fG fJ) sz) := by
  refine Met.ofW (cc := cX8_bitOf) (maxL := 5) (ret := (some .int)) (by decide) rfl ?_
  intro p e s m args below meth c s₁ B hml hv
  obtain ⟨rfl, hsz, hP, hK, hD0, hN⟩ := hv
  have hx := B.exec
  have hb := B.bytes
  have hr := B.returns
  have hts := atoms_spec (ws := wsX8_bitOf) B.pre
  have hown : s.vm.findClass RX8 = some m.cls := findClass_of_methodNamed B.named
  have hlocks := B.notSynchronized
  subst hsz
  have hD := hD0.self (sz := s.heap.size)
  generalize hAe : va_A (wD_60 h cs qI_75 fL fA fQ fG fJ) s.heap.size = A0 at hD ⊢
  have hA : ∀ q : Nat, s.heap.size ≤ q → A0 q := fun q h => by rw [← hAe]; exact Or.inr h
  have hl := lv_entry ([.ref (h 105), .int (nI 2), .int (nI 0), .int (nI 0)]) (n := 5) (Nat.le_of_ble_eq_true rfl)
  rw [lg_entry_eq]
  generalize (lg_sl ([.ref (h 105), .int (nI 2), .int (nI 0), .int (nI 0)]) ++ List.replicate (5 - (lg_sl ([.ref (h 105), .int (nI 2), .int (nI 0), .int (nI 0)])).length) Slot.unset).toArray = ls at hl ⊢
  have hl : lv_has ls 5 [(0, .ref (h 105)), (1, .int (nI 2)), (2, .int (nI 0)), (3, .int (nI 0))] := hl
  generalize hH : s.heap = H at hP ⊢
  have hS : va_S A0 s.heap H [] := by rw [← hH]; exact va_S.rf
  have hinX8 : ∀ w ∈ wsX80, w ∈ wsX8_bitOf := by decide +kernel
  have hinX3 : ∀ w ∈ wsX30, w ∈ wsX8_bitOf := by decide +kernel
  refine lv_aload_n hx hb dX8_bitOf_0 rfl (lv_at hl 0 rfl) ?_
  refine lv_iload_n hx hb dX8_bitOf_1 rfl (lv_at hl 1 rfl) ?_
  refine lv_iload_n hx hb dX8_bitOf_2 rfl (lv_at hl 2 rfl) ?_
  refine xj_i (wc := (wD_60 h cs qI_75 fL fA fQ fG fJ)) (wr := ([] : va_W)) hP hD hS hA [0, 1, 2, 3, 4, 5, 6, 7, 8, 9, 10, 11] [] rfl rfl (by decide) (by decide) (va_runV (As := [.int (nI 2), .int (nI 0)]) (rest := []) ⟨hx, hb, hml, hown, hts⟩ (a_X8_indexOf_96 l dC dI h cs H.size qI_75 fL fA fQ fG fJ ) (cwV 2 hts gX8_bitOf_X8_indexOf rfl rfl rfl (by decide +kernel) ⟨Nat.le_of_ble_eq_true rfl, Nat.le_of_ble_eq_true rfl⟩) (xpV (wc := (wD_60 h cs qI_75 fL fA fQ fG fJ)) hP hD hK hN [0, 1, 2, 3, 4, 5, 6, 7, 8, 9, 10, 11] rfl (by decide) 0 (ci := 8) rfl rfl _) rfl rfl hl.1 rfl (lv_room (Nat.le_of_ble_eq_true rfl)) dX8_bitOf_3 ⟨Nat.zero_le _, Nat.zero_le _⟩) (fun r_2 u_1 H locs hw hP hD hS => ?_)
  obtain ⟨hf_3, rfl⟩ := hw
  have hP : va_P (dC, dI) vwCl (wD_60 h cs qI_75 fL fA fQ fG fJ) H := hP
  have hD : va_D A0 (wD_60 h cs qI_75 fL fA fQ fG fJ) := hD
  obtain rfl := hf_3
  refine lv_istore (lv' := [(4, .int (nI 1)), (0, .ref (h 105)), (1, .int (nI 2)), (2, .int (nI 0)), (3, .int (nI 0))]) hx hb dX8_bitOf_6 hl (by decide) rfl (fun ls hl => ?_)
  refine lv_aload_n hx hb dX8_bitOf_8 rfl (lv_at hl 1 rfl) ?_
  refine va_get (D := (dC, dI)) (ci := 8) (v := .ref (h 101)) (C := RX8) (T := TX8) (N := 6) hx hb hts hinX8 hown hK hP 0 rfl rfl 0 (by decide) (hts (.fieldLink RX8 28 "MixedWords$Words" "mix" "LMixedWords$Mix;") (by decide +kernel)) (fun _ h9 => h9) rfl dX8_bitOf_9 ?_
  refine va_get (D := (dC, dI)) (ci := 3) (v := .int (qI_75 122)) (C := RX3) (T := TX3) (N := 6) hx hb hts hinX3 hown hK hP 1 rfl rfl 2 (by decide) (hts (.fieldLink RX8 51 "MixedWords$Mix" "letterCount" "I") (by decide +kernel)) (fun _ h9 => h9) rfl dX8_bitOf_12 ?_
  refine xt_i (y := nI 2) (by decide +kernel) ?_
  refine lv_iconst (v := nI 2) hx hb dX8_bitOf_15 (by decide) ?_
  refine lv_icmp_ne (tgt := 22) hx hb dX8_bitOf_16 (by decide) (fun c9 => False.elim (by revert c9; decide +kernel)) (fun _ => ?_)
  refine lv_iload hx hb dX8_bitOf_19 (lv_at hl 0 rfl) ?_
  exact xr_i (v := (nI 1)) hx hb hr hlocks hK hS dX8_bitOf_21 (qI_75, fL, fA, fQ, fG, fJ) ⟨rfl, rfl⟩ hP hD
set_option maxHeartbeats 4000000 in
set_option maxRecDepth 100000 in
theorem a_X8_indexOf_98 (l : Launch) (dC : Nat → ClassId) (dI : Nat → Nat → Nat) (h : Nat → Nat) (cs : Nat → ClassId) (sz : Nat) (I : Nat → Int32) (L : Nat → Int64) (A : Nat → Nat → Int32) (Q : Nat → Nat → Int64) (G : Nat → Nat → Nat → Int32) (J : Nat → Nat → Nat → Int64) : Met l yX8_indexOf wsX8_indexOf ({ frames := 1, cells := 0, slots := 0, locals := 20 }) (va_Pc [.ref (h 105), .int (nI 3), .int (nI 0)] (xPre (dC, dI) (wD_60 h cs qI_75 fL fA fQ fG fJ) (tysA cs) sz)) (va_Qi (fun (r : Int32) (u : CS) => (r = nI 1) ∧ u = (qI_75, fL, fA, fQ, fG, fJ)) (xB (dC, dI) (tysA cs) (va_A (wD_60 h cs qI_75 fL fA fQ fG fJ) sz) (fun u : CS => wD_60 h cs u.1 u.2.1 u.2.2.1 u.2.2.2.1 u.2.2.2.2.1 u.2.2.2.2.2)) (va_A (wD_60 h cs qI_75 fL fA fQ fG fJ) sz)) 0 0 (va_A (wD_60 h cs qI_75 fL fA fQ fG fJ) sz) := by
  refine Met.ofW (cc := cX8_indexOf) (maxL := 3) (ret := (some .int)) (by decide) rfl ?_
  intro p e s m args below meth c s₁ B hml hv
  obtain ⟨rfl, hsz, hP, hK, hD0, hN⟩ := hv
  have hx := B.exec
  have hb := B.bytes
  have hr := B.returns
  have hts := atoms_spec (ws := wsX8_indexOf) B.pre
  have hown : s.vm.findClass RX8 = some m.cls := findClass_of_methodNamed B.named
  have hlocks := B.notSynchronized
  subst hsz
  have hD := hD0.self (sz := s.heap.size)
  generalize hAe : va_A (wD_60 h cs qI_75 fL fA fQ fG fJ) s.heap.size = A0 at hD ⊢
  have hA : ∀ q : Nat, s.heap.size ≤ q → A0 q := fun q h => by rw [← hAe]; exact Or.inr h
  have hl := lv_entry ([.ref (h 105), .int (nI 3), .int (nI 0)]) (n := 3) (Nat.le_of_ble_eq_true rfl)
  rw [lg_entry_eq]
  generalize (lg_sl ([.ref (h 105), .int (nI 3), .int (nI 0)]) ++ List.replicate (3 - (lg_sl ([.ref (h 105), .int (nI 3), .int (nI 0)])).length) Slot.unset).toArray = ls at hl ⊢
  have hl : lv_has ls 3 [(0, .ref (h 105)), (1, .int (nI 3)), (2, .int (nI 0))] := hl
  generalize hH : s.heap = H at hP ⊢
  have hS : va_S A0 s.heap H [] := by rw [← hH]; exact va_S.rf
  have hinX8 : ∀ w ∈ wsX80, w ∈ wsX8_indexOf := by decide +kernel
  have hinX3 : ∀ w ∈ wsX30, w ∈ wsX8_indexOf := by decide +kernel
  refine lv_iload_n hx hb dX8_indexOf_0 rfl (lv_at hl 1 rfl) ?_
  refine lv_aload_n hx hb dX8_indexOf_1 rfl (lv_at hl 0 rfl) ?_
  refine va_get (D := (dC, dI)) (ci := 8) (v := .ref (h 101)) (C := RX8) (T := TX8) (N := 6) hx hb hts hinX8 hown hK hP 0 rfl rfl 0 (by decide) (hts (.fieldLink RX8 28 "MixedWords$Words" "mix" "LMixedWords$Mix;") (by decide +kernel)) (fun _ h9 => h9) rfl dX8_indexOf_2 ?_
  refine xj_i (wc := (wD_32 h cs qI_75 fL fA fQ fG fJ)) (wr := [(h 105, .inr (8, [.ref (h 101), .ref (h 170), .ref (h 171), .ref (h 172), .int (qI_75 173), .int (qI_75 174)])), (h 170, .inl (cs 0, 256, .inl (fA 170))), (h 171, .inl (cs 0, 256, .inl (fA 171))), (h 172, .inl (cs 0, 256, .inl (fA 172)))]) hP hD hS hA [1, 2, 3, 4, 5, 6, 7, 8] [0, 9, 10, 11] rfl rfl (by decide) (by decide) (va_runV (As := []) (rest := [.int (nI 3)]) ⟨hx, hb, hml, hown, hts⟩ (a_X3_bitsOfLetter_78 l dC dI h cs H.size qI_75 fL fA fQ fG fJ ) (cwV 0 hts gX8_indexOf_X3_bitsOfLetter rfl rfl rfl (by decide +kernel) ⟨Nat.le_of_ble_eq_true rfl, Nat.le_of_ble_eq_true rfl⟩) (xpV (wc := (wD_32 h cs qI_75 fL fA fQ fG fJ)) hP hD hK hN [1, 2, 3, 4, 5, 6, 7, 8] rfl (by decide) 1 (ci := 3) rfl rfl _) rfl rfl hl.1 rfl (lv_room (Nat.le_of_ble_eq_true rfl)) dX8_indexOf_5 ⟨Nat.zero_le _, Nat.zero_le _⟩) (fun r_2 u_1 H locs hw hP hD hS => ?_)
  obtain ⟨hf_3, rfl⟩ := hw
  have hP : va_P (dC, dI) vwCl (wD_60 h cs qI_75 fL fA fQ fG fJ) H := xP_sub hP [0, 4, 5, 6, 7, 8, 9, 10, 11, 1, 2, 3] rfl
  have hD : va_D A0 (wD_60 h cs qI_75 fL fA fQ fG fJ) := hD.sub [0, 4, 5, 6, 7, 8, 9, 10, 11, 1, 2, 3] (by decide) rfl
  obtain rfl := hf_3
  refine lv_aload_n hx hb dX8_indexOf_8 rfl (lv_at hl 0 rfl) ?_
  refine va_get (D := (dC, dI)) (ci := 8) (v := .ref (h 101)) (C := RX8) (T := TX8) (N := 6) hx hb hts hinX8 hown hK hP 0 rfl rfl 0 (by decide) (hts (.fieldLink RX8 28 "MixedWords$Words" "mix" "LMixedWords$Mix;") (by decide +kernel)) (fun _ h9 => h9) rfl dX8_indexOf_9 ?_
  refine va_get (D := (dC, dI)) (ci := 3) (v := .int (qI_75 121)) (C := RX3) (T := TX3) (N := 6) hx hb hts hinX3 hown hK hP 1 rfl rfl 1 (by decide) (hts (.fieldLink RX8 40 "MixedWords$Mix" "width" "I") (by decide +kernel)) (fun _ h9 => h9) rfl dX8_indexOf_12 ?_
  refine xt_i (y := nI 2) (by decide +kernel) ?_
  refine lv_iconst (v := nI 1) hx hb dX8_indexOf_15 (by decide) ?_
  refine lv_isub hx hb dX8_indexOf_16 ?_
  refine xt_i (y := nI 1) (by decide +kernel) ?_
  refine lv_iload_n hx hb dX8_indexOf_17 rfl (lv_at hl 2 rfl) ?_
  refine lv_isub hx hb dX8_indexOf_18 ?_
  refine xt_i (y := nI 1) (by decide +kernel) ?_
  refine lv_imul hx hb dX8_indexOf_19 ?_
  refine xt_i (y := nI 1) (by decide +kernel) ?_
  refine lv_ishr hx hb dX8_indexOf_20 ?_
  refine xt_i (y := nI 1) (by decide +kernel) ?_
  refine lv_aload_n hx hb dX8_indexOf_21 rfl (lv_at hl 0 rfl) ?_
  refine va_get (D := (dC, dI)) (ci := 8) (v := .ref (h 101)) (C := RX8) (T := TX8) (N := 6) hx hb hts hinX8 hown hK hP 0 rfl rfl 0 (by decide) (hts (.fieldLink RX8 28 "MixedWords$Words" "mix" "LMixedWords$Mix;") (by decide +kernel)) (fun _ h9 => h9) rfl dX8_indexOf_22 ?_
  refine va_get (D := (dC, dI)) (ci := 3) (v := .int (qI_75 122)) (C := RX3) (T := TX3) (N := 6) hx hb hts hinX3 hown hK hP 1 rfl rfl 2 (by decide) (hts (.fieldLink RX8 51 "MixedWords$Mix" "letterCount" "I") (by decide +kernel)) (fun _ h9 => h9) rfl dX8_indexOf_25 ?_
  refine xt_i (y := nI 2) (by decide +kernel) ?_
  refine lv_iconst (v := nI 1) hx hb dX8_indexOf_28 (by decide) ?_
  refine lv_isub hx hb dX8_indexOf_29 ?_
  refine xt_i (y := nI 1) (by decide +kernel) ?_
  refine lv_iand hx hb dX8_indexOf_30 ?_
  refine xt_i (y := nI 1) (by decide +kernel) ?_
  exact xr_i (v := (nI 1)) hx hb hr hlocks hK hS dX8_indexOf_31 (qI_75, fL, fA, fQ, fG, fJ) ⟨rfl, rfl⟩ hP hD
set_option maxHeartbeats 4000000 in
set_option maxRecDepth 100000 in
theorem a_X8_bitOf_97 (l : Launch) (dC : Nat → ClassId) (dI : Nat → Nat → Nat) (h : Nat → Nat) (cs : Nat → ClassId) (sz : Nat) (I : Nat → Int32) (L : Nat → Int64) (A : Nat → Nat → Int32) (Q : Nat → Nat → Int64) (G : Nat → Nat → Nat → Int32) (J : Nat → Nat → Nat → Int64) : Met l yX8_bitOf wsX8_bitOf ({ frames := 2, cells := 0, slots := 0, locals := 42 }) (va_Pc [.ref (h 105), .int (nI 3), .int (nI 0), .int (nI 0)] (xPre (dC, dI) (wD_60 h cs qI_75 fL fA fQ fG fJ) (tysA cs) sz)) (va_Qi (fun (r : Int32) (u : CS) => (r = nI 1) ∧ u = (qI_75, fL, fA, fQ, fG, fJ)) (xB (dC, dI) (tysA cs) (va_A (wD_60 h cs qI_75 fL fA fQ fG fJ) sz) (fun u : CS => wD_60 h cs u.1 u.2.1 u.2.2.1 u.2.2.2.1 u.2.2.2.2.1 u.2.2.2.2.2)) (va_A (wD_60 h cs qI_75 fL fA fQ fG fJ) sz)) 0 0 (va_A (wD_60 h cs qI_75 fL fA fQ fG fJ) sz) := by
  refine Met.ofW (cc := cX8_bitOf) (maxL := 5) (ret := (some .int)) (by decide) rfl ?_
  intro p e s m args below meth c s₁ B hml hv
  obtain ⟨rfl, hsz, hP, hK, hD0, hN⟩ := hv
  have hx := B.exec
  have hb := B.bytes
  have hr := B.returns
  have hts := atoms_spec (ws := wsX8_bitOf) B.pre
  have hown : s.vm.findClass RX8 = some m.cls := findClass_of_methodNamed B.named
  have hlocks := B.notSynchronized
  subst hsz
  have hD := hD0.self (sz := s.heap.size)
  generalize hAe : va_A (wD_60 h cs qI_75 fL fA fQ fG fJ) s.heap.size = A0 at hD ⊢
  have hA : ∀ q : Nat, s.heap.size ≤ q → A0 q := fun q h => by rw [← hAe]; exact Or.inr h
  have hl := lv_entry ([.ref (h 105), .int (nI 3), .int (nI 0), .int (nI 0)]) (n := 5) (Nat.le_of_ble_eq_true rfl)
  rw [lg_entry_eq]
  generalize (lg_sl ([.ref (h 105), .int (nI 3), .int (nI 0), .int (nI 0)]) ++ List.replicate (5 - (lg_sl ([.ref (h 105), .int (nI 3), .int (nI 0), .int (nI 0)])).length) Slot.unset).toArray = ls at hl ⊢
  have hl : lv_has ls 5 [(0, .ref (h 105)), (1, .int (nI 3)), (2, .int (nI 0)), (3, .int (nI 0))] := hl
  generalize hH : s.heap = H at hP ⊢
  have hS : va_S A0 s.heap H [] := by rw [← hH]; exact va_S.rf
  have hinX8 : ∀ w ∈ wsX80, w ∈ wsX8_bitOf := by decide +kernel
  have hinX3 : ∀ w ∈ wsX30, w ∈ wsX8_bitOf := by decide +kernel
  refine lv_aload_n hx hb dX8_bitOf_0 rfl (lv_at hl 0 rfl) ?_
  refine lv_iload_n hx hb dX8_bitOf_1 rfl (lv_at hl 1 rfl) ?_
  refine lv_iload_n hx hb dX8_bitOf_2 rfl (lv_at hl 2 rfl) ?_
  refine xj_i (wc := (wD_60 h cs qI_75 fL fA fQ fG fJ)) (wr := ([] : va_W)) hP hD hS hA [0, 1, 2, 3, 4, 5, 6, 7, 8, 9, 10, 11] [] rfl rfl (by decide) (by decide) (va_runV (As := [.int (nI 3), .int (nI 0)]) (rest := []) ⟨hx, hb, hml, hown, hts⟩ (a_X8_indexOf_98 l dC dI h cs H.size qI_75 fL fA fQ fG fJ ) (cwV 2 hts gX8_bitOf_X8_indexOf rfl rfl rfl (by decide +kernel) ⟨Nat.le_of_ble_eq_true rfl, Nat.le_of_ble_eq_true rfl⟩) (xpV (wc := (wD_60 h cs qI_75 fL fA fQ fG fJ)) hP hD hK hN [0, 1, 2, 3, 4, 5, 6, 7, 8, 9, 10, 11] rfl (by decide) 0 (ci := 8) rfl rfl _) rfl rfl hl.1 rfl (lv_room (Nat.le_of_ble_eq_true rfl)) dX8_bitOf_3 ⟨Nat.zero_le _, Nat.zero_le _⟩) (fun r_2 u_1 H locs hw hP hD hS => ?_)
  obtain ⟨hf_3, rfl⟩ := hw
  have hP : va_P (dC, dI) vwCl (wD_60 h cs qI_75 fL fA fQ fG fJ) H := hP
  have hD : va_D A0 (wD_60 h cs qI_75 fL fA fQ fG fJ) := hD
  obtain rfl := hf_3
  refine lv_istore (lv' := [(4, .int (nI 1)), (0, .ref (h 105)), (1, .int (nI 3)), (2, .int (nI 0)), (3, .int (nI 0))]) hx hb dX8_bitOf_6 hl (by decide) rfl (fun ls hl => ?_)
  refine lv_aload_n hx hb dX8_bitOf_8 rfl (lv_at hl 1 rfl) ?_
  refine va_get (D := (dC, dI)) (ci := 8) (v := .ref (h 101)) (C := RX8) (T := TX8) (N := 6) hx hb hts hinX8 hown hK hP 0 rfl rfl 0 (by decide) (hts (.fieldLink RX8 28 "MixedWords$Words" "mix" "LMixedWords$Mix;") (by decide +kernel)) (fun _ h9 => h9) rfl dX8_bitOf_9 ?_
  refine va_get (D := (dC, dI)) (ci := 3) (v := .int (qI_75 122)) (C := RX3) (T := TX3) (N := 6) hx hb hts hinX3 hown hK hP 1 rfl rfl 2 (by decide) (hts (.fieldLink RX8 51 "MixedWords$Mix" "letterCount" "I") (by decide +kernel)) (fun _ h9 => h9) rfl dX8_bitOf_12 ?_
  refine xt_i (y := nI 2) (by decide +kernel) ?_
  refine lv_iconst (v := nI 2) hx hb dX8_bitOf_15 (by decide) ?_
  refine lv_icmp_ne (tgt := 22) hx hb dX8_bitOf_16 (by decide) (fun c9 => False.elim (by revert c9; decide +kernel)) (fun _ => ?_)
  refine lv_iload hx hb dX8_bitOf_19 (lv_at hl 0 rfl) ?_
  exact xr_i (v := (nI 1)) hx hb hr hlocks hK hS dX8_bitOf_21 (qI_75, fL, fA, fQ, fG, fJ) ⟨rfl, rfl⟩ hP hD
set_option maxHeartbeats 4000000 in
set_option maxRecDepth 100000 in
theorem a_X8_leastWith_90 (l : Launch) (dC : Nat → ClassId) (dI : Nat → Nat → Nat) (h : Nat → Nat) (cs : Nat → ClassId) (sz : Nat) (I : Nat → Int32) (L : Nat → Int64) (A : Nat → Nat → Int32) (Q : Nat → Nat → Int64) (G : Nat → Nat → Nat → Int32) (J : Nat → Nat → Nat → Int64) : Met l yX8_leastWith wsX8_leastWith ({ frames := 4, cells := 0, slots := 0, locals := 88 }) (va_Pc [.ref (h 105), .int (nI 0), .int (nI 0), .int (nI 1)] (xPre (dC, dI) (wD_60 h cs fI fL fA fQ fG fJ) (tysA cs) sz)) (va_Qi (fun (r : Int32) (u : CS) => (r = nI 0) ∧ u = (qI_75, fL, fA, fQ, fG, fJ)) (xB (dC, dI) (tysA cs) (va_A (wD_60 h cs fI fL fA fQ fG fJ) sz) (fun u : CS => wD_60 h cs u.1 u.2.1 u.2.2.1 u.2.2.2.1 u.2.2.2.2.1 u.2.2.2.2.2)) (va_A (wD_60 h cs fI fL fA fQ fG fJ) sz)) 0 0 (va_A (wD_60 h cs fI fL fA fQ fG fJ) sz) := by
  refine Met.ofW (cc := cX8_leastWith) (maxL := 6) (ret := (some .int)) (by decide) rfl ?_
  intro p e s m args below meth c s₁ B hml hv
  obtain ⟨rfl, hsz, hP, hK, hD0, hN⟩ := hv
  have hx := B.exec
  have hb := B.bytes
  have hr := B.returns
  have hts := atoms_spec (ws := wsX8_leastWith) B.pre
  have hown : s.vm.findClass RX8 = some m.cls := findClass_of_methodNamed B.named
  have hlocks := B.notSynchronized
  subst hsz
  have hD := hD0.self (sz := s.heap.size)
  generalize hAe : va_A (wD_60 h cs fI fL fA fQ fG fJ) s.heap.size = A0 at hD ⊢
  have hA : ∀ q : Nat, s.heap.size ≤ q → A0 q := fun q h => by rw [← hAe]; exact Or.inr h
  have hl := lv_entry ([.ref (h 105), .int (nI 0), .int (nI 0), .int (nI 1)]) (n := 6) (Nat.le_of_ble_eq_true rfl)
  rw [lg_entry_eq]
  generalize (lg_sl ([.ref (h 105), .int (nI 0), .int (nI 0), .int (nI 1)]) ++ List.replicate (6 - (lg_sl ([.ref (h 105), .int (nI 0), .int (nI 0), .int (nI 1)])).length) Slot.unset).toArray = ls at hl ⊢
  have hl : lv_has ls 6 [(0, .ref (h 105)), (1, .int (nI 0)), (2, .int (nI 0)), (3, .int (nI 1))] := hl
  generalize hH : s.heap = H at hP ⊢
  have hS : va_S A0 s.heap H [] := by rw [← hH]; exact va_S.rf
  have hinX8 : ∀ w ∈ wsX80, w ∈ wsX8_leastWith := by decide +kernel
  refine lv_aload_n hx hb dX8_leastWith_0 rfl (lv_at hl 0 rfl) ?_
  refine xj_v (wc := (wD_60 h cs fI fL fA fQ fG fJ)) (wr := ([] : va_W)) hP hD hS hA [0, 1, 2, 3, 4, 5, 6, 7, 8, 9, 10, 11] [] rfl rfl (by decide) (by decide) (va_runV (As := []) (rest := []) ⟨hx, hb, hml, hown, hts⟩ (a_X8_workOutOffs_74 l dC dI h cs H.size fI fL fA fQ fG fJ ) (cwV 0 hts gX8_leastWith_X8_workOutOffs rfl rfl rfl (by decide +kernel) ⟨Nat.le_of_ble_eq_true rfl, Nat.le_of_ble_eq_true rfl⟩) (xpV (wc := (wD_60 h cs fI fL fA fQ fG fJ)) hP hD hK hN [0, 1, 2, 3, 4, 5, 6, 7, 8, 9, 10, 11] rfl (by decide) 0 (ci := 8) rfl rfl _) rfl rfl hl.1 rfl (lv_room (Nat.le_of_ble_eq_true rfl)) dX8_leastWith_1 ⟨Nat.zero_le _, Nat.zero_le _⟩) (fun u_1 H locs hw hP hD hS => ?_)
  obtain ⟨hf_3, rfl⟩ := hw
  have hP : va_P (dC, dI) vwCl (wD_60 h cs qI_75 fL fA fQ fG fJ) H := hP
  have hD : va_D A0 (wD_60 h cs qI_75 fL fA fQ fG fJ) := hD
  refine lv_ldc (v := 10000000) hx hb hown (hts (.constant RX8 61 (10000000)) (by decide +kernel)) dX8_leastWith_4 ?_
  refine xt_i (y := nI 10000000) (rfl) ?_
  refine lv_istore (lv' := [(4, .int (nI 10000000)), (0, .ref (h 105)), (1, .int (nI 0)), (2, .int (nI 0)), (3, .int (nI 1))]) hx hb dX8_leastWith_6 hl (by decide) rfl (fun ls hl => ?_)
  refine lv_iconst (v := nI 0) hx hb dX8_leastWith_8 (by decide) ?_
  refine lv_istore (lv' := [(5, .int (nI 0)), (4, .int (nI 10000000)), (0, .ref (h 105)), (1, .int (nI 0)), (2, .int (nI 0)), (3, .int (nI 1))]) hx hb dX8_leastWith_9 hl (by decide) rfl (fun ls hl => ?_)
  refine lv_iload hx hb dX8_leastWith_11 (lv_at hl 0 rfl) ?_
  refine lv_aload_n hx hb dX8_leastWith_13 rfl (lv_at hl 2 rfl) ?_
  refine va_get (D := (dC, dI)) (ci := 8) (v := .ref (h 101)) (C := RX8) (T := TX8) (N := 6) hx hb hts hinX8 hown hK hP 0 rfl rfl 0 (by decide) (hts (.fieldLink RX8 28 "MixedWords$Words" "mix" "LMixedWords$Mix;") (by decide +kernel)) (fun _ h9 => h9) rfl dX8_leastWith_14 ?_
  refine xj_i (wc := (wD_32 h cs qI_75 fL fA fQ fG fJ)) (wr := [(h 105, .inr (8, [.ref (h 101), .ref (h 170), .ref (h 171), .ref (h 172), .int (qI_75 173), .int (qI_75 174)])), (h 170, .inl (cs 0, 256, .inl (fA 170))), (h 171, .inl (cs 0, 256, .inl (fA 171))), (h 172, .inl (cs 0, 256, .inl (fA 172)))]) hP hD hS hA [1, 2, 3, 4, 5, 6, 7, 8] [0, 9, 10, 11] rfl rfl (by decide) (by decide) (va_runV (As := []) (rest := [.int (nI 0)]) ⟨hx, hb, hml, hown, hts⟩ (a_X3_wordCount_77 l dC dI h cs H.size qI_75 fL fA fQ fG fJ ) (cwV 0 hts gX8_leastWith_X3_wordCount rfl rfl rfl (by decide +kernel) ⟨Nat.le_of_ble_eq_true rfl, Nat.le_of_ble_eq_true rfl⟩) (xpV (wc := (wD_32 h cs qI_75 fL fA fQ fG fJ)) hP hD hK hN [1, 2, 3, 4, 5, 6, 7, 8] rfl (by decide) 1 (ci := 3) rfl rfl _) rfl rfl hl.1 rfl (lv_room (Nat.le_of_ble_eq_true rfl)) dX8_leastWith_17 ⟨Nat.zero_le _, Nat.zero_le _⟩) (fun r_5 u_4 H locs hw hP hD hS => ?_)
  obtain ⟨hf_6, rfl⟩ := hw
  have hP : va_P (dC, dI) vwCl (wD_60 h cs qI_75 fL fA fQ fG fJ) H := xP_sub hP [0, 4, 5, 6, 7, 8, 9, 10, 11, 1, 2, 3] rfl
  have hD : va_D A0 (wD_60 h cs qI_75 fL fA fQ fG fJ) := hD.sub [0, 4, 5, 6, 7, 8, 9, 10, 11, 1, 2, 3] (by decide) rfl
  obtain rfl := hf_6
  refine lv_icmp_ge (tgt := 55) hx hb dX8_leastWith_20 (by decide) (fun c9 => False.elim (by revert c9; decide +kernel)) (fun _ => ?_)
  refine lv_aload_n hx hb dX8_leastWith_23 rfl (lv_at hl 2 rfl) ?_
  refine lv_iload hx hb dX8_leastWith_24 (lv_at hl 0 rfl) ?_
  refine lv_iload_n hx hb dX8_leastWith_26 rfl (lv_at hl 3 rfl) ?_
  refine lv_iload_n hx hb dX8_leastWith_27 rfl (lv_at hl 4 rfl) ?_
  refine xj_i (wc := (wD_60 h cs qI_75 fL fA fQ fG fJ)) (wr := ([] : va_W)) hP hD hS hA [0, 1, 2, 3, 4, 5, 6, 7, 8, 9, 10, 11] [] rfl rfl (by decide) (by decide) (va_runV (As := [.int (nI 0), .int (nI 0), .int (nI 0)]) (rest := []) ⟨hx, hb, hml, hown, hts⟩ (a_X8_bitOf_91 l dC dI h cs H.size qI_75 fL fA fQ fG fJ ) (cwV 3 hts gX8_leastWith_X8_bitOf rfl rfl rfl (by decide +kernel) ⟨Nat.le_of_ble_eq_true rfl, Nat.le_of_ble_eq_true rfl⟩) (xpV (wc := (wD_60 h cs qI_75 fL fA fQ fG fJ)) hP hD hK hN [0, 1, 2, 3, 4, 5, 6, 7, 8, 9, 10, 11] rfl (by decide) 0 (ci := 8) rfl rfl _) rfl rfl hl.1 rfl (lv_room (Nat.le_of_ble_eq_true rfl)) dX8_leastWith_28 ⟨Nat.zero_le _, Nat.zero_le _⟩) (fun r_8 u_7 H locs hw hP hD hS => ?_)
  obtain ⟨hf_9, rfl⟩ := hw
  have hP : va_P (dC, dI) vwCl (wD_60 h cs qI_75 fL fA fQ fG fJ) H := hP
  have hD : va_D A0 (wD_60 h cs qI_75 fL fA fQ fG fJ) := hD
  obtain rfl := hf_9
  refine lv_iload_n hx hb dX8_leastWith_31 rfl (lv_at hl 5 rfl) ?_
  refine lv_icmp_ne (tgt := 49) hx hb dX8_leastWith_32 (by decide) (fun _ => ?_) (fun c9 => False.elim (by revert c9; decide +kernel))
  refine lv_iinc (v := nI 1) (lv' := [(5, .int (nI 1)), (4, .int (nI 10000000)), (0, .ref (h 105)), (1, .int (nI 0)), (2, .int (nI 0)), (3, .int (nI 1))]) hx hb dX8_leastWith_49 hl (k := 0) rfl (by decide +kernel) (by decide) rfl (fun ls hl => ?_)
  refine lv_goto (tgt := 11) hx hb dX8_leastWith_52 (by decide) ?_
  refine lv_iload hx hb dX8_leastWith_11 (lv_at hl 0 rfl) ?_
  refine lv_aload_n hx hb dX8_leastWith_13 rfl (lv_at hl 2 rfl) ?_
  refine va_get (D := (dC, dI)) (ci := 8) (v := .ref (h 101)) (C := RX8) (T := TX8) (N := 6) hx hb hts hinX8 hown hK hP 0 rfl rfl 0 (by decide) (hts (.fieldLink RX8 28 "MixedWords$Words" "mix" "LMixedWords$Mix;") (by decide +kernel)) (fun _ h9 => h9) rfl dX8_leastWith_14 ?_
  refine xj_i (wc := (wD_32 h cs qI_75 fL fA fQ fG fJ)) (wr := [(h 105, .inr (8, [.ref (h 101), .ref (h 170), .ref (h 171), .ref (h 172), .int (qI_75 173), .int (qI_75 174)])), (h 170, .inl (cs 0, 256, .inl (fA 170))), (h 171, .inl (cs 0, 256, .inl (fA 171))), (h 172, .inl (cs 0, 256, .inl (fA 172)))]) hP hD hS hA [1, 2, 3, 4, 5, 6, 7, 8] [0, 9, 10, 11] rfl rfl (by decide) (by decide) (va_runV (As := []) (rest := [.int (nI 1)]) ⟨hx, hb, hml, hown, hts⟩ (a_X3_wordCount_77 l dC dI h cs H.size qI_75 fL fA fQ fG fJ ) (cwV 0 hts gX8_leastWith_X3_wordCount rfl rfl rfl (by decide +kernel) ⟨Nat.le_of_ble_eq_true rfl, Nat.le_of_ble_eq_true rfl⟩) (xpV (wc := (wD_32 h cs qI_75 fL fA fQ fG fJ)) hP hD hK hN [1, 2, 3, 4, 5, 6, 7, 8] rfl (by decide) 1 (ci := 3) rfl rfl _) rfl rfl hl.1 rfl (lv_room (Nat.le_of_ble_eq_true rfl)) dX8_leastWith_17 ⟨Nat.zero_le _, Nat.zero_le _⟩) (fun r_11 u_10 H locs hw hP hD hS => ?_)
  obtain ⟨hf_12, rfl⟩ := hw
  have hP : va_P (dC, dI) vwCl (wD_60 h cs qI_75 fL fA fQ fG fJ) H := xP_sub hP [0, 4, 5, 6, 7, 8, 9, 10, 11, 1, 2, 3] rfl
  have hD : va_D A0 (wD_60 h cs qI_75 fL fA fQ fG fJ) := hD.sub [0, 4, 5, 6, 7, 8, 9, 10, 11, 1, 2, 3] (by decide) rfl
  obtain rfl := hf_12
  refine lv_icmp_ge (tgt := 55) hx hb dX8_leastWith_20 (by decide) (fun c9 => False.elim (by revert c9; decide +kernel)) (fun _ => ?_)
  refine lv_aload_n hx hb dX8_leastWith_23 rfl (lv_at hl 2 rfl) ?_
  refine lv_iload hx hb dX8_leastWith_24 (lv_at hl 0 rfl) ?_
  refine lv_iload_n hx hb dX8_leastWith_26 rfl (lv_at hl 3 rfl) ?_
  refine lv_iload_n hx hb dX8_leastWith_27 rfl (lv_at hl 4 rfl) ?_
  refine xj_i (wc := (wD_60 h cs qI_75 fL fA fQ fG fJ)) (wr := ([] : va_W)) hP hD hS hA [0, 1, 2, 3, 4, 5, 6, 7, 8, 9, 10, 11] [] rfl rfl (by decide) (by decide) (va_runV (As := [.int (nI 1), .int (nI 0), .int (nI 0)]) (rest := []) ⟨hx, hb, hml, hown, hts⟩ (a_X8_bitOf_93 l dC dI h cs H.size qI_75 fL fA fQ fG fJ ) (cwV 3 hts gX8_leastWith_X8_bitOf rfl rfl rfl (by decide +kernel) ⟨Nat.le_of_ble_eq_true rfl, Nat.le_of_ble_eq_true rfl⟩) (xpV (wc := (wD_60 h cs qI_75 fL fA fQ fG fJ)) hP hD hK hN [0, 1, 2, 3, 4, 5, 6, 7, 8, 9, 10, 11] rfl (by decide) 0 (ci := 8) rfl rfl _) rfl rfl hl.1 rfl (lv_room (Nat.le_of_ble_eq_true rfl)) dX8_leastWith_28 ⟨Nat.zero_le _, Nat.zero_le _⟩) (fun r_14 u_13 H locs hw hP hD hS => ?_)
  obtain ⟨hf_15, rfl⟩ := hw
  have hP : va_P (dC, dI) vwCl (wD_60 h cs qI_75 fL fA fQ fG fJ) H := hP
  have hD : va_D A0 (wD_60 h cs qI_75 fL fA fQ fG fJ) := hD
  obtain rfl := hf_15
  refine lv_iload_n hx hb dX8_leastWith_31 rfl (lv_at hl 5 rfl) ?_
  refine lv_icmp_ne (tgt := 49) hx hb dX8_leastWith_32 (by decide) (fun _ => ?_) (fun c9 => False.elim (by revert c9; decide +kernel))
  refine lv_iinc (v := nI 2) (lv' := [(5, .int (nI 2)), (4, .int (nI 10000000)), (0, .ref (h 105)), (1, .int (nI 0)), (2, .int (nI 0)), (3, .int (nI 1))]) hx hb dX8_leastWith_49 hl (k := 0) rfl (by decide +kernel) (by decide) rfl (fun ls hl => ?_)
  refine lv_goto (tgt := 11) hx hb dX8_leastWith_52 (by decide) ?_
  refine lv_iload hx hb dX8_leastWith_11 (lv_at hl 0 rfl) ?_
  refine lv_aload_n hx hb dX8_leastWith_13 rfl (lv_at hl 2 rfl) ?_
  refine va_get (D := (dC, dI)) (ci := 8) (v := .ref (h 101)) (C := RX8) (T := TX8) (N := 6) hx hb hts hinX8 hown hK hP 0 rfl rfl 0 (by decide) (hts (.fieldLink RX8 28 "MixedWords$Words" "mix" "LMixedWords$Mix;") (by decide +kernel)) (fun _ h9 => h9) rfl dX8_leastWith_14 ?_
  refine xj_i (wc := (wD_32 h cs qI_75 fL fA fQ fG fJ)) (wr := [(h 105, .inr (8, [.ref (h 101), .ref (h 170), .ref (h 171), .ref (h 172), .int (qI_75 173), .int (qI_75 174)])), (h 170, .inl (cs 0, 256, .inl (fA 170))), (h 171, .inl (cs 0, 256, .inl (fA 171))), (h 172, .inl (cs 0, 256, .inl (fA 172)))]) hP hD hS hA [1, 2, 3, 4, 5, 6, 7, 8] [0, 9, 10, 11] rfl rfl (by decide) (by decide) (va_runV (As := []) (rest := [.int (nI 2)]) ⟨hx, hb, hml, hown, hts⟩ (a_X3_wordCount_77 l dC dI h cs H.size qI_75 fL fA fQ fG fJ ) (cwV 0 hts gX8_leastWith_X3_wordCount rfl rfl rfl (by decide +kernel) ⟨Nat.le_of_ble_eq_true rfl, Nat.le_of_ble_eq_true rfl⟩) (xpV (wc := (wD_32 h cs qI_75 fL fA fQ fG fJ)) hP hD hK hN [1, 2, 3, 4, 5, 6, 7, 8] rfl (by decide) 1 (ci := 3) rfl rfl _) rfl rfl hl.1 rfl (lv_room (Nat.le_of_ble_eq_true rfl)) dX8_leastWith_17 ⟨Nat.zero_le _, Nat.zero_le _⟩) (fun r_17 u_16 H locs hw hP hD hS => ?_)
  obtain ⟨hf_18, rfl⟩ := hw
  have hP : va_P (dC, dI) vwCl (wD_60 h cs qI_75 fL fA fQ fG fJ) H := xP_sub hP [0, 4, 5, 6, 7, 8, 9, 10, 11, 1, 2, 3] rfl
  have hD : va_D A0 (wD_60 h cs qI_75 fL fA fQ fG fJ) := hD.sub [0, 4, 5, 6, 7, 8, 9, 10, 11, 1, 2, 3] (by decide) rfl
  obtain rfl := hf_18
  refine lv_icmp_ge (tgt := 55) hx hb dX8_leastWith_20 (by decide) (fun c9 => False.elim (by revert c9; decide +kernel)) (fun _ => ?_)
  refine lv_aload_n hx hb dX8_leastWith_23 rfl (lv_at hl 2 rfl) ?_
  refine lv_iload hx hb dX8_leastWith_24 (lv_at hl 0 rfl) ?_
  refine lv_iload_n hx hb dX8_leastWith_26 rfl (lv_at hl 3 rfl) ?_
  refine lv_iload_n hx hb dX8_leastWith_27 rfl (lv_at hl 4 rfl) ?_
  refine xj_i (wc := (wD_60 h cs qI_75 fL fA fQ fG fJ)) (wr := ([] : va_W)) hP hD hS hA [0, 1, 2, 3, 4, 5, 6, 7, 8, 9, 10, 11] [] rfl rfl (by decide) (by decide) (va_runV (As := [.int (nI 2), .int (nI 0), .int (nI 0)]) (rest := []) ⟨hx, hb, hml, hown, hts⟩ (a_X8_bitOf_95 l dC dI h cs H.size qI_75 fL fA fQ fG fJ ) (cwV 3 hts gX8_leastWith_X8_bitOf rfl rfl rfl (by decide +kernel) ⟨Nat.le_of_ble_eq_true rfl, Nat.le_of_ble_eq_true rfl⟩) (xpV (wc := (wD_60 h cs qI_75 fL fA fQ fG fJ)) hP hD hK hN [0, 1, 2, 3, 4, 5, 6, 7, 8, 9, 10, 11] rfl (by decide) 0 (ci := 8) rfl rfl _) rfl rfl hl.1 rfl (lv_room (Nat.le_of_ble_eq_true rfl)) dX8_leastWith_28 ⟨Nat.zero_le _, Nat.zero_le _⟩) (fun r_20 u_19 H locs hw hP hD hS => ?_)
  obtain ⟨hf_21, rfl⟩ := hw
  have hP : va_P (dC, dI) vwCl (wD_60 h cs qI_75 fL fA fQ fG fJ) H := hP
  have hD : va_D A0 (wD_60 h cs qI_75 fL fA fQ fG fJ) := hD
  obtain rfl := hf_21
  refine lv_iload_n hx hb dX8_leastWith_31 rfl (lv_at hl 5 rfl) ?_
  refine lv_icmp_ne (tgt := 49) hx hb dX8_leastWith_32 (by decide) (fun c9 => False.elim (by revert c9; decide +kernel)) (fun _ => ?_)
  refine lv_iload hx hb dX8_leastWith_35 (lv_at hl 1 rfl) ?_
  refine lv_aload_n hx hb dX8_leastWith_37 rfl (lv_at hl 2 rfl) ?_
  refine va_get (D := (dC, dI)) (ci := 8) (v := .ref (h 170)) (C := RX8) (T := TX8) (N := 6) hx hb hts hinX8 hown hK hP 0 rfl rfl 1 (by decide) (hts (.fieldLink RX8 9 "MixedWords$Words" "offs" "[I") (by decide +kernel)) (fun _ h9 => h9) rfl dX8_leastWith_38 ?_
  refine lv_iload hx hb dX8_leastWith_41 (lv_at hl 0 rfl) ?_
  refine xa_iald hx hb hK hP 9 0 rfl rfl (by omega) (by decide) dX8_leastWith_43 ?_
  refine xt_i (y := nI 0) (by decide +kernel) ?_
  refine va_mmin hx hb (hml.trans hl.1.symm) hown (hts (.methodLink RX8 69 Lib.Math.min.name) (by decide +kernel)) (hts (.static Lib.Math.min.name) (by decide +kernel)) (hts (.initialized "java/lang/Math") (by decide +kernel)) (hts (.code Lib.Math.min.name Lib.Math.min.code 2 (some .int)) (by decide +kernel)) (Nat.le_of_ble_eq_true rfl) (Nat.le_of_ble_eq_true rfl) (Nat.zero_le _) (Nat.zero_le _) dX8_leastWith_44 ?_
  refine xt_i (y := nI (min 10000000 0)) (min_nI (by omega) (by omega)) ?_
  refine xt_i (y := nI 0) (by decide +kernel) ?_
  refine lv_istore (lv' := [(4, .int (nI 0)), (5, .int (nI 2)), (0, .ref (h 105)), (1, .int (nI 0)), (2, .int (nI 0)), (3, .int (nI 1))]) hx hb dX8_leastWith_47 hl (by decide) rfl (fun ls hl => ?_)
  refine lv_iinc (v := nI 3) (lv' := [(5, .int (nI 3)), (4, .int (nI 0)), (0, .ref (h 105)), (1, .int (nI 0)), (2, .int (nI 0)), (3, .int (nI 1))]) hx hb dX8_leastWith_49 hl (k := 1) rfl (by decide +kernel) (by decide) rfl (fun ls hl => ?_)
  refine lv_goto (tgt := 11) hx hb dX8_leastWith_52 (by decide) ?_
  refine lv_iload hx hb dX8_leastWith_11 (lv_at hl 0 rfl) ?_
  refine lv_aload_n hx hb dX8_leastWith_13 rfl (lv_at hl 2 rfl) ?_
  refine va_get (D := (dC, dI)) (ci := 8) (v := .ref (h 101)) (C := RX8) (T := TX8) (N := 6) hx hb hts hinX8 hown hK hP 0 rfl rfl 0 (by decide) (hts (.fieldLink RX8 28 "MixedWords$Words" "mix" "LMixedWords$Mix;") (by decide +kernel)) (fun _ h9 => h9) rfl dX8_leastWith_14 ?_
  refine xj_i (wc := (wD_32 h cs qI_75 fL fA fQ fG fJ)) (wr := [(h 105, .inr (8, [.ref (h 101), .ref (h 170), .ref (h 171), .ref (h 172), .int (qI_75 173), .int (qI_75 174)])), (h 170, .inl (cs 0, 256, .inl (fA 170))), (h 171, .inl (cs 0, 256, .inl (fA 171))), (h 172, .inl (cs 0, 256, .inl (fA 172)))]) hP hD hS hA [1, 2, 3, 4, 5, 6, 7, 8] [0, 9, 10, 11] rfl rfl (by decide) (by decide) (va_runV (As := []) (rest := [.int (nI 3)]) ⟨hx, hb, hml, hown, hts⟩ (a_X3_wordCount_77 l dC dI h cs H.size qI_75 fL fA fQ fG fJ ) (cwV 0 hts gX8_leastWith_X3_wordCount rfl rfl rfl (by decide +kernel) ⟨Nat.le_of_ble_eq_true rfl, Nat.le_of_ble_eq_true rfl⟩) (xpV (wc := (wD_32 h cs qI_75 fL fA fQ fG fJ)) hP hD hK hN [1, 2, 3, 4, 5, 6, 7, 8] rfl (by decide) 1 (ci := 3) rfl rfl _) rfl rfl hl.1 rfl (lv_room (Nat.le_of_ble_eq_true rfl)) dX8_leastWith_17 ⟨Nat.zero_le _, Nat.zero_le _⟩) (fun r_23 u_22 H locs hw hP hD hS => ?_)
  obtain ⟨hf_24, rfl⟩ := hw
  have hP : va_P (dC, dI) vwCl (wD_60 h cs qI_75 fL fA fQ fG fJ) H := xP_sub hP [0, 4, 5, 6, 7, 8, 9, 10, 11, 1, 2, 3] rfl
  have hD : va_D A0 (wD_60 h cs qI_75 fL fA fQ fG fJ) := hD.sub [0, 4, 5, 6, 7, 8, 9, 10, 11, 1, 2, 3] (by decide) rfl
  obtain rfl := hf_24
  refine lv_icmp_ge (tgt := 55) hx hb dX8_leastWith_20 (by decide) (fun c9 => False.elim (by revert c9; decide +kernel)) (fun _ => ?_)
  refine lv_aload_n hx hb dX8_leastWith_23 rfl (lv_at hl 2 rfl) ?_
  refine lv_iload hx hb dX8_leastWith_24 (lv_at hl 0 rfl) ?_
  refine lv_iload_n hx hb dX8_leastWith_26 rfl (lv_at hl 3 rfl) ?_
  refine lv_iload_n hx hb dX8_leastWith_27 rfl (lv_at hl 4 rfl) ?_
  refine xj_i (wc := (wD_60 h cs qI_75 fL fA fQ fG fJ)) (wr := ([] : va_W)) hP hD hS hA [0, 1, 2, 3, 4, 5, 6, 7, 8, 9, 10, 11] [] rfl rfl (by decide) (by decide) (va_runV (As := [.int (nI 3), .int (nI 0), .int (nI 0)]) (rest := []) ⟨hx, hb, hml, hown, hts⟩ (a_X8_bitOf_97 l dC dI h cs H.size qI_75 fL fA fQ fG fJ ) (cwV 3 hts gX8_leastWith_X8_bitOf rfl rfl rfl (by decide +kernel) ⟨Nat.le_of_ble_eq_true rfl, Nat.le_of_ble_eq_true rfl⟩) (xpV (wc := (wD_60 h cs qI_75 fL fA fQ fG fJ)) hP hD hK hN [0, 1, 2, 3, 4, 5, 6, 7, 8, 9, 10, 11] rfl (by decide) 0 (ci := 8) rfl rfl _) rfl rfl hl.1 rfl (lv_room (Nat.le_of_ble_eq_true rfl)) dX8_leastWith_28 ⟨Nat.zero_le _, Nat.zero_le _⟩) (fun r_26 u_25 H locs hw hP hD hS => ?_)
  obtain ⟨hf_27, rfl⟩ := hw
  have hP : va_P (dC, dI) vwCl (wD_60 h cs qI_75 fL fA fQ fG fJ) H := hP
  have hD : va_D A0 (wD_60 h cs qI_75 fL fA fQ fG fJ) := hD
  obtain rfl := hf_27
  refine lv_iload_n hx hb dX8_leastWith_31 rfl (lv_at hl 5 rfl) ?_
  refine lv_icmp_ne (tgt := 49) hx hb dX8_leastWith_32 (by decide) (fun c9 => False.elim (by revert c9; decide +kernel)) (fun _ => ?_)
  refine lv_iload hx hb dX8_leastWith_35 (lv_at hl 1 rfl) ?_
  refine lv_aload_n hx hb dX8_leastWith_37 rfl (lv_at hl 2 rfl) ?_
  refine va_get (D := (dC, dI)) (ci := 8) (v := .ref (h 170)) (C := RX8) (T := TX8) (N := 6) hx hb hts hinX8 hown hK hP 0 rfl rfl 1 (by decide) (hts (.fieldLink RX8 9 "MixedWords$Words" "offs" "[I") (by decide +kernel)) (fun _ h9 => h9) rfl dX8_leastWith_38 ?_
  refine lv_iload hx hb dX8_leastWith_41 (lv_at hl 0 rfl) ?_
  refine xa_iald hx hb hK hP 9 0 rfl rfl (by omega) (by decide) dX8_leastWith_43 ?_
  refine xt_i (y := nI 0) (by decide +kernel) ?_
  refine va_mmin hx hb (hml.trans hl.1.symm) hown (hts (.methodLink RX8 69 Lib.Math.min.name) (by decide +kernel)) (hts (.static Lib.Math.min.name) (by decide +kernel)) (hts (.initialized "java/lang/Math") (by decide +kernel)) (hts (.code Lib.Math.min.name Lib.Math.min.code 2 (some .int)) (by decide +kernel)) (Nat.le_of_ble_eq_true rfl) (Nat.le_of_ble_eq_true rfl) (Nat.zero_le _) (Nat.zero_le _) dX8_leastWith_44 ?_
  refine xt_i (y := nI (min 0 0)) (min_nI (by omega) (by omega)) ?_
  refine xt_i (y := nI 0) (by decide +kernel) ?_
  refine lv_istore (lv' := [(4, .int (nI 0)), (5, .int (nI 3)), (0, .ref (h 105)), (1, .int (nI 0)), (2, .int (nI 0)), (3, .int (nI 1))]) hx hb dX8_leastWith_47 hl (by decide) rfl (fun ls hl => ?_)
  refine lv_iinc (v := nI 4) (lv' := [(5, .int (nI 4)), (4, .int (nI 0)), (0, .ref (h 105)), (1, .int (nI 0)), (2, .int (nI 0)), (3, .int (nI 1))]) hx hb dX8_leastWith_49 hl (k := 1) rfl (by decide +kernel) (by decide) rfl (fun ls hl => ?_)
  refine lv_goto (tgt := 11) hx hb dX8_leastWith_52 (by decide) ?_
  refine lv_iload hx hb dX8_leastWith_11 (lv_at hl 0 rfl) ?_
  refine lv_aload_n hx hb dX8_leastWith_13 rfl (lv_at hl 2 rfl) ?_
  refine va_get (D := (dC, dI)) (ci := 8) (v := .ref (h 101)) (C := RX8) (T := TX8) (N := 6) hx hb hts hinX8 hown hK hP 0 rfl rfl 0 (by decide) (hts (.fieldLink RX8 28 "MixedWords$Words" "mix" "LMixedWords$Mix;") (by decide +kernel)) (fun _ h9 => h9) rfl dX8_leastWith_14 ?_
  refine xj_i (wc := (wD_32 h cs qI_75 fL fA fQ fG fJ)) (wr := [(h 105, .inr (8, [.ref (h 101), .ref (h 170), .ref (h 171), .ref (h 172), .int (qI_75 173), .int (qI_75 174)])), (h 170, .inl (cs 0, 256, .inl (fA 170))), (h 171, .inl (cs 0, 256, .inl (fA 171))), (h 172, .inl (cs 0, 256, .inl (fA 172)))]) hP hD hS hA [1, 2, 3, 4, 5, 6, 7, 8] [0, 9, 10, 11] rfl rfl (by decide) (by decide) (va_runV (As := []) (rest := [.int (nI 4)]) ⟨hx, hb, hml, hown, hts⟩ (a_X3_wordCount_77 l dC dI h cs H.size qI_75 fL fA fQ fG fJ ) (cwV 0 hts gX8_leastWith_X3_wordCount rfl rfl rfl (by decide +kernel) ⟨Nat.le_of_ble_eq_true rfl, Nat.le_of_ble_eq_true rfl⟩) (xpV (wc := (wD_32 h cs qI_75 fL fA fQ fG fJ)) hP hD hK hN [1, 2, 3, 4, 5, 6, 7, 8] rfl (by decide) 1 (ci := 3) rfl rfl _) rfl rfl hl.1 rfl (lv_room (Nat.le_of_ble_eq_true rfl)) dX8_leastWith_17 ⟨Nat.zero_le _, Nat.zero_le _⟩) (fun r_29 u_28 H locs hw hP hD hS => ?_)
  obtain ⟨hf_30, rfl⟩ := hw
  have hP : va_P (dC, dI) vwCl (wD_60 h cs qI_75 fL fA fQ fG fJ) H := xP_sub hP [0, 4, 5, 6, 7, 8, 9, 10, 11, 1, 2, 3] rfl
  have hD : va_D A0 (wD_60 h cs qI_75 fL fA fQ fG fJ) := hD.sub [0, 4, 5, 6, 7, 8, 9, 10, 11, 1, 2, 3] (by decide) rfl
  obtain rfl := hf_30
  refine lv_icmp_ge (tgt := 55) hx hb dX8_leastWith_20 (by decide) (fun _ => ?_) (fun c9 => False.elim (by revert c9; decide +kernel))
  refine lv_iload hx hb dX8_leastWith_55 (lv_at hl 1 rfl) ?_
  exact xr_i (v := (nI 0)) hx hb hr hlocks hK hS dX8_leastWith_57 (qI_75, fL, fA, fQ, fG, fJ) ⟨rfl, rfl⟩ hP hD
set_option maxHeartbeats 4000000 in
set_option maxRecDepth 100000 in
theorem a_X8_workOutOffs_100 (l : Launch) (dC : Nat → ClassId) (dI : Nat → Nat → Nat) (h : Nat → Nat) (cs : Nat → ClassId) (sz : Nat) (I : Nat → Int32) (L : Nat → Int64) (A : Nat → Nat → Int32) (Q : Nat → Nat → Int64) (G : Nat → Nat → Nat → Int32) (J : Nat → Nat → Nat → Int64) : Met l yX8_workOutOffs wsX8_workOutOffs ({ frames := 3, cells := 0, slots := 0, locals := 67 }) (va_Pc [.ref (h 105)] (xPre (dC, dI) (wD_60 h cs qI_75 fL fA fQ fG fJ) (tysA cs) sz)) (va_Qv (fun (u : CS) => (True) ∧ u = (qI_75, fL, fA, fQ, fG, fJ)) (xB (dC, dI) (tysA cs) (va_A (wD_60 h cs qI_75 fL fA fQ fG fJ) sz) (fun u : CS => wD_60 h cs u.1 u.2.1 u.2.2.1 u.2.2.2.1 u.2.2.2.2.1 u.2.2.2.2.2)) (va_A (wD_60 h cs qI_75 fL fA fQ fG fJ) sz)) 0 0 (va_A (wD_60 h cs qI_75 fL fA fQ fG fJ) sz) := by
  refine Met.ofW (cc := cX8_workOutOffs) (maxL := 2) (ret := none) (by decide) rfl ?_
  intro p e s m args below meth c s₁ B hml hv
  obtain ⟨rfl, hsz, hP, hK, hD0, hN⟩ := hv
  have hx := B.exec
  have hb := B.bytes
  have hr := B.returns
  have hts := atoms_spec (ws := wsX8_workOutOffs) B.pre
  have hown : s.vm.findClass RX8 = some m.cls := findClass_of_methodNamed B.named
  have hlocks := B.notSynchronized
  subst hsz
  have hD := hD0.self (sz := s.heap.size)
  generalize hAe : va_A (wD_60 h cs qI_75 fL fA fQ fG fJ) s.heap.size = A0 at hD ⊢
  have hA : ∀ q : Nat, s.heap.size ≤ q → A0 q := fun q h => by rw [← hAe]; exact Or.inr h
  have hl := lv_entry ([.ref (h 105)]) (n := 2) (Nat.le_of_ble_eq_true rfl)
  rw [lg_entry_eq]
  generalize (lg_sl ([.ref (h 105)]) ++ List.replicate (2 - (lg_sl ([.ref (h 105)])).length) Slot.unset).toArray = ls at hl ⊢
  have hl : lv_has ls 2 [(0, .ref (h 105))] := hl
  generalize hH : s.heap = H at hP ⊢
  have hS : va_S A0 s.heap H [] := by rw [← hH]; exact va_S.rf
  have hinX8 : ∀ w ∈ wsX80, w ∈ wsX8_workOutOffs := by decide +kernel
  have hinX3 : ∀ w ∈ wsX30, w ∈ wsX8_workOutOffs := by decide +kernel
  refine lv_aload_n hx hb dX8_workOutOffs_0 rfl (lv_at hl 0 rfl) ?_
  refine va_get (D := (dC, dI)) (ci := 8) (v := .int (qI_75 173)) (C := RX8) (T := TX8) (N := 6) hx hb hts hinX8 hown hK hP 0 rfl rfl 4 (by decide) (hts (.fieldLink RX8 21 "MixedWords$Words" "offsStamp" "I") (by decide +kernel)) (fun _ h9 => h9) rfl dX8_workOutOffs_1 ?_
  refine xt_i (y := nI 1) (by decide +kernel) ?_
  refine lv_aload_n hx hb dX8_workOutOffs_4 rfl (lv_at hl 0 rfl) ?_
  refine va_get (D := (dC, dI)) (ci := 8) (v := .ref (h 101)) (C := RX8) (T := TX8) (N := 6) hx hb hts hinX8 hown hK hP 0 rfl rfl 0 (by decide) (hts (.fieldLink RX8 28 "MixedWords$Words" "mix" "LMixedWords$Mix;") (by decide +kernel)) (fun _ h9 => h9) rfl dX8_workOutOffs_5 ?_
  refine va_get (D := (dC, dI)) (ci := 3) (v := .int (qI_75 123)) (C := RX3) (T := TX3) (N := 6) hx hb hts hinX3 hown hK hP 1 rfl rfl 3 (by decide) (hts (.fieldLink RX8 77 "MixedWords$Mix" "stamp" "I") (by decide +kernel)) (fun _ h9 => h9) rfl dX8_workOutOffs_8 ?_
  refine xt_i (y := nI 1) (by decide +kernel) ?_
  refine lv_icmp_ne (tgt := 15) hx hb dX8_workOutOffs_11 (by decide) (fun c9 => False.elim (by revert c9; decide +kernel)) (fun _ => ?_)
  exact xr_v hx hb hr hlocks hK hS dX8_workOutOffs_14 (qI_75, fL, fA, fQ, fG, fJ) ⟨trivial, rfl⟩ hP hD
set_option maxHeartbeats 4000000 in
set_option maxRecDepth 100000 in
theorem a_X8_leastWith_99 (l : Launch) (dC : Nat → ClassId) (dI : Nat → Nat → Nat) (h : Nat → Nat) (cs : Nat → ClassId) (sz : Nat) (I : Nat → Int32) (L : Nat → Int64) (A : Nat → Nat → Int32) (Q : Nat → Nat → Int64) (G : Nat → Nat → Nat → Int32) (J : Nat → Nat → Nat → Int64) : Met l yX8_leastWith wsX8_leastWith ({ frames := 4, cells := 0, slots := 0, locals := 88 }) (va_Pc [.ref (h 105), .int (nI 0), .int (nI 0), .int (nI 0)] (xPre (dC, dI) (wD_60 h cs qI_75 fL fA fQ fG fJ) (tysA cs) sz)) (va_Qi (fun (r : Int32) (u : CS) => (r = nI 0) ∧ u = (qI_75, fL, fA, fQ, fG, fJ)) (xB (dC, dI) (tysA cs) (va_A (wD_60 h cs qI_75 fL fA fQ fG fJ) sz) (fun u : CS => wD_60 h cs u.1 u.2.1 u.2.2.1 u.2.2.2.1 u.2.2.2.2.1 u.2.2.2.2.2)) (va_A (wD_60 h cs qI_75 fL fA fQ fG fJ) sz)) 0 0 (va_A (wD_60 h cs qI_75 fL fA fQ fG fJ) sz) := by
  refine Met.ofW (cc := cX8_leastWith) (maxL := 6) (ret := (some .int)) (by decide) rfl ?_
  intro p e s m args below meth c s₁ B hml hv
  obtain ⟨rfl, hsz, hP, hK, hD0, hN⟩ := hv
  have hx := B.exec
  have hb := B.bytes
  have hr := B.returns
  have hts := atoms_spec (ws := wsX8_leastWith) B.pre
  have hown : s.vm.findClass RX8 = some m.cls := findClass_of_methodNamed B.named
  have hlocks := B.notSynchronized
  subst hsz
  have hD := hD0.self (sz := s.heap.size)
  generalize hAe : va_A (wD_60 h cs qI_75 fL fA fQ fG fJ) s.heap.size = A0 at hD ⊢
  have hA : ∀ q : Nat, s.heap.size ≤ q → A0 q := fun q h => by rw [← hAe]; exact Or.inr h
  have hl := lv_entry ([.ref (h 105), .int (nI 0), .int (nI 0), .int (nI 0)]) (n := 6) (Nat.le_of_ble_eq_true rfl)
  rw [lg_entry_eq]
  generalize (lg_sl ([.ref (h 105), .int (nI 0), .int (nI 0), .int (nI 0)]) ++ List.replicate (6 - (lg_sl ([.ref (h 105), .int (nI 0), .int (nI 0), .int (nI 0)])).length) Slot.unset).toArray = ls at hl ⊢
  have hl : lv_has ls 6 [(0, .ref (h 105)), (1, .int (nI 0)), (2, .int (nI 0)), (3, .int (nI 0))] := hl
  generalize hH : s.heap = H at hP ⊢
  have hS : va_S A0 s.heap H [] := by rw [← hH]; exact va_S.rf
  have hinX8 : ∀ w ∈ wsX80, w ∈ wsX8_leastWith := by decide +kernel
  refine lv_aload_n hx hb dX8_leastWith_0 rfl (lv_at hl 0 rfl) ?_
  refine xj_v (wc := (wD_60 h cs qI_75 fL fA fQ fG fJ)) (wr := ([] : va_W)) hP hD hS hA [0, 1, 2, 3, 4, 5, 6, 7, 8, 9, 10, 11] [] rfl rfl (by decide) (by decide) (va_runV (As := []) (rest := []) ⟨hx, hb, hml, hown, hts⟩ (a_X8_workOutOffs_100 l dC dI h cs H.size qI_75 fL fA fQ fG fJ ) (cwV 0 hts gX8_leastWith_X8_workOutOffs rfl rfl rfl (by decide +kernel) ⟨Nat.le_of_ble_eq_true rfl, Nat.le_of_ble_eq_true rfl⟩) (xpV (wc := (wD_60 h cs qI_75 fL fA fQ fG fJ)) hP hD hK hN [0, 1, 2, 3, 4, 5, 6, 7, 8, 9, 10, 11] rfl (by decide) 0 (ci := 8) rfl rfl _) rfl rfl hl.1 rfl (lv_room (Nat.le_of_ble_eq_true rfl)) dX8_leastWith_1 ⟨Nat.zero_le _, Nat.zero_le _⟩) (fun u_1 H locs hw hP hD hS => ?_)
  obtain ⟨hf_3, rfl⟩ := hw
  have hP : va_P (dC, dI) vwCl (wD_60 h cs qI_75 fL fA fQ fG fJ) H := hP
  have hD : va_D A0 (wD_60 h cs qI_75 fL fA fQ fG fJ) := hD
  refine lv_ldc (v := 10000000) hx hb hown (hts (.constant RX8 61 (10000000)) (by decide +kernel)) dX8_leastWith_4 ?_
  refine xt_i (y := nI 10000000) (rfl) ?_
  refine lv_istore (lv' := [(4, .int (nI 10000000)), (0, .ref (h 105)), (1, .int (nI 0)), (2, .int (nI 0)), (3, .int (nI 0))]) hx hb dX8_leastWith_6 hl (by decide) rfl (fun ls hl => ?_)
  refine lv_iconst (v := nI 0) hx hb dX8_leastWith_8 (by decide) ?_
  refine lv_istore (lv' := [(5, .int (nI 0)), (4, .int (nI 10000000)), (0, .ref (h 105)), (1, .int (nI 0)), (2, .int (nI 0)), (3, .int (nI 0))]) hx hb dX8_leastWith_9 hl (by decide) rfl (fun ls hl => ?_)
  refine lv_iload hx hb dX8_leastWith_11 (lv_at hl 0 rfl) ?_
  refine lv_aload_n hx hb dX8_leastWith_13 rfl (lv_at hl 2 rfl) ?_
  refine va_get (D := (dC, dI)) (ci := 8) (v := .ref (h 101)) (C := RX8) (T := TX8) (N := 6) hx hb hts hinX8 hown hK hP 0 rfl rfl 0 (by decide) (hts (.fieldLink RX8 28 "MixedWords$Words" "mix" "LMixedWords$Mix;") (by decide +kernel)) (fun _ h9 => h9) rfl dX8_leastWith_14 ?_
  refine xj_i (wc := (wD_32 h cs qI_75 fL fA fQ fG fJ)) (wr := [(h 105, .inr (8, [.ref (h 101), .ref (h 170), .ref (h 171), .ref (h 172), .int (qI_75 173), .int (qI_75 174)])), (h 170, .inl (cs 0, 256, .inl (fA 170))), (h 171, .inl (cs 0, 256, .inl (fA 171))), (h 172, .inl (cs 0, 256, .inl (fA 172)))]) hP hD hS hA [1, 2, 3, 4, 5, 6, 7, 8] [0, 9, 10, 11] rfl rfl (by decide) (by decide) (va_runV (As := []) (rest := [.int (nI 0)]) ⟨hx, hb, hml, hown, hts⟩ (a_X3_wordCount_77 l dC dI h cs H.size qI_75 fL fA fQ fG fJ ) (cwV 0 hts gX8_leastWith_X3_wordCount rfl rfl rfl (by decide +kernel) ⟨Nat.le_of_ble_eq_true rfl, Nat.le_of_ble_eq_true rfl⟩) (xpV (wc := (wD_32 h cs qI_75 fL fA fQ fG fJ)) hP hD hK hN [1, 2, 3, 4, 5, 6, 7, 8] rfl (by decide) 1 (ci := 3) rfl rfl _) rfl rfl hl.1 rfl (lv_room (Nat.le_of_ble_eq_true rfl)) dX8_leastWith_17 ⟨Nat.zero_le _, Nat.zero_le _⟩) (fun r_5 u_4 H locs hw hP hD hS => ?_)
  obtain ⟨hf_6, rfl⟩ := hw
  have hP : va_P (dC, dI) vwCl (wD_60 h cs qI_75 fL fA fQ fG fJ) H := xP_sub hP [0, 4, 5, 6, 7, 8, 9, 10, 11, 1, 2, 3] rfl
  have hD : va_D A0 (wD_60 h cs qI_75 fL fA fQ fG fJ) := hD.sub [0, 4, 5, 6, 7, 8, 9, 10, 11, 1, 2, 3] (by decide) rfl
  obtain rfl := hf_6
  refine lv_icmp_ge (tgt := 55) hx hb dX8_leastWith_20 (by decide) (fun c9 => False.elim (by revert c9; decide +kernel)) (fun _ => ?_)
  refine lv_aload_n hx hb dX8_leastWith_23 rfl (lv_at hl 2 rfl) ?_
  refine lv_iload hx hb dX8_leastWith_24 (lv_at hl 0 rfl) ?_
  refine lv_iload_n hx hb dX8_leastWith_26 rfl (lv_at hl 3 rfl) ?_
  refine lv_iload_n hx hb dX8_leastWith_27 rfl (lv_at hl 4 rfl) ?_
  refine xj_i (wc := (wD_60 h cs qI_75 fL fA fQ fG fJ)) (wr := ([] : va_W)) hP hD hS hA [0, 1, 2, 3, 4, 5, 6, 7, 8, 9, 10, 11] [] rfl rfl (by decide) (by decide) (va_runV (As := [.int (nI 0), .int (nI 0), .int (nI 0)]) (rest := []) ⟨hx, hb, hml, hown, hts⟩ (a_X8_bitOf_91 l dC dI h cs H.size qI_75 fL fA fQ fG fJ ) (cwV 3 hts gX8_leastWith_X8_bitOf rfl rfl rfl (by decide +kernel) ⟨Nat.le_of_ble_eq_true rfl, Nat.le_of_ble_eq_true rfl⟩) (xpV (wc := (wD_60 h cs qI_75 fL fA fQ fG fJ)) hP hD hK hN [0, 1, 2, 3, 4, 5, 6, 7, 8, 9, 10, 11] rfl (by decide) 0 (ci := 8) rfl rfl _) rfl rfl hl.1 rfl (lv_room (Nat.le_of_ble_eq_true rfl)) dX8_leastWith_28 ⟨Nat.zero_le _, Nat.zero_le _⟩) (fun r_8 u_7 H locs hw hP hD hS => ?_)
  obtain ⟨hf_9, rfl⟩ := hw
  have hP : va_P (dC, dI) vwCl (wD_60 h cs qI_75 fL fA fQ fG fJ) H := hP
  have hD : va_D A0 (wD_60 h cs qI_75 fL fA fQ fG fJ) := hD
  obtain rfl := hf_9
  refine lv_iload_n hx hb dX8_leastWith_31 rfl (lv_at hl 5 rfl) ?_
  refine lv_icmp_ne (tgt := 49) hx hb dX8_leastWith_32 (by decide) (fun c9 => False.elim (by revert c9; decide +kernel)) (fun _ => ?_)
  refine lv_iload hx hb dX8_leastWith_35 (lv_at hl 1 rfl) ?_
  refine lv_aload_n hx hb dX8_leastWith_37 rfl (lv_at hl 2 rfl) ?_
  refine va_get (D := (dC, dI)) (ci := 8) (v := .ref (h 170)) (C := RX8) (T := TX8) (N := 6) hx hb hts hinX8 hown hK hP 0 rfl rfl 1 (by decide) (hts (.fieldLink RX8 9 "MixedWords$Words" "offs" "[I") (by decide +kernel)) (fun _ h9 => h9) rfl dX8_leastWith_38 ?_
  refine lv_iload hx hb dX8_leastWith_41 (lv_at hl 0 rfl) ?_
  refine xa_iald hx hb hK hP 9 0 rfl rfl (by omega) (by decide) dX8_leastWith_43 ?_
  refine xt_i (y := nI 0) (by decide +kernel) ?_
  refine va_mmin hx hb (hml.trans hl.1.symm) hown (hts (.methodLink RX8 69 Lib.Math.min.name) (by decide +kernel)) (hts (.static Lib.Math.min.name) (by decide +kernel)) (hts (.initialized "java/lang/Math") (by decide +kernel)) (hts (.code Lib.Math.min.name Lib.Math.min.code 2 (some .int)) (by decide +kernel)) (Nat.le_of_ble_eq_true rfl) (Nat.le_of_ble_eq_true rfl) (Nat.zero_le _) (Nat.zero_le _) dX8_leastWith_44 ?_
  refine xt_i (y := nI (min 10000000 0)) (min_nI (by omega) (by omega)) ?_
  refine xt_i (y := nI 0) (by decide +kernel) ?_
  refine lv_istore (lv' := [(4, .int (nI 0)), (5, .int (nI 0)), (0, .ref (h 105)), (1, .int (nI 0)), (2, .int (nI 0)), (3, .int (nI 0))]) hx hb dX8_leastWith_47 hl (by decide) rfl (fun ls hl => ?_)
  refine lv_iinc (v := nI 1) (lv' := [(5, .int (nI 1)), (4, .int (nI 0)), (0, .ref (h 105)), (1, .int (nI 0)), (2, .int (nI 0)), (3, .int (nI 0))]) hx hb dX8_leastWith_49 hl (k := 1) rfl (by decide +kernel) (by decide) rfl (fun ls hl => ?_)
  refine lv_goto (tgt := 11) hx hb dX8_leastWith_52 (by decide) ?_
  refine lv_iload hx hb dX8_leastWith_11 (lv_at hl 0 rfl) ?_
  refine lv_aload_n hx hb dX8_leastWith_13 rfl (lv_at hl 2 rfl) ?_
  refine va_get (D := (dC, dI)) (ci := 8) (v := .ref (h 101)) (C := RX8) (T := TX8) (N := 6) hx hb hts hinX8 hown hK hP 0 rfl rfl 0 (by decide) (hts (.fieldLink RX8 28 "MixedWords$Words" "mix" "LMixedWords$Mix;") (by decide +kernel)) (fun _ h9 => h9) rfl dX8_leastWith_14 ?_
  refine xj_i (wc := (wD_32 h cs qI_75 fL fA fQ fG fJ)) (wr := [(h 105, .inr (8, [.ref (h 101), .ref (h 170), .ref (h 171), .ref (h 172), .int (qI_75 173), .int (qI_75 174)])), (h 170, .inl (cs 0, 256, .inl (fA 170))), (h 171, .inl (cs 0, 256, .inl (fA 171))), (h 172, .inl (cs 0, 256, .inl (fA 172)))]) hP hD hS hA [1, 2, 3, 4, 5, 6, 7, 8] [0, 9, 10, 11] rfl rfl (by decide) (by decide) (va_runV (As := []) (rest := [.int (nI 1)]) ⟨hx, hb, hml, hown, hts⟩ (a_X3_wordCount_77 l dC dI h cs H.size qI_75 fL fA fQ fG fJ ) (cwV 0 hts gX8_leastWith_X3_wordCount rfl rfl rfl (by decide +kernel) ⟨Nat.le_of_ble_eq_true rfl, Nat.le_of_ble_eq_true rfl⟩) (xpV (wc := (wD_32 h cs qI_75 fL fA fQ fG fJ)) hP hD hK hN [1, 2, 3, 4, 5, 6, 7, 8] rfl (by decide) 1 (ci := 3) rfl rfl _) rfl rfl hl.1 rfl (lv_room (Nat.le_of_ble_eq_true rfl)) dX8_leastWith_17 ⟨Nat.zero_le _, Nat.zero_le _⟩) (fun r_11 u_10 H locs hw hP hD hS => ?_)
  obtain ⟨hf_12, rfl⟩ := hw
  have hP : va_P (dC, dI) vwCl (wD_60 h cs qI_75 fL fA fQ fG fJ) H := xP_sub hP [0, 4, 5, 6, 7, 8, 9, 10, 11, 1, 2, 3] rfl
  have hD : va_D A0 (wD_60 h cs qI_75 fL fA fQ fG fJ) := hD.sub [0, 4, 5, 6, 7, 8, 9, 10, 11, 1, 2, 3] (by decide) rfl
  obtain rfl := hf_12
  refine lv_icmp_ge (tgt := 55) hx hb dX8_leastWith_20 (by decide) (fun c9 => False.elim (by revert c9; decide +kernel)) (fun _ => ?_)
  refine lv_aload_n hx hb dX8_leastWith_23 rfl (lv_at hl 2 rfl) ?_
  refine lv_iload hx hb dX8_leastWith_24 (lv_at hl 0 rfl) ?_
  refine lv_iload_n hx hb dX8_leastWith_26 rfl (lv_at hl 3 rfl) ?_
  refine lv_iload_n hx hb dX8_leastWith_27 rfl (lv_at hl 4 rfl) ?_
  refine xj_i (wc := (wD_60 h cs qI_75 fL fA fQ fG fJ)) (wr := ([] : va_W)) hP hD hS hA [0, 1, 2, 3, 4, 5, 6, 7, 8, 9, 10, 11] [] rfl rfl (by decide) (by decide) (va_runV (As := [.int (nI 1), .int (nI 0), .int (nI 0)]) (rest := []) ⟨hx, hb, hml, hown, hts⟩ (a_X8_bitOf_93 l dC dI h cs H.size qI_75 fL fA fQ fG fJ ) (cwV 3 hts gX8_leastWith_X8_bitOf rfl rfl rfl (by decide +kernel) ⟨Nat.le_of_ble_eq_true rfl, Nat.le_of_ble_eq_true rfl⟩) (xpV (wc := (wD_60 h cs qI_75 fL fA fQ fG fJ)) hP hD hK hN [0, 1, 2, 3, 4, 5, 6, 7, 8, 9, 10, 11] rfl (by decide) 0 (ci := 8) rfl rfl _) rfl rfl hl.1 rfl (lv_room (Nat.le_of_ble_eq_true rfl)) dX8_leastWith_28 ⟨Nat.zero_le _, Nat.zero_le _⟩) (fun r_14 u_13 H locs hw hP hD hS => ?_)
  obtain ⟨hf_15, rfl⟩ := hw
  have hP : va_P (dC, dI) vwCl (wD_60 h cs qI_75 fL fA fQ fG fJ) H := hP
  have hD : va_D A0 (wD_60 h cs qI_75 fL fA fQ fG fJ) := hD
  obtain rfl := hf_15
  refine lv_iload_n hx hb dX8_leastWith_31 rfl (lv_at hl 5 rfl) ?_
  refine lv_icmp_ne (tgt := 49) hx hb dX8_leastWith_32 (by decide) (fun c9 => False.elim (by revert c9; decide +kernel)) (fun _ => ?_)
  refine lv_iload hx hb dX8_leastWith_35 (lv_at hl 1 rfl) ?_
  refine lv_aload_n hx hb dX8_leastWith_37 rfl (lv_at hl 2 rfl) ?_
  refine va_get (D := (dC, dI)) (ci := 8) (v := .ref (h 170)) (C := RX8) (T := TX8) (N := 6) hx hb hts hinX8 hown hK hP 0 rfl rfl 1 (by decide) (hts (.fieldLink RX8 9 "MixedWords$Words" "offs" "[I") (by decide +kernel)) (fun _ h9 => h9) rfl dX8_leastWith_38 ?_
  refine lv_iload hx hb dX8_leastWith_41 (lv_at hl 0 rfl) ?_
  refine xa_iald hx hb hK hP 9 0 rfl rfl (by omega) (by decide) dX8_leastWith_43 ?_
  refine xt_i (y := nI 0) (by decide +kernel) ?_
  refine va_mmin hx hb (hml.trans hl.1.symm) hown (hts (.methodLink RX8 69 Lib.Math.min.name) (by decide +kernel)) (hts (.static Lib.Math.min.name) (by decide +kernel)) (hts (.initialized "java/lang/Math") (by decide +kernel)) (hts (.code Lib.Math.min.name Lib.Math.min.code 2 (some .int)) (by decide +kernel)) (Nat.le_of_ble_eq_true rfl) (Nat.le_of_ble_eq_true rfl) (Nat.zero_le _) (Nat.zero_le _) dX8_leastWith_44 ?_
  refine xt_i (y := nI (min 0 0)) (min_nI (by omega) (by omega)) ?_
  refine xt_i (y := nI 0) (by decide +kernel) ?_
  refine lv_istore (lv' := [(4, .int (nI 0)), (5, .int (nI 1)), (0, .ref (h 105)), (1, .int (nI 0)), (2, .int (nI 0)), (3, .int (nI 0))]) hx hb dX8_leastWith_47 hl (by decide) rfl (fun ls hl => ?_)
  refine lv_iinc (v := nI 2) (lv' := [(5, .int (nI 2)), (4, .int (nI 0)), (0, .ref (h 105)), (1, .int (nI 0)), (2, .int (nI 0)), (3, .int (nI 0))]) hx hb dX8_leastWith_49 hl (k := 1) rfl (by decide +kernel) (by decide) rfl (fun ls hl => ?_)
  refine lv_goto (tgt := 11) hx hb dX8_leastWith_52 (by decide) ?_
  refine lv_iload hx hb dX8_leastWith_11 (lv_at hl 0 rfl) ?_
  refine lv_aload_n hx hb dX8_leastWith_13 rfl (lv_at hl 2 rfl) ?_
  refine va_get (D := (dC, dI)) (ci := 8) (v := .ref (h 101)) (C := RX8) (T := TX8) (N := 6) hx hb hts hinX8 hown hK hP 0 rfl rfl 0 (by decide) (hts (.fieldLink RX8 28 "MixedWords$Words" "mix" "LMixedWords$Mix;") (by decide +kernel)) (fun _ h9 => h9) rfl dX8_leastWith_14 ?_
  refine xj_i (wc := (wD_32 h cs qI_75 fL fA fQ fG fJ)) (wr := [(h 105, .inr (8, [.ref (h 101), .ref (h 170), .ref (h 171), .ref (h 172), .int (qI_75 173), .int (qI_75 174)])), (h 170, .inl (cs 0, 256, .inl (fA 170))), (h 171, .inl (cs 0, 256, .inl (fA 171))), (h 172, .inl (cs 0, 256, .inl (fA 172)))]) hP hD hS hA [1, 2, 3, 4, 5, 6, 7, 8] [0, 9, 10, 11] rfl rfl (by decide) (by decide) (va_runV (As := []) (rest := [.int (nI 2)]) ⟨hx, hb, hml, hown, hts⟩ (a_X3_wordCount_77 l dC dI h cs H.size qI_75 fL fA fQ fG fJ ) (cwV 0 hts gX8_leastWith_X3_wordCount rfl rfl rfl (by decide +kernel) ⟨Nat.le_of_ble_eq_true rfl, Nat.le_of_ble_eq_true rfl⟩) (xpV (wc := (wD_32 h cs qI_75 fL fA fQ fG fJ)) hP hD hK hN [1, 2, 3, 4, 5, 6, 7, 8] rfl (by decide) 1 (ci := 3) rfl rfl _) rfl rfl hl.1 rfl (lv_room (Nat.le_of_ble_eq_true rfl)) dX8_leastWith_17 ⟨Nat.zero_le _, Nat.zero_le _⟩) (fun r_17 u_16 H locs hw hP hD hS => ?_)
  obtain ⟨hf_18, rfl⟩ := hw
  have hP : va_P (dC, dI) vwCl (wD_60 h cs qI_75 fL fA fQ fG fJ) H := xP_sub hP [0, 4, 5, 6, 7, 8, 9, 10, 11, 1, 2, 3] rfl
  have hD : va_D A0 (wD_60 h cs qI_75 fL fA fQ fG fJ) := hD.sub [0, 4, 5, 6, 7, 8, 9, 10, 11, 1, 2, 3] (by decide) rfl
  obtain rfl := hf_18
  refine lv_icmp_ge (tgt := 55) hx hb dX8_leastWith_20 (by decide) (fun c9 => False.elim (by revert c9; decide +kernel)) (fun _ => ?_)
  refine lv_aload_n hx hb dX8_leastWith_23 rfl (lv_at hl 2 rfl) ?_
  refine lv_iload hx hb dX8_leastWith_24 (lv_at hl 0 rfl) ?_
  refine lv_iload_n hx hb dX8_leastWith_26 rfl (lv_at hl 3 rfl) ?_
  refine lv_iload_n hx hb dX8_leastWith_27 rfl (lv_at hl 4 rfl) ?_
  refine xj_i (wc := (wD_60 h cs qI_75 fL fA fQ fG fJ)) (wr := ([] : va_W)) hP hD hS hA [0, 1, 2, 3, 4, 5, 6, 7, 8, 9, 10, 11] [] rfl rfl (by decide) (by decide) (va_runV (As := [.int (nI 2), .int (nI 0), .int (nI 0)]) (rest := []) ⟨hx, hb, hml, hown, hts⟩ (a_X8_bitOf_95 l dC dI h cs H.size qI_75 fL fA fQ fG fJ ) (cwV 3 hts gX8_leastWith_X8_bitOf rfl rfl rfl (by decide +kernel) ⟨Nat.le_of_ble_eq_true rfl, Nat.le_of_ble_eq_true rfl⟩) (xpV (wc := (wD_60 h cs qI_75 fL fA fQ fG fJ)) hP hD hK hN [0, 1, 2, 3, 4, 5, 6, 7, 8, 9, 10, 11] rfl (by decide) 0 (ci := 8) rfl rfl _) rfl rfl hl.1 rfl (lv_room (Nat.le_of_ble_eq_true rfl)) dX8_leastWith_28 ⟨Nat.zero_le _, Nat.zero_le _⟩) (fun r_20 u_19 H locs hw hP hD hS => ?_)
  obtain ⟨hf_21, rfl⟩ := hw
  have hP : va_P (dC, dI) vwCl (wD_60 h cs qI_75 fL fA fQ fG fJ) H := hP
  have hD : va_D A0 (wD_60 h cs qI_75 fL fA fQ fG fJ) := hD
  obtain rfl := hf_21
  refine lv_iload_n hx hb dX8_leastWith_31 rfl (lv_at hl 5 rfl) ?_
  refine lv_icmp_ne (tgt := 49) hx hb dX8_leastWith_32 (by decide) (fun _ => ?_) (fun c9 => False.elim (by revert c9; decide +kernel))
  refine lv_iinc (v := nI 3) (lv' := [(5, .int (nI 3)), (4, .int (nI 0)), (0, .ref (h 105)), (1, .int (nI 0)), (2, .int (nI 0)), (3, .int (nI 0))]) hx hb dX8_leastWith_49 hl (k := 0) rfl (by decide +kernel) (by decide) rfl (fun ls hl => ?_)
  refine lv_goto (tgt := 11) hx hb dX8_leastWith_52 (by decide) ?_
  refine lv_iload hx hb dX8_leastWith_11 (lv_at hl 0 rfl) ?_
  refine lv_aload_n hx hb dX8_leastWith_13 rfl (lv_at hl 2 rfl) ?_
  refine va_get (D := (dC, dI)) (ci := 8) (v := .ref (h 101)) (C := RX8) (T := TX8) (N := 6) hx hb hts hinX8 hown hK hP 0 rfl rfl 0 (by decide) (hts (.fieldLink RX8 28 "MixedWords$Words" "mix" "LMixedWords$Mix;") (by decide +kernel)) (fun _ h9 => h9) rfl dX8_leastWith_14 ?_
  refine xj_i (wc := (wD_32 h cs qI_75 fL fA fQ fG fJ)) (wr := [(h 105, .inr (8, [.ref (h 101), .ref (h 170), .ref (h 171), .ref (h 172), .int (qI_75 173), .int (qI_75 174)])), (h 170, .inl (cs 0, 256, .inl (fA 170))), (h 171, .inl (cs 0, 256, .inl (fA 171))), (h 172, .inl (cs 0, 256, .inl (fA 172)))]) hP hD hS hA [1, 2, 3, 4, 5, 6, 7, 8] [0, 9, 10, 11] rfl rfl (by decide) (by decide) (va_runV (As := []) (rest := [.int (nI 3)]) ⟨hx, hb, hml, hown, hts⟩ (a_X3_wordCount_77 l dC dI h cs H.size qI_75 fL fA fQ fG fJ ) (cwV 0 hts gX8_leastWith_X3_wordCount rfl rfl rfl (by decide +kernel) ⟨Nat.le_of_ble_eq_true rfl, Nat.le_of_ble_eq_true rfl⟩) (xpV (wc := (wD_32 h cs qI_75 fL fA fQ fG fJ)) hP hD hK hN [1, 2, 3, 4, 5, 6, 7, 8] rfl (by decide) 1 (ci := 3) rfl rfl _) rfl rfl hl.1 rfl (lv_room (Nat.le_of_ble_eq_true rfl)) dX8_leastWith_17 ⟨Nat.zero_le _, Nat.zero_le _⟩) (fun r_23 u_22 H locs hw hP hD hS => ?_)
  obtain ⟨hf_24, rfl⟩ := hw
  have hP : va_P (dC, dI) vwCl (wD_60 h cs qI_75 fL fA fQ fG fJ) H := xP_sub hP [0, 4, 5, 6, 7, 8, 9, 10, 11, 1, 2, 3] rfl
  have hD : va_D A0 (wD_60 h cs qI_75 fL fA fQ fG fJ) := hD.sub [0, 4, 5, 6, 7, 8, 9, 10, 11, 1, 2, 3] (by decide) rfl
  obtain rfl := hf_24
  refine lv_icmp_ge (tgt := 55) hx hb dX8_leastWith_20 (by decide) (fun c9 => False.elim (by revert c9; decide +kernel)) (fun _ => ?_)
  refine lv_aload_n hx hb dX8_leastWith_23 rfl (lv_at hl 2 rfl) ?_
  refine lv_iload hx hb dX8_leastWith_24 (lv_at hl 0 rfl) ?_
  refine lv_iload_n hx hb dX8_leastWith_26 rfl (lv_at hl 3 rfl) ?_
  refine lv_iload_n hx hb dX8_leastWith_27 rfl (lv_at hl 4 rfl) ?_
  refine xj_i (wc := (wD_60 h cs qI_75 fL fA fQ fG fJ)) (wr := ([] : va_W)) hP hD hS hA [0, 1, 2, 3, 4, 5, 6, 7, 8, 9, 10, 11] [] rfl rfl (by decide) (by decide) (va_runV (As := [.int (nI 3), .int (nI 0), .int (nI 0)]) (rest := []) ⟨hx, hb, hml, hown, hts⟩ (a_X8_bitOf_97 l dC dI h cs H.size qI_75 fL fA fQ fG fJ ) (cwV 3 hts gX8_leastWith_X8_bitOf rfl rfl rfl (by decide +kernel) ⟨Nat.le_of_ble_eq_true rfl, Nat.le_of_ble_eq_true rfl⟩) (xpV (wc := (wD_60 h cs qI_75 fL fA fQ fG fJ)) hP hD hK hN [0, 1, 2, 3, 4, 5, 6, 7, 8, 9, 10, 11] rfl (by decide) 0 (ci := 8) rfl rfl _) rfl rfl hl.1 rfl (lv_room (Nat.le_of_ble_eq_true rfl)) dX8_leastWith_28 ⟨Nat.zero_le _, Nat.zero_le _⟩) (fun r_26 u_25 H locs hw hP hD hS => ?_)
  obtain ⟨hf_27, rfl⟩ := hw
  have hP : va_P (dC, dI) vwCl (wD_60 h cs qI_75 fL fA fQ fG fJ) H := hP
  have hD : va_D A0 (wD_60 h cs qI_75 fL fA fQ fG fJ) := hD
  obtain rfl := hf_27
  refine lv_iload_n hx hb dX8_leastWith_31 rfl (lv_at hl 5 rfl) ?_
  refine lv_icmp_ne (tgt := 49) hx hb dX8_leastWith_32 (by decide) (fun _ => ?_) (fun c9 => False.elim (by revert c9; decide +kernel))
  refine lv_iinc (v := nI 4) (lv' := [(5, .int (nI 4)), (4, .int (nI 0)), (0, .ref (h 105)), (1, .int (nI 0)), (2, .int (nI 0)), (3, .int (nI 0))]) hx hb dX8_leastWith_49 hl (k := 0) rfl (by decide +kernel) (by decide) rfl (fun ls hl => ?_)
  refine lv_goto (tgt := 11) hx hb dX8_leastWith_52 (by decide) ?_
  refine lv_iload hx hb dX8_leastWith_11 (lv_at hl 0 rfl) ?_
  refine lv_aload_n hx hb dX8_leastWith_13 rfl (lv_at hl 2 rfl) ?_
  refine va_get (D := (dC, dI)) (ci := 8) (v := .ref (h 101)) (C := RX8) (T := TX8) (N := 6) hx hb hts hinX8 hown hK hP 0 rfl rfl 0 (by decide) (hts (.fieldLink RX8 28 "MixedWords$Words" "mix" "LMixedWords$Mix;") (by decide +kernel)) (fun _ h9 => h9) rfl dX8_leastWith_14 ?_
  refine xj_i (wc := (wD_32 h cs qI_75 fL fA fQ fG fJ)) (wr := [(h 105, .inr (8, [.ref (h 101), .ref (h 170), .ref (h 171), .ref (h 172), .int (qI_75 173), .int (qI_75 174)])), (h 170, .inl (cs 0, 256, .inl (fA 170))), (h 171, .inl (cs 0, 256, .inl (fA 171))), (h 172, .inl (cs 0, 256, .inl (fA 172)))]) hP hD hS hA [1, 2, 3, 4, 5, 6, 7, 8] [0, 9, 10, 11] rfl rfl (by decide) (by decide) (va_runV (As := []) (rest := [.int (nI 4)]) ⟨hx, hb, hml, hown, hts⟩ (a_X3_wordCount_77 l dC dI h cs H.size qI_75 fL fA fQ fG fJ ) (cwV 0 hts gX8_leastWith_X3_wordCount rfl rfl rfl (by decide +kernel) ⟨Nat.le_of_ble_eq_true rfl, Nat.le_of_ble_eq_true rfl⟩) (xpV (wc := (wD_32 h cs qI_75 fL fA fQ fG fJ)) hP hD hK hN [1, 2, 3, 4, 5, 6, 7, 8] rfl (by decide) 1 (ci := 3) rfl rfl _) rfl rfl hl.1 rfl (lv_room (Nat.le_of_ble_eq_true rfl)) dX8_leastWith_17 ⟨Nat.zero_le _, Nat.zero_le _⟩) (fun r_29 u_28 H locs hw hP hD hS => ?_)
  obtain ⟨hf_30, rfl⟩ := hw
  have hP : va_P (dC, dI) vwCl (wD_60 h cs qI_75 fL fA fQ fG fJ) H := xP_sub hP [0, 4, 5, 6, 7, 8, 9, 10, 11, 1, 2, 3] rfl
  have hD : va_D A0 (wD_60 h cs qI_75 fL fA fQ fG fJ) := hD.sub [0, 4, 5, 6, 7, 8, 9, 10, 11, 1, 2, 3] (by decide) rfl
  obtain rfl := hf_30
  refine lv_icmp_ge (tgt := 55) hx hb dX8_leastWith_20 (by decide) (fun _ => ?_) (fun c9 => False.elim (by revert c9; decide +kernel))
  refine lv_iload hx hb dX8_leastWith_55 (lv_at hl 1 rfl) ?_
  exact xr_i (v := (nI 0)) hx hb hr hlocks hK hS dX8_leastWith_57 (qI_75, fL, fA, fQ, fG, fJ) ⟨rfl, rfl⟩ hP hD
set_option maxHeartbeats 4000000 in
set_option maxRecDepth 100000 in
theorem a_X3_hasColumn_101 (l : Launch) (dC : Nat → ClassId) (dI : Nat → Nat → Nat) (h : Nat → Nat) (cs : Nat → ClassId) (sz : Nat) (I : Nat → Int32) (L : Nat → Int64) (A : Nat → Nat → Int32) (Q : Nat → Nat → Int64) (G : Nat → Nat → Nat → Int32) (J : Nat → Nat → Nat → Int64) : Met l yX3_hasColumn wsX3_hasColumn ({ frames := 0, cells := 0, slots := 0, locals := 0 }) (va_Pc [.ref (h 101), .int (nI 1)] (xPre (dC, dI) (wD_32 h cs fI fL fA fQ fG fJ) (tysA cs) sz)) (va_Qi (fun (r : Int32) (u : CS) => (r = nI 1) ∧ u = (fI, fL, fA, fQ, fG, fJ)) (xB (dC, dI) (tysA cs) (va_A (wD_32 h cs fI fL fA fQ fG fJ) sz) (fun u : CS => wD_32 h cs u.1 u.2.1 u.2.2.1 u.2.2.2.1 u.2.2.2.2.1 u.2.2.2.2.2)) (va_A (wD_32 h cs fI fL fA fQ fG fJ) sz)) 0 0 (va_A (wD_32 h cs fI fL fA fQ fG fJ) sz) := by
  refine Met.ofW (cc := cX3_hasColumn) (maxL := 2) (ret := (some .boolean)) (by decide) rfl ?_
  intro p e s m args below meth c s₁ B hml hv
  obtain ⟨rfl, hsz, hP, hK, hD0, hN⟩ := hv
  have hx := B.exec
  have hb := B.bytes
  have hr := B.returns
  have hts := atoms_spec (ws := wsX3_hasColumn) B.pre
  have hown : s.vm.findClass RX3 = some m.cls := findClass_of_methodNamed B.named
  have hlocks := B.notSynchronized
  subst hsz
  have hD := hD0.self (sz := s.heap.size)
  generalize hAe : va_A (wD_32 h cs fI fL fA fQ fG fJ) s.heap.size = A0 at hD ⊢
  have hA : ∀ q : Nat, s.heap.size ≤ q → A0 q := fun q h => by rw [← hAe]; exact Or.inr h
  have hl := lv_entry ([.ref (h 101), .int (nI 1)]) (n := 2) (Nat.le_of_ble_eq_true rfl)
  rw [lg_entry_eq]
  generalize (lg_sl ([.ref (h 101), .int (nI 1)]) ++ List.replicate (2 - (lg_sl ([.ref (h 101), .int (nI 1)])).length) Slot.unset).toArray = ls at hl ⊢
  have hl : lv_has ls 2 [(0, .ref (h 101)), (1, .int (nI 1))] := hl
  generalize hH : s.heap = H at hP ⊢
  have hS : va_S A0 s.heap H [] := by rw [← hH]; exact va_S.rf
  have hinX3 : ∀ w ∈ wsX30, w ∈ wsX3_hasColumn := by decide +kernel
  refine lv_iload_n hx hb dX3_hasColumn_0 rfl (lv_at hl 1 rfl) ?_
  refine lv_if_lt (tgt := 16) hx hb dX3_hasColumn_1 (by decide) (fun c9 => False.elim (by revert c9; decide +kernel)) (fun _ => ?_)
  refine lv_iload_n hx hb dX3_hasColumn_4 rfl (lv_at hl 1 rfl) ?_
  refine lv_aload_n hx hb dX3_hasColumn_5 rfl (lv_at hl 0 rfl) ?_
  refine va_get (D := (dC, dI)) (ci := 3) (v := .int (fI 121)) (C := RX3) (T := TX3) (N := 6) hx hb hts hinX3 hown hK hP 0 rfl rfl 1 (by decide) (hts (.fieldLink RX3 15 "MixedWords$Mix" "width" "I") (by decide +kernel)) (fun _ h9 => h9) rfl dX3_hasColumn_6 ?_
  refine xt_i (y := nI 2) (by decide +kernel) ?_
  refine lv_icmp_ge (tgt := 16) hx hb dX3_hasColumn_9 (by decide) (fun c9 => False.elim (by revert c9; decide +kernel)) (fun _ => ?_)
  refine lv_iconst (v := nI 1) hx hb dX3_hasColumn_12 (by decide) ?_
  refine lv_goto (tgt := 17) hx hb dX3_hasColumn_13 (by decide) ?_
  exact xr_z (v := (nI 1)) hx hb hr hlocks hK hS dX3_hasColumn_17 (rfl) (fI, fL, fA, fQ, fG, fJ) ⟨rfl, rfl⟩ hP hD
set_option maxHeartbeats 4000000 in
set_option maxRecDepth 100000 in
theorem a_X8_indexOf_104 (l : Launch) (dC : Nat → ClassId) (dI : Nat → Nat → Nat) (h : Nat → Nat) (cs : Nat → ClassId) (sz : Nat) (I : Nat → Int32) (L : Nat → Int64) (A : Nat → Nat → Int32) (Q : Nat → Nat → Int64) (G : Nat → Nat → Nat → Int32) (J : Nat → Nat → Nat → Int64) : Met l yX8_indexOf wsX8_indexOf ({ frames := 1, cells := 0, slots := 0, locals := 20 }) (va_Pc [.ref (h 105), .int (nI 0), .int (nI 1)] (xPre (dC, dI) (wD_60 h cs qI_75 fL fA fQ fG fJ) (tysA cs) sz)) (va_Qi (fun (r : Int32) (u : CS) => (r = nI 0) ∧ u = (qI_75, fL, fA, fQ, fG, fJ)) (xB (dC, dI) (tysA cs) (va_A (wD_60 h cs qI_75 fL fA fQ fG fJ) sz) (fun u : CS => wD_60 h cs u.1 u.2.1 u.2.2.1 u.2.2.2.1 u.2.2.2.2.1 u.2.2.2.2.2)) (va_A (wD_60 h cs qI_75 fL fA fQ fG fJ) sz)) 0 0 (va_A (wD_60 h cs qI_75 fL fA fQ fG fJ) sz) := by
  refine Met.ofW (cc := cX8_indexOf) (maxL := 3) (ret := (some .int)) (by decide) rfl ?_
  intro p e s m args below meth c s₁ B hml hv
  obtain ⟨rfl, hsz, hP, hK, hD0, hN⟩ := hv
  have hx := B.exec
  have hb := B.bytes
  have hr := B.returns
  have hts := atoms_spec (ws := wsX8_indexOf) B.pre
  have hown : s.vm.findClass RX8 = some m.cls := findClass_of_methodNamed B.named
  have hlocks := B.notSynchronized
  subst hsz
  have hD := hD0.self (sz := s.heap.size)
  generalize hAe : va_A (wD_60 h cs qI_75 fL fA fQ fG fJ) s.heap.size = A0 at hD ⊢
  have hA : ∀ q : Nat, s.heap.size ≤ q → A0 q := fun q h => by rw [← hAe]; exact Or.inr h
  have hl := lv_entry ([.ref (h 105), .int (nI 0), .int (nI 1)]) (n := 3) (Nat.le_of_ble_eq_true rfl)
  rw [lg_entry_eq]
  generalize (lg_sl ([.ref (h 105), .int (nI 0), .int (nI 1)]) ++ List.replicate (3 - (lg_sl ([.ref (h 105), .int (nI 0), .int (nI 1)])).length) Slot.unset).toArray = ls at hl ⊢
  have hl : lv_has ls 3 [(0, .ref (h 105)), (1, .int (nI 0)), (2, .int (nI 1))] := hl
  generalize hH : s.heap = H at hP ⊢
  have hS : va_S A0 s.heap H [] := by rw [← hH]; exact va_S.rf
  have hinX8 : ∀ w ∈ wsX80, w ∈ wsX8_indexOf := by decide +kernel
  have hinX3 : ∀ w ∈ wsX30, w ∈ wsX8_indexOf := by decide +kernel
  refine lv_iload_n hx hb dX8_indexOf_0 rfl (lv_at hl 1 rfl) ?_
  refine lv_aload_n hx hb dX8_indexOf_1 rfl (lv_at hl 0 rfl) ?_
  refine va_get (D := (dC, dI)) (ci := 8) (v := .ref (h 101)) (C := RX8) (T := TX8) (N := 6) hx hb hts hinX8 hown hK hP 0 rfl rfl 0 (by decide) (hts (.fieldLink RX8 28 "MixedWords$Words" "mix" "LMixedWords$Mix;") (by decide +kernel)) (fun _ h9 => h9) rfl dX8_indexOf_2 ?_
  refine xj_i (wc := (wD_32 h cs qI_75 fL fA fQ fG fJ)) (wr := [(h 105, .inr (8, [.ref (h 101), .ref (h 170), .ref (h 171), .ref (h 172), .int (qI_75 173), .int (qI_75 174)])), (h 170, .inl (cs 0, 256, .inl (fA 170))), (h 171, .inl (cs 0, 256, .inl (fA 171))), (h 172, .inl (cs 0, 256, .inl (fA 172)))]) hP hD hS hA [1, 2, 3, 4, 5, 6, 7, 8] [0, 9, 10, 11] rfl rfl (by decide) (by decide) (va_runV (As := []) (rest := [.int (nI 0)]) ⟨hx, hb, hml, hown, hts⟩ (a_X3_bitsOfLetter_78 l dC dI h cs H.size qI_75 fL fA fQ fG fJ ) (cwV 0 hts gX8_indexOf_X3_bitsOfLetter rfl rfl rfl (by decide +kernel) ⟨Nat.le_of_ble_eq_true rfl, Nat.le_of_ble_eq_true rfl⟩) (xpV (wc := (wD_32 h cs qI_75 fL fA fQ fG fJ)) hP hD hK hN [1, 2, 3, 4, 5, 6, 7, 8] rfl (by decide) 1 (ci := 3) rfl rfl _) rfl rfl hl.1 rfl (lv_room (Nat.le_of_ble_eq_true rfl)) dX8_indexOf_5 ⟨Nat.zero_le _, Nat.zero_le _⟩) (fun r_2 u_1 H locs hw hP hD hS => ?_)
  obtain ⟨hf_3, rfl⟩ := hw
  have hP : va_P (dC, dI) vwCl (wD_60 h cs qI_75 fL fA fQ fG fJ) H := xP_sub hP [0, 4, 5, 6, 7, 8, 9, 10, 11, 1, 2, 3] rfl
  have hD : va_D A0 (wD_60 h cs qI_75 fL fA fQ fG fJ) := hD.sub [0, 4, 5, 6, 7, 8, 9, 10, 11, 1, 2, 3] (by decide) rfl
  obtain rfl := hf_3
  refine lv_aload_n hx hb dX8_indexOf_8 rfl (lv_at hl 0 rfl) ?_
  refine va_get (D := (dC, dI)) (ci := 8) (v := .ref (h 101)) (C := RX8) (T := TX8) (N := 6) hx hb hts hinX8 hown hK hP 0 rfl rfl 0 (by decide) (hts (.fieldLink RX8 28 "MixedWords$Words" "mix" "LMixedWords$Mix;") (by decide +kernel)) (fun _ h9 => h9) rfl dX8_indexOf_9 ?_
  refine va_get (D := (dC, dI)) (ci := 3) (v := .int (qI_75 121)) (C := RX3) (T := TX3) (N := 6) hx hb hts hinX3 hown hK hP 1 rfl rfl 1 (by decide) (hts (.fieldLink RX8 40 "MixedWords$Mix" "width" "I") (by decide +kernel)) (fun _ h9 => h9) rfl dX8_indexOf_12 ?_
  refine xt_i (y := nI 2) (by decide +kernel) ?_
  refine lv_iconst (v := nI 1) hx hb dX8_indexOf_15 (by decide) ?_
  refine lv_isub hx hb dX8_indexOf_16 ?_
  refine xt_i (y := nI 1) (by decide +kernel) ?_
  refine lv_iload_n hx hb dX8_indexOf_17 rfl (lv_at hl 2 rfl) ?_
  refine lv_isub hx hb dX8_indexOf_18 ?_
  refine xt_i (y := nI 0) (by decide +kernel) ?_
  refine lv_imul hx hb dX8_indexOf_19 ?_
  refine xt_i (y := nI 0) (by decide +kernel) ?_
  refine lv_ishr hx hb dX8_indexOf_20 ?_
  refine xt_i (y := nI 0) (by decide +kernel) ?_
  refine lv_aload_n hx hb dX8_indexOf_21 rfl (lv_at hl 0 rfl) ?_
  refine va_get (D := (dC, dI)) (ci := 8) (v := .ref (h 101)) (C := RX8) (T := TX8) (N := 6) hx hb hts hinX8 hown hK hP 0 rfl rfl 0 (by decide) (hts (.fieldLink RX8 28 "MixedWords$Words" "mix" "LMixedWords$Mix;") (by decide +kernel)) (fun _ h9 => h9) rfl dX8_indexOf_22 ?_
  refine va_get (D := (dC, dI)) (ci := 3) (v := .int (qI_75 122)) (C := RX3) (T := TX3) (N := 6) hx hb hts hinX3 hown hK hP 1 rfl rfl 2 (by decide) (hts (.fieldLink RX8 51 "MixedWords$Mix" "letterCount" "I") (by decide +kernel)) (fun _ h9 => h9) rfl dX8_indexOf_25 ?_
  refine xt_i (y := nI 2) (by decide +kernel) ?_
  refine lv_iconst (v := nI 1) hx hb dX8_indexOf_28 (by decide) ?_
  refine lv_isub hx hb dX8_indexOf_29 ?_
  refine xt_i (y := nI 1) (by decide +kernel) ?_
  refine lv_iand hx hb dX8_indexOf_30 ?_
  refine xt_i (y := nI 0) (by decide +kernel) ?_
  exact xr_i (v := (nI 0)) hx hb hr hlocks hK hS dX8_indexOf_31 (qI_75, fL, fA, fQ, fG, fJ) ⟨rfl, rfl⟩ hP hD
set_option maxHeartbeats 4000000 in
set_option maxRecDepth 100000 in
theorem a_X8_bitOf_103 (l : Launch) (dC : Nat → ClassId) (dI : Nat → Nat → Nat) (h : Nat → Nat) (cs : Nat → ClassId) (sz : Nat) (I : Nat → Int32) (L : Nat → Int64) (A : Nat → Nat → Int32) (Q : Nat → Nat → Int64) (G : Nat → Nat → Nat → Int32) (J : Nat → Nat → Nat → Int64) : Met l yX8_bitOf wsX8_bitOf ({ frames := 2, cells := 0, slots := 0, locals := 42 }) (va_Pc [.ref (h 105), .int (nI 0), .int (nI 1), .int (nI 0)] (xPre (dC, dI) (wD_60 h cs qI_75 fL fA fQ fG fJ) (tysA cs) sz)) (va_Qi (fun (r : Int32) (u : CS) => (r = nI 0) ∧ u = (qI_75, fL, fA, fQ, fG, fJ)) (xB (dC, dI) (tysA cs) (va_A (wD_60 h cs qI_75 fL fA fQ fG fJ) sz) (fun u : CS => wD_60 h cs u.1 u.2.1 u.2.2.1 u.2.2.2.1 u.2.2.2.2.1 u.2.2.2.2.2)) (va_A (wD_60 h cs qI_75 fL fA fQ fG fJ) sz)) 0 0 (va_A (wD_60 h cs qI_75 fL fA fQ fG fJ) sz) := by
  refine Met.ofW (cc := cX8_bitOf) (maxL := 5) (ret := (some .int)) (by decide) rfl ?_
  intro p e s m args below meth c s₁ B hml hv
  obtain ⟨rfl, hsz, hP, hK, hD0, hN⟩ := hv
  have hx := B.exec
  have hb := B.bytes
  have hr := B.returns
  have hts := atoms_spec (ws := wsX8_bitOf) B.pre
  have hown : s.vm.findClass RX8 = some m.cls := findClass_of_methodNamed B.named
  have hlocks := B.notSynchronized
  subst hsz
  have hD := hD0.self (sz := s.heap.size)
  generalize hAe : va_A (wD_60 h cs qI_75 fL fA fQ fG fJ) s.heap.size = A0 at hD ⊢
  have hA : ∀ q : Nat, s.heap.size ≤ q → A0 q := fun q h => by rw [← hAe]; exact Or.inr h
  have hl := lv_entry ([.ref (h 105), .int (nI 0), .int (nI 1), .int (nI 0)]) (n := 5) (Nat.le_of_ble_eq_true rfl)
  rw [lg_entry_eq]
  generalize (lg_sl ([.ref (h 105), .int (nI 0), .int (nI 1), .int (nI 0)]) ++ List.replicate (5 - (lg_sl ([.ref (h 105), .int (nI 0), .int (nI 1), .int (nI 0)])).length) Slot.unset).toArray = ls at hl ⊢
  have hl : lv_has ls 5 [(0, .ref (h 105)), (1, .int (nI 0)), (2, .int (nI 1)), (3, .int (nI 0))] := hl
  generalize hH : s.heap = H at hP ⊢
  have hS : va_S A0 s.heap H [] := by rw [← hH]; exact va_S.rf
  have hinX8 : ∀ w ∈ wsX80, w ∈ wsX8_bitOf := by decide +kernel
  have hinX3 : ∀ w ∈ wsX30, w ∈ wsX8_bitOf := by decide +kernel
  refine lv_aload_n hx hb dX8_bitOf_0 rfl (lv_at hl 0 rfl) ?_
  refine lv_iload_n hx hb dX8_bitOf_1 rfl (lv_at hl 1 rfl) ?_
  refine lv_iload_n hx hb dX8_bitOf_2 rfl (lv_at hl 2 rfl) ?_
  refine xj_i (wc := (wD_60 h cs qI_75 fL fA fQ fG fJ)) (wr := ([] : va_W)) hP hD hS hA [0, 1, 2, 3, 4, 5, 6, 7, 8, 9, 10, 11] [] rfl rfl (by decide) (by decide) (va_runV (As := [.int (nI 0), .int (nI 1)]) (rest := []) ⟨hx, hb, hml, hown, hts⟩ (a_X8_indexOf_104 l dC dI h cs H.size qI_75 fL fA fQ fG fJ ) (cwV 2 hts gX8_bitOf_X8_indexOf rfl rfl rfl (by decide +kernel) ⟨Nat.le_of_ble_eq_true rfl, Nat.le_of_ble_eq_true rfl⟩) (xpV (wc := (wD_60 h cs qI_75 fL fA fQ fG fJ)) hP hD hK hN [0, 1, 2, 3, 4, 5, 6, 7, 8, 9, 10, 11] rfl (by decide) 0 (ci := 8) rfl rfl _) rfl rfl hl.1 rfl (lv_room (Nat.le_of_ble_eq_true rfl)) dX8_bitOf_3 ⟨Nat.zero_le _, Nat.zero_le _⟩) (fun r_2 u_1 H locs hw hP hD hS => ?_)
  obtain ⟨hf_3, rfl⟩ := hw
  have hP : va_P (dC, dI) vwCl (wD_60 h cs qI_75 fL fA fQ fG fJ) H := hP
  have hD : va_D A0 (wD_60 h cs qI_75 fL fA fQ fG fJ) := hD
  obtain rfl := hf_3
  refine lv_istore (lv' := [(4, .int (nI 0)), (0, .ref (h 105)), (1, .int (nI 0)), (2, .int (nI 1)), (3, .int (nI 0))]) hx hb dX8_bitOf_6 hl (by decide) rfl (fun ls hl => ?_)
  refine lv_aload_n hx hb dX8_bitOf_8 rfl (lv_at hl 1 rfl) ?_
  refine va_get (D := (dC, dI)) (ci := 8) (v := .ref (h 101)) (C := RX8) (T := TX8) (N := 6) hx hb hts hinX8 hown hK hP 0 rfl rfl 0 (by decide) (hts (.fieldLink RX8 28 "MixedWords$Words" "mix" "LMixedWords$Mix;") (by decide +kernel)) (fun _ h9 => h9) rfl dX8_bitOf_9 ?_
  refine va_get (D := (dC, dI)) (ci := 3) (v := .int (qI_75 122)) (C := RX3) (T := TX3) (N := 6) hx hb hts hinX3 hown hK hP 1 rfl rfl 2 (by decide) (hts (.fieldLink RX8 51 "MixedWords$Mix" "letterCount" "I") (by decide +kernel)) (fun _ h9 => h9) rfl dX8_bitOf_12 ?_
  refine xt_i (y := nI 2) (by decide +kernel) ?_
  refine lv_iconst (v := nI 2) hx hb dX8_bitOf_15 (by decide) ?_
  refine lv_icmp_ne (tgt := 22) hx hb dX8_bitOf_16 (by decide) (fun c9 => False.elim (by revert c9; decide +kernel)) (fun _ => ?_)
  refine lv_iload hx hb dX8_bitOf_19 (lv_at hl 0 rfl) ?_
  exact xr_i (v := (nI 0)) hx hb hr hlocks hK hS dX8_bitOf_21 (qI_75, fL, fA, fQ, fG, fJ) ⟨rfl, rfl⟩ hP hD
set_option maxHeartbeats 4000000 in
set_option maxRecDepth 100000 in
theorem a_X8_indexOf_106 (l : Launch) (dC : Nat → ClassId) (dI : Nat → Nat → Nat) (h : Nat → Nat) (cs : Nat → ClassId) (sz : Nat) (I : Nat → Int32) (L : Nat → Int64) (A : Nat → Nat → Int32) (Q : Nat → Nat → Int64) (G : Nat → Nat → Nat → Int32) (J : Nat → Nat → Nat → Int64) : Met l yX8_indexOf wsX8_indexOf ({ frames := 1, cells := 0, slots := 0, locals := 20 }) (va_Pc [.ref (h 105), .int (nI 1), .int (nI 1)] (xPre (dC, dI) (wD_60 h cs qI_75 fL fA fQ fG fJ) (tysA cs) sz)) (va_Qi (fun (r : Int32) (u : CS) => (r = nI 1) ∧ u = (qI_75, fL, fA, fQ, fG, fJ)) (xB (dC, dI) (tysA cs) (va_A (wD_60 h cs qI_75 fL fA fQ fG fJ) sz) (fun u : CS => wD_60 h cs u.1 u.2.1 u.2.2.1 u.2.2.2.1 u.2.2.2.2.1 u.2.2.2.2.2)) (va_A (wD_60 h cs qI_75 fL fA fQ fG fJ) sz)) 0 0 (va_A (wD_60 h cs qI_75 fL fA fQ fG fJ) sz) := by
  refine Met.ofW (cc := cX8_indexOf) (maxL := 3) (ret := (some .int)) (by decide) rfl ?_
  intro p e s m args below meth c s₁ B hml hv
  obtain ⟨rfl, hsz, hP, hK, hD0, hN⟩ := hv
  have hx := B.exec
  have hb := B.bytes
  have hr := B.returns
  have hts := atoms_spec (ws := wsX8_indexOf) B.pre
  have hown : s.vm.findClass RX8 = some m.cls := findClass_of_methodNamed B.named
  have hlocks := B.notSynchronized
  subst hsz
  have hD := hD0.self (sz := s.heap.size)
  generalize hAe : va_A (wD_60 h cs qI_75 fL fA fQ fG fJ) s.heap.size = A0 at hD ⊢
  have hA : ∀ q : Nat, s.heap.size ≤ q → A0 q := fun q h => by rw [← hAe]; exact Or.inr h
  have hl := lv_entry ([.ref (h 105), .int (nI 1), .int (nI 1)]) (n := 3) (Nat.le_of_ble_eq_true rfl)
  rw [lg_entry_eq]
  generalize (lg_sl ([.ref (h 105), .int (nI 1), .int (nI 1)]) ++ List.replicate (3 - (lg_sl ([.ref (h 105), .int (nI 1), .int (nI 1)])).length) Slot.unset).toArray = ls at hl ⊢
  have hl : lv_has ls 3 [(0, .ref (h 105)), (1, .int (nI 1)), (2, .int (nI 1))] := hl
  generalize hH : s.heap = H at hP ⊢
  have hS : va_S A0 s.heap H [] := by rw [← hH]; exact va_S.rf
  have hinX8 : ∀ w ∈ wsX80, w ∈ wsX8_indexOf := by decide +kernel
  have hinX3 : ∀ w ∈ wsX30, w ∈ wsX8_indexOf := by decide +kernel
  refine lv_iload_n hx hb dX8_indexOf_0 rfl (lv_at hl 1 rfl) ?_
  refine lv_aload_n hx hb dX8_indexOf_1 rfl (lv_at hl 0 rfl) ?_
  refine va_get (D := (dC, dI)) (ci := 8) (v := .ref (h 101)) (C := RX8) (T := TX8) (N := 6) hx hb hts hinX8 hown hK hP 0 rfl rfl 0 (by decide) (hts (.fieldLink RX8 28 "MixedWords$Words" "mix" "LMixedWords$Mix;") (by decide +kernel)) (fun _ h9 => h9) rfl dX8_indexOf_2 ?_
  refine xj_i (wc := (wD_32 h cs qI_75 fL fA fQ fG fJ)) (wr := [(h 105, .inr (8, [.ref (h 101), .ref (h 170), .ref (h 171), .ref (h 172), .int (qI_75 173), .int (qI_75 174)])), (h 170, .inl (cs 0, 256, .inl (fA 170))), (h 171, .inl (cs 0, 256, .inl (fA 171))), (h 172, .inl (cs 0, 256, .inl (fA 172)))]) hP hD hS hA [1, 2, 3, 4, 5, 6, 7, 8] [0, 9, 10, 11] rfl rfl (by decide) (by decide) (va_runV (As := []) (rest := [.int (nI 1)]) ⟨hx, hb, hml, hown, hts⟩ (a_X3_bitsOfLetter_78 l dC dI h cs H.size qI_75 fL fA fQ fG fJ ) (cwV 0 hts gX8_indexOf_X3_bitsOfLetter rfl rfl rfl (by decide +kernel) ⟨Nat.le_of_ble_eq_true rfl, Nat.le_of_ble_eq_true rfl⟩) (xpV (wc := (wD_32 h cs qI_75 fL fA fQ fG fJ)) hP hD hK hN [1, 2, 3, 4, 5, 6, 7, 8] rfl (by decide) 1 (ci := 3) rfl rfl _) rfl rfl hl.1 rfl (lv_room (Nat.le_of_ble_eq_true rfl)) dX8_indexOf_5 ⟨Nat.zero_le _, Nat.zero_le _⟩) (fun r_2 u_1 H locs hw hP hD hS => ?_)
  obtain ⟨hf_3, rfl⟩ := hw
  have hP : va_P (dC, dI) vwCl (wD_60 h cs qI_75 fL fA fQ fG fJ) H := xP_sub hP [0, 4, 5, 6, 7, 8, 9, 10, 11, 1, 2, 3] rfl
  have hD : va_D A0 (wD_60 h cs qI_75 fL fA fQ fG fJ) := hD.sub [0, 4, 5, 6, 7, 8, 9, 10, 11, 1, 2, 3] (by decide) rfl
  obtain rfl := hf_3
  refine lv_aload_n hx hb dX8_indexOf_8 rfl (lv_at hl 0 rfl) ?_
  refine va_get (D := (dC, dI)) (ci := 8) (v := .ref (h 101)) (C := RX8) (T := TX8) (N := 6) hx hb hts hinX8 hown hK hP 0 rfl rfl 0 (by decide) (hts (.fieldLink RX8 28 "MixedWords$Words" "mix" "LMixedWords$Mix;") (by decide +kernel)) (fun _ h9 => h9) rfl dX8_indexOf_9 ?_
  refine va_get (D := (dC, dI)) (ci := 3) (v := .int (qI_75 121)) (C := RX3) (T := TX3) (N := 6) hx hb hts hinX3 hown hK hP 1 rfl rfl 1 (by decide) (hts (.fieldLink RX8 40 "MixedWords$Mix" "width" "I") (by decide +kernel)) (fun _ h9 => h9) rfl dX8_indexOf_12 ?_
  refine xt_i (y := nI 2) (by decide +kernel) ?_
  refine lv_iconst (v := nI 1) hx hb dX8_indexOf_15 (by decide) ?_
  refine lv_isub hx hb dX8_indexOf_16 ?_
  refine xt_i (y := nI 1) (by decide +kernel) ?_
  refine lv_iload_n hx hb dX8_indexOf_17 rfl (lv_at hl 2 rfl) ?_
  refine lv_isub hx hb dX8_indexOf_18 ?_
  refine xt_i (y := nI 0) (by decide +kernel) ?_
  refine lv_imul hx hb dX8_indexOf_19 ?_
  refine xt_i (y := nI 0) (by decide +kernel) ?_
  refine lv_ishr hx hb dX8_indexOf_20 ?_
  refine xt_i (y := nI 1) (by decide +kernel) ?_
  refine lv_aload_n hx hb dX8_indexOf_21 rfl (lv_at hl 0 rfl) ?_
  refine va_get (D := (dC, dI)) (ci := 8) (v := .ref (h 101)) (C := RX8) (T := TX8) (N := 6) hx hb hts hinX8 hown hK hP 0 rfl rfl 0 (by decide) (hts (.fieldLink RX8 28 "MixedWords$Words" "mix" "LMixedWords$Mix;") (by decide +kernel)) (fun _ h9 => h9) rfl dX8_indexOf_22 ?_
  refine va_get (D := (dC, dI)) (ci := 3) (v := .int (qI_75 122)) (C := RX3) (T := TX3) (N := 6) hx hb hts hinX3 hown hK hP 1 rfl rfl 2 (by decide) (hts (.fieldLink RX8 51 "MixedWords$Mix" "letterCount" "I") (by decide +kernel)) (fun _ h9 => h9) rfl dX8_indexOf_25 ?_
  refine xt_i (y := nI 2) (by decide +kernel) ?_
  refine lv_iconst (v := nI 1) hx hb dX8_indexOf_28 (by decide) ?_
  refine lv_isub hx hb dX8_indexOf_29 ?_
  refine xt_i (y := nI 1) (by decide +kernel) ?_
  refine lv_iand hx hb dX8_indexOf_30 ?_
  refine xt_i (y := nI 1) (by decide +kernel) ?_
  exact xr_i (v := (nI 1)) hx hb hr hlocks hK hS dX8_indexOf_31 (qI_75, fL, fA, fQ, fG, fJ) ⟨rfl, rfl⟩ hP hD
set_option maxHeartbeats 4000000 in
set_option maxRecDepth 100000 in
theorem a_X8_bitOf_105 (l : Launch) (dC : Nat → ClassId) (dI : Nat → Nat → Nat) (h : Nat → Nat) (cs : Nat → ClassId) (sz : Nat) (I : Nat → Int32) (L : Nat → Int64) (A : Nat → Nat → Int32) (Q : Nat → Nat → Int64) (G : Nat → Nat → Nat → Int32) (J : Nat → Nat → Nat → Int64) : Met l yX8_bitOf wsX8_bitOf ({ frames := 2, cells := 0, slots := 0, locals := 42 }) (va_Pc [.ref (h 105), .int (nI 1), .int (nI 1), .int (nI 0)] (xPre (dC, dI) (wD_60 h cs qI_75 fL fA fQ fG fJ) (tysA cs) sz)) (va_Qi (fun (r : Int32) (u : CS) => (r = nI 1) ∧ u = (qI_75, fL, fA, fQ, fG, fJ)) (xB (dC, dI) (tysA cs) (va_A (wD_60 h cs qI_75 fL fA fQ fG fJ) sz) (fun u : CS => wD_60 h cs u.1 u.2.1 u.2.2.1 u.2.2.2.1 u.2.2.2.2.1 u.2.2.2.2.2)) (va_A (wD_60 h cs qI_75 fL fA fQ fG fJ) sz)) 0 0 (va_A (wD_60 h cs qI_75 fL fA fQ fG fJ) sz) := by
  refine Met.ofW (cc := cX8_bitOf) (maxL := 5) (ret := (some .int)) (by decide) rfl ?_
  intro p e s m args below meth c s₁ B hml hv
  obtain ⟨rfl, hsz, hP, hK, hD0, hN⟩ := hv
  have hx := B.exec
  have hb := B.bytes
  have hr := B.returns
  have hts := atoms_spec (ws := wsX8_bitOf) B.pre
  have hown : s.vm.findClass RX8 = some m.cls := findClass_of_methodNamed B.named
  have hlocks := B.notSynchronized
  subst hsz
  have hD := hD0.self (sz := s.heap.size)
  generalize hAe : va_A (wD_60 h cs qI_75 fL fA fQ fG fJ) s.heap.size = A0 at hD ⊢
  have hA : ∀ q : Nat, s.heap.size ≤ q → A0 q := fun q h => by rw [← hAe]; exact Or.inr h
  have hl := lv_entry ([.ref (h 105), .int (nI 1), .int (nI 1), .int (nI 0)]) (n := 5) (Nat.le_of_ble_eq_true rfl)
  rw [lg_entry_eq]
  generalize (lg_sl ([.ref (h 105), .int (nI 1), .int (nI 1), .int (nI 0)]) ++ List.replicate (5 - (lg_sl ([.ref (h 105), .int (nI 1), .int (nI 1), .int (nI 0)])).length) Slot.unset).toArray = ls at hl ⊢
  have hl : lv_has ls 5 [(0, .ref (h 105)), (1, .int (nI 1)), (2, .int (nI 1)), (3, .int (nI 0))] := hl
  generalize hH : s.heap = H at hP ⊢
  have hS : va_S A0 s.heap H [] := by rw [← hH]; exact va_S.rf
  have hinX8 : ∀ w ∈ wsX80, w ∈ wsX8_bitOf := by decide +kernel
  have hinX3 : ∀ w ∈ wsX30, w ∈ wsX8_bitOf := by decide +kernel
  refine lv_aload_n hx hb dX8_bitOf_0 rfl (lv_at hl 0 rfl) ?_
  refine lv_iload_n hx hb dX8_bitOf_1 rfl (lv_at hl 1 rfl) ?_
  refine lv_iload_n hx hb dX8_bitOf_2 rfl (lv_at hl 2 rfl) ?_
  refine xj_i (wc := (wD_60 h cs qI_75 fL fA fQ fG fJ)) (wr := ([] : va_W)) hP hD hS hA [0, 1, 2, 3, 4, 5, 6, 7, 8, 9, 10, 11] [] rfl rfl (by decide) (by decide) (va_runV (As := [.int (nI 1), .int (nI 1)]) (rest := []) ⟨hx, hb, hml, hown, hts⟩ (a_X8_indexOf_106 l dC dI h cs H.size qI_75 fL fA fQ fG fJ ) (cwV 2 hts gX8_bitOf_X8_indexOf rfl rfl rfl (by decide +kernel) ⟨Nat.le_of_ble_eq_true rfl, Nat.le_of_ble_eq_true rfl⟩) (xpV (wc := (wD_60 h cs qI_75 fL fA fQ fG fJ)) hP hD hK hN [0, 1, 2, 3, 4, 5, 6, 7, 8, 9, 10, 11] rfl (by decide) 0 (ci := 8) rfl rfl _) rfl rfl hl.1 rfl (lv_room (Nat.le_of_ble_eq_true rfl)) dX8_bitOf_3 ⟨Nat.zero_le _, Nat.zero_le _⟩) (fun r_2 u_1 H locs hw hP hD hS => ?_)
  obtain ⟨hf_3, rfl⟩ := hw
  have hP : va_P (dC, dI) vwCl (wD_60 h cs qI_75 fL fA fQ fG fJ) H := hP
  have hD : va_D A0 (wD_60 h cs qI_75 fL fA fQ fG fJ) := hD
  obtain rfl := hf_3
  refine lv_istore (lv' := [(4, .int (nI 1)), (0, .ref (h 105)), (1, .int (nI 1)), (2, .int (nI 1)), (3, .int (nI 0))]) hx hb dX8_bitOf_6 hl (by decide) rfl (fun ls hl => ?_)
  refine lv_aload_n hx hb dX8_bitOf_8 rfl (lv_at hl 1 rfl) ?_
  refine va_get (D := (dC, dI)) (ci := 8) (v := .ref (h 101)) (C := RX8) (T := TX8) (N := 6) hx hb hts hinX8 hown hK hP 0 rfl rfl 0 (by decide) (hts (.fieldLink RX8 28 "MixedWords$Words" "mix" "LMixedWords$Mix;") (by decide +kernel)) (fun _ h9 => h9) rfl dX8_bitOf_9 ?_
  refine va_get (D := (dC, dI)) (ci := 3) (v := .int (qI_75 122)) (C := RX3) (T := TX3) (N := 6) hx hb hts hinX3 hown hK hP 1 rfl rfl 2 (by decide) (hts (.fieldLink RX8 51 "MixedWords$Mix" "letterCount" "I") (by decide +kernel)) (fun _ h9 => h9) rfl dX8_bitOf_12 ?_
  refine xt_i (y := nI 2) (by decide +kernel) ?_
  refine lv_iconst (v := nI 2) hx hb dX8_bitOf_15 (by decide) ?_
  refine lv_icmp_ne (tgt := 22) hx hb dX8_bitOf_16 (by decide) (fun c9 => False.elim (by revert c9; decide +kernel)) (fun _ => ?_)
  refine lv_iload hx hb dX8_bitOf_19 (lv_at hl 0 rfl) ?_
  exact xr_i (v := (nI 1)) hx hb hr hlocks hK hS dX8_bitOf_21 (qI_75, fL, fA, fQ, fG, fJ) ⟨rfl, rfl⟩ hP hD
set_option maxHeartbeats 4000000 in
set_option maxRecDepth 100000 in
theorem a_X8_indexOf_108 (l : Launch) (dC : Nat → ClassId) (dI : Nat → Nat → Nat) (h : Nat → Nat) (cs : Nat → ClassId) (sz : Nat) (I : Nat → Int32) (L : Nat → Int64) (A : Nat → Nat → Int32) (Q : Nat → Nat → Int64) (G : Nat → Nat → Nat → Int32) (J : Nat → Nat → Nat → Int64) : Met l yX8_indexOf wsX8_indexOf ({ frames := 1, cells := 0, slots := 0, locals := 20 }) (va_Pc [.ref (h 105), .int (nI 2), .int (nI 1)] (xPre (dC, dI) (wD_60 h cs qI_75 fL fA fQ fG fJ) (tysA cs) sz)) (va_Qi (fun (r : Int32) (u : CS) => (r = nI 0) ∧ u = (qI_75, fL, fA, fQ, fG, fJ)) (xB (dC, dI) (tysA cs) (va_A (wD_60 h cs qI_75 fL fA fQ fG fJ) sz) (fun u : CS => wD_60 h cs u.1 u.2.1 u.2.2.1 u.2.2.2.1 u.2.2.2.2.1 u.2.2.2.2.2)) (va_A (wD_60 h cs qI_75 fL fA fQ fG fJ) sz)) 0 0 (va_A (wD_60 h cs qI_75 fL fA fQ fG fJ) sz) := by
  refine Met.ofW (cc := cX8_indexOf) (maxL := 3) (ret := (some .int)) (by decide) rfl ?_
  intro p e s m args below meth c s₁ B hml hv
  obtain ⟨rfl, hsz, hP, hK, hD0, hN⟩ := hv
  have hx := B.exec
  have hb := B.bytes
  have hr := B.returns
  have hts := atoms_spec (ws := wsX8_indexOf) B.pre
  have hown : s.vm.findClass RX8 = some m.cls := findClass_of_methodNamed B.named
  have hlocks := B.notSynchronized
  subst hsz
  have hD := hD0.self (sz := s.heap.size)
  generalize hAe : va_A (wD_60 h cs qI_75 fL fA fQ fG fJ) s.heap.size = A0 at hD ⊢
  have hA : ∀ q : Nat, s.heap.size ≤ q → A0 q := fun q h => by rw [← hAe]; exact Or.inr h
  have hl := lv_entry ([.ref (h 105), .int (nI 2), .int (nI 1)]) (n := 3) (Nat.le_of_ble_eq_true rfl)
  rw [lg_entry_eq]
  generalize (lg_sl ([.ref (h 105), .int (nI 2), .int (nI 1)]) ++ List.replicate (3 - (lg_sl ([.ref (h 105), .int (nI 2), .int (nI 1)])).length) Slot.unset).toArray = ls at hl ⊢
  have hl : lv_has ls 3 [(0, .ref (h 105)), (1, .int (nI 2)), (2, .int (nI 1))] := hl
  generalize hH : s.heap = H at hP ⊢
  have hS : va_S A0 s.heap H [] := by rw [← hH]; exact va_S.rf
  have hinX8 : ∀ w ∈ wsX80, w ∈ wsX8_indexOf := by decide +kernel
  have hinX3 : ∀ w ∈ wsX30, w ∈ wsX8_indexOf := by decide +kernel
  refine lv_iload_n hx hb dX8_indexOf_0 rfl (lv_at hl 1 rfl) ?_
  refine lv_aload_n hx hb dX8_indexOf_1 rfl (lv_at hl 0 rfl) ?_
  refine va_get (D := (dC, dI)) (ci := 8) (v := .ref (h 101)) (C := RX8) (T := TX8) (N := 6) hx hb hts hinX8 hown hK hP 0 rfl rfl 0 (by decide) (hts (.fieldLink RX8 28 "MixedWords$Words" "mix" "LMixedWords$Mix;") (by decide +kernel)) (fun _ h9 => h9) rfl dX8_indexOf_2 ?_
  refine xj_i (wc := (wD_32 h cs qI_75 fL fA fQ fG fJ)) (wr := [(h 105, .inr (8, [.ref (h 101), .ref (h 170), .ref (h 171), .ref (h 172), .int (qI_75 173), .int (qI_75 174)])), (h 170, .inl (cs 0, 256, .inl (fA 170))), (h 171, .inl (cs 0, 256, .inl (fA 171))), (h 172, .inl (cs 0, 256, .inl (fA 172)))]) hP hD hS hA [1, 2, 3, 4, 5, 6, 7, 8] [0, 9, 10, 11] rfl rfl (by decide) (by decide) (va_runV (As := []) (rest := [.int (nI 2)]) ⟨hx, hb, hml, hown, hts⟩ (a_X3_bitsOfLetter_78 l dC dI h cs H.size qI_75 fL fA fQ fG fJ ) (cwV 0 hts gX8_indexOf_X3_bitsOfLetter rfl rfl rfl (by decide +kernel) ⟨Nat.le_of_ble_eq_true rfl, Nat.le_of_ble_eq_true rfl⟩) (xpV (wc := (wD_32 h cs qI_75 fL fA fQ fG fJ)) hP hD hK hN [1, 2, 3, 4, 5, 6, 7, 8] rfl (by decide) 1 (ci := 3) rfl rfl _) rfl rfl hl.1 rfl (lv_room (Nat.le_of_ble_eq_true rfl)) dX8_indexOf_5 ⟨Nat.zero_le _, Nat.zero_le _⟩) (fun r_2 u_1 H locs hw hP hD hS => ?_)
  obtain ⟨hf_3, rfl⟩ := hw
  have hP : va_P (dC, dI) vwCl (wD_60 h cs qI_75 fL fA fQ fG fJ) H := xP_sub hP [0, 4, 5, 6, 7, 8, 9, 10, 11, 1, 2, 3] rfl
  have hD : va_D A0 (wD_60 h cs qI_75 fL fA fQ fG fJ) := hD.sub [0, 4, 5, 6, 7, 8, 9, 10, 11, 1, 2, 3] (by decide) rfl
  obtain rfl := hf_3
  refine lv_aload_n hx hb dX8_indexOf_8 rfl (lv_at hl 0 rfl) ?_
  refine va_get (D := (dC, dI)) (ci := 8) (v := .ref (h 101)) (C := RX8) (T := TX8) (N := 6) hx hb hts hinX8 hown hK hP 0 rfl rfl 0 (by decide) (hts (.fieldLink RX8 28 "MixedWords$Words" "mix" "LMixedWords$Mix;") (by decide +kernel)) (fun _ h9 => h9) rfl dX8_indexOf_9 ?_
  refine va_get (D := (dC, dI)) (ci := 3) (v := .int (qI_75 121)) (C := RX3) (T := TX3) (N := 6) hx hb hts hinX3 hown hK hP 1 rfl rfl 1 (by decide) (hts (.fieldLink RX8 40 "MixedWords$Mix" "width" "I") (by decide +kernel)) (fun _ h9 => h9) rfl dX8_indexOf_12 ?_
  refine xt_i (y := nI 2) (by decide +kernel) ?_
  refine lv_iconst (v := nI 1) hx hb dX8_indexOf_15 (by decide) ?_
  refine lv_isub hx hb dX8_indexOf_16 ?_
  refine xt_i (y := nI 1) (by decide +kernel) ?_
  refine lv_iload_n hx hb dX8_indexOf_17 rfl (lv_at hl 2 rfl) ?_
  refine lv_isub hx hb dX8_indexOf_18 ?_
  refine xt_i (y := nI 0) (by decide +kernel) ?_
  refine lv_imul hx hb dX8_indexOf_19 ?_
  refine xt_i (y := nI 0) (by decide +kernel) ?_
  refine lv_ishr hx hb dX8_indexOf_20 ?_
  refine xt_i (y := nI 2) (by decide +kernel) ?_
  refine lv_aload_n hx hb dX8_indexOf_21 rfl (lv_at hl 0 rfl) ?_
  refine va_get (D := (dC, dI)) (ci := 8) (v := .ref (h 101)) (C := RX8) (T := TX8) (N := 6) hx hb hts hinX8 hown hK hP 0 rfl rfl 0 (by decide) (hts (.fieldLink RX8 28 "MixedWords$Words" "mix" "LMixedWords$Mix;") (by decide +kernel)) (fun _ h9 => h9) rfl dX8_indexOf_22 ?_
  refine va_get (D := (dC, dI)) (ci := 3) (v := .int (qI_75 122)) (C := RX3) (T := TX3) (N := 6) hx hb hts hinX3 hown hK hP 1 rfl rfl 2 (by decide) (hts (.fieldLink RX8 51 "MixedWords$Mix" "letterCount" "I") (by decide +kernel)) (fun _ h9 => h9) rfl dX8_indexOf_25 ?_
  refine xt_i (y := nI 2) (by decide +kernel) ?_
  refine lv_iconst (v := nI 1) hx hb dX8_indexOf_28 (by decide) ?_
  refine lv_isub hx hb dX8_indexOf_29 ?_
  refine xt_i (y := nI 1) (by decide +kernel) ?_
  refine lv_iand hx hb dX8_indexOf_30 ?_
  refine xt_i (y := nI 0) (by decide +kernel) ?_
  exact xr_i (v := (nI 0)) hx hb hr hlocks hK hS dX8_indexOf_31 (qI_75, fL, fA, fQ, fG, fJ) ⟨rfl, rfl⟩ hP hD
set_option maxHeartbeats 4000000 in
set_option maxRecDepth 100000 in
theorem a_X8_bitOf_107 (l : Launch) (dC : Nat → ClassId) (dI : Nat → Nat → Nat) (h : Nat → Nat) (cs : Nat → ClassId) (sz : Nat) (I : Nat → Int32) (L : Nat → Int64) (A : Nat → Nat → Int32) (Q : Nat → Nat → Int64) (G : Nat → Nat → Nat → Int32) (J : Nat → Nat → Nat → Int64) : Met l yX8_bitOf wsX8_bitOf ({ frames := 2, cells := 0, slots := 0, locals := 42 }) (va_Pc [.ref (h 105), .int (nI 2), .int (nI 1), .int (nI 0)] (xPre (dC, dI) (wD_60 h cs qI_75 fL fA fQ fG fJ) (tysA cs) sz)) (va_Qi (fun (r : Int32) (u : CS) => (r = nI 0) ∧ u = (qI_75, fL, fA, fQ, fG, fJ)) (xB (dC, dI) (tysA cs) (va_A (wD_60 h cs qI_75 fL fA fQ fG fJ) sz) (fun u : CS => wD_60 h cs u.1 u.2.1 u.2.2.1 u.2.2.2.1 u.2.2.2.2.1 u.2.2.2.2.2)) (va_A (wD_60 h cs qI_75 fL fA fQ fG fJ) sz)) 0 0 (va_A (wD_60 h cs qI_75 fL fA fQ fG fJ) sz) := by
  refine Met.ofW (cc := cX8_bitOf) (maxL := 5) (ret := (some .int)) (by decide) rfl ?_
  intro p e s m args below meth c s₁ B hml hv
  obtain ⟨rfl, hsz, hP, hK, hD0, hN⟩ := hv
  have hx := B.exec
  have hb := B.bytes
  have hr := B.returns
  have hts := atoms_spec (ws := wsX8_bitOf) B.pre
  have hown : s.vm.findClass RX8 = some m.cls := findClass_of_methodNamed B.named
  have hlocks := B.notSynchronized
  subst hsz
  have hD := hD0.self (sz := s.heap.size)
  generalize hAe : va_A (wD_60 h cs qI_75 fL fA fQ fG fJ) s.heap.size = A0 at hD ⊢
  have hA : ∀ q : Nat, s.heap.size ≤ q → A0 q := fun q h => by rw [← hAe]; exact Or.inr h
  have hl := lv_entry ([.ref (h 105), .int (nI 2), .int (nI 1), .int (nI 0)]) (n := 5) (Nat.le_of_ble_eq_true rfl)
  rw [lg_entry_eq]
  generalize (lg_sl ([.ref (h 105), .int (nI 2), .int (nI 1), .int (nI 0)]) ++ List.replicate (5 - (lg_sl ([.ref (h 105), .int (nI 2), .int (nI 1), .int (nI 0)])).length) Slot.unset).toArray = ls at hl ⊢
  have hl : lv_has ls 5 [(0, .ref (h 105)), (1, .int (nI 2)), (2, .int (nI 1)), (3, .int (nI 0))] := hl
  generalize hH : s.heap = H at hP ⊢
  have hS : va_S A0 s.heap H [] := by rw [← hH]; exact va_S.rf
  have hinX8 : ∀ w ∈ wsX80, w ∈ wsX8_bitOf := by decide +kernel
  have hinX3 : ∀ w ∈ wsX30, w ∈ wsX8_bitOf := by decide +kernel
  refine lv_aload_n hx hb dX8_bitOf_0 rfl (lv_at hl 0 rfl) ?_
  refine lv_iload_n hx hb dX8_bitOf_1 rfl (lv_at hl 1 rfl) ?_
  refine lv_iload_n hx hb dX8_bitOf_2 rfl (lv_at hl 2 rfl) ?_
  refine xj_i (wc := (wD_60 h cs qI_75 fL fA fQ fG fJ)) (wr := ([] : va_W)) hP hD hS hA [0, 1, 2, 3, 4, 5, 6, 7, 8, 9, 10, 11] [] rfl rfl (by decide) (by decide) (va_runV (As := [.int (nI 2), .int (nI 1)]) (rest := []) ⟨hx, hb, hml, hown, hts⟩ (a_X8_indexOf_108 l dC dI h cs H.size qI_75 fL fA fQ fG fJ ) (cwV 2 hts gX8_bitOf_X8_indexOf rfl rfl rfl (by decide +kernel) ⟨Nat.le_of_ble_eq_true rfl, Nat.le_of_ble_eq_true rfl⟩) (xpV (wc := (wD_60 h cs qI_75 fL fA fQ fG fJ)) hP hD hK hN [0, 1, 2, 3, 4, 5, 6, 7, 8, 9, 10, 11] rfl (by decide) 0 (ci := 8) rfl rfl _) rfl rfl hl.1 rfl (lv_room (Nat.le_of_ble_eq_true rfl)) dX8_bitOf_3 ⟨Nat.zero_le _, Nat.zero_le _⟩) (fun r_2 u_1 H locs hw hP hD hS => ?_)
  obtain ⟨hf_3, rfl⟩ := hw
  have hP : va_P (dC, dI) vwCl (wD_60 h cs qI_75 fL fA fQ fG fJ) H := hP
  have hD : va_D A0 (wD_60 h cs qI_75 fL fA fQ fG fJ) := hD
  obtain rfl := hf_3
  refine lv_istore (lv' := [(4, .int (nI 0)), (0, .ref (h 105)), (1, .int (nI 2)), (2, .int (nI 1)), (3, .int (nI 0))]) hx hb dX8_bitOf_6 hl (by decide) rfl (fun ls hl => ?_)
  refine lv_aload_n hx hb dX8_bitOf_8 rfl (lv_at hl 1 rfl) ?_
  refine va_get (D := (dC, dI)) (ci := 8) (v := .ref (h 101)) (C := RX8) (T := TX8) (N := 6) hx hb hts hinX8 hown hK hP 0 rfl rfl 0 (by decide) (hts (.fieldLink RX8 28 "MixedWords$Words" "mix" "LMixedWords$Mix;") (by decide +kernel)) (fun _ h9 => h9) rfl dX8_bitOf_9 ?_
  refine va_get (D := (dC, dI)) (ci := 3) (v := .int (qI_75 122)) (C := RX3) (T := TX3) (N := 6) hx hb hts hinX3 hown hK hP 1 rfl rfl 2 (by decide) (hts (.fieldLink RX8 51 "MixedWords$Mix" "letterCount" "I") (by decide +kernel)) (fun _ h9 => h9) rfl dX8_bitOf_12 ?_
  refine xt_i (y := nI 2) (by decide +kernel) ?_
  refine lv_iconst (v := nI 2) hx hb dX8_bitOf_15 (by decide) ?_
  refine lv_icmp_ne (tgt := 22) hx hb dX8_bitOf_16 (by decide) (fun c9 => False.elim (by revert c9; decide +kernel)) (fun _ => ?_)
  refine lv_iload hx hb dX8_bitOf_19 (lv_at hl 0 rfl) ?_
  exact xr_i (v := (nI 0)) hx hb hr hlocks hK hS dX8_bitOf_21 (qI_75, fL, fA, fQ, fG, fJ) ⟨rfl, rfl⟩ hP hD
set_option maxHeartbeats 4000000 in
set_option maxRecDepth 100000 in
theorem a_X8_indexOf_110 (l : Launch) (dC : Nat → ClassId) (dI : Nat → Nat → Nat) (h : Nat → Nat) (cs : Nat → ClassId) (sz : Nat) (I : Nat → Int32) (L : Nat → Int64) (A : Nat → Nat → Int32) (Q : Nat → Nat → Int64) (G : Nat → Nat → Nat → Int32) (J : Nat → Nat → Nat → Int64) : Met l yX8_indexOf wsX8_indexOf ({ frames := 1, cells := 0, slots := 0, locals := 20 }) (va_Pc [.ref (h 105), .int (nI 3), .int (nI 1)] (xPre (dC, dI) (wD_60 h cs qI_75 fL fA fQ fG fJ) (tysA cs) sz)) (va_Qi (fun (r : Int32) (u : CS) => (r = nI 1) ∧ u = (qI_75, fL, fA, fQ, fG, fJ)) (xB (dC, dI) (tysA cs) (va_A (wD_60 h cs qI_75 fL fA fQ fG fJ) sz) (fun u : CS => wD_60 h cs u.1 u.2.1 u.2.2.1 u.2.2.2.1 u.2.2.2.2.1 u.2.2.2.2.2)) (va_A (wD_60 h cs qI_75 fL fA fQ fG fJ) sz)) 0 0 (va_A (wD_60 h cs qI_75 fL fA fQ fG fJ) sz) := by
  refine Met.ofW (cc := cX8_indexOf) (maxL := 3) (ret := (some .int)) (by decide) rfl ?_
  intro p e s m args below meth c s₁ B hml hv
  obtain ⟨rfl, hsz, hP, hK, hD0, hN⟩ := hv
  have hx := B.exec
  have hb := B.bytes
  have hr := B.returns
  have hts := atoms_spec (ws := wsX8_indexOf) B.pre
  have hown : s.vm.findClass RX8 = some m.cls := findClass_of_methodNamed B.named
  have hlocks := B.notSynchronized
  subst hsz
  have hD := hD0.self (sz := s.heap.size)
  generalize hAe : va_A (wD_60 h cs qI_75 fL fA fQ fG fJ) s.heap.size = A0 at hD ⊢
  have hA : ∀ q : Nat, s.heap.size ≤ q → A0 q := fun q h => by rw [← hAe]; exact Or.inr h
  have hl := lv_entry ([.ref (h 105), .int (nI 3), .int (nI 1)]) (n := 3) (Nat.le_of_ble_eq_true rfl)
  rw [lg_entry_eq]
  generalize (lg_sl ([.ref (h 105), .int (nI 3), .int (nI 1)]) ++ List.replicate (3 - (lg_sl ([.ref (h 105), .int (nI 3), .int (nI 1)])).length) Slot.unset).toArray = ls at hl ⊢
  have hl : lv_has ls 3 [(0, .ref (h 105)), (1, .int (nI 3)), (2, .int (nI 1))] := hl
  generalize hH : s.heap = H at hP ⊢
  have hS : va_S A0 s.heap H [] := by rw [← hH]; exact va_S.rf
  have hinX8 : ∀ w ∈ wsX80, w ∈ wsX8_indexOf := by decide +kernel
  have hinX3 : ∀ w ∈ wsX30, w ∈ wsX8_indexOf := by decide +kernel
  refine lv_iload_n hx hb dX8_indexOf_0 rfl (lv_at hl 1 rfl) ?_
  refine lv_aload_n hx hb dX8_indexOf_1 rfl (lv_at hl 0 rfl) ?_
  refine va_get (D := (dC, dI)) (ci := 8) (v := .ref (h 101)) (C := RX8) (T := TX8) (N := 6) hx hb hts hinX8 hown hK hP 0 rfl rfl 0 (by decide) (hts (.fieldLink RX8 28 "MixedWords$Words" "mix" "LMixedWords$Mix;") (by decide +kernel)) (fun _ h9 => h9) rfl dX8_indexOf_2 ?_
  refine xj_i (wc := (wD_32 h cs qI_75 fL fA fQ fG fJ)) (wr := [(h 105, .inr (8, [.ref (h 101), .ref (h 170), .ref (h 171), .ref (h 172), .int (qI_75 173), .int (qI_75 174)])), (h 170, .inl (cs 0, 256, .inl (fA 170))), (h 171, .inl (cs 0, 256, .inl (fA 171))), (h 172, .inl (cs 0, 256, .inl (fA 172)))]) hP hD hS hA [1, 2, 3, 4, 5, 6, 7, 8] [0, 9, 10, 11] rfl rfl (by decide) (by decide) (va_runV (As := []) (rest := [.int (nI 3)]) ⟨hx, hb, hml, hown, hts⟩ (a_X3_bitsOfLetter_78 l dC dI h cs H.size qI_75 fL fA fQ fG fJ ) (cwV 0 hts gX8_indexOf_X3_bitsOfLetter rfl rfl rfl (by decide +kernel) ⟨Nat.le_of_ble_eq_true rfl, Nat.le_of_ble_eq_true rfl⟩) (xpV (wc := (wD_32 h cs qI_75 fL fA fQ fG fJ)) hP hD hK hN [1, 2, 3, 4, 5, 6, 7, 8] rfl (by decide) 1 (ci := 3) rfl rfl _) rfl rfl hl.1 rfl (lv_room (Nat.le_of_ble_eq_true rfl)) dX8_indexOf_5 ⟨Nat.zero_le _, Nat.zero_le _⟩) (fun r_2 u_1 H locs hw hP hD hS => ?_)
  obtain ⟨hf_3, rfl⟩ := hw
  have hP : va_P (dC, dI) vwCl (wD_60 h cs qI_75 fL fA fQ fG fJ) H := xP_sub hP [0, 4, 5, 6, 7, 8, 9, 10, 11, 1, 2, 3] rfl
  have hD : va_D A0 (wD_60 h cs qI_75 fL fA fQ fG fJ) := hD.sub [0, 4, 5, 6, 7, 8, 9, 10, 11, 1, 2, 3] (by decide) rfl
  obtain rfl := hf_3
  refine lv_aload_n hx hb dX8_indexOf_8 rfl (lv_at hl 0 rfl) ?_
  refine va_get (D := (dC, dI)) (ci := 8) (v := .ref (h 101)) (C := RX8) (T := TX8) (N := 6) hx hb hts hinX8 hown hK hP 0 rfl rfl 0 (by decide) (hts (.fieldLink RX8 28 "MixedWords$Words" "mix" "LMixedWords$Mix;") (by decide +kernel)) (fun _ h9 => h9) rfl dX8_indexOf_9 ?_
  refine va_get (D := (dC, dI)) (ci := 3) (v := .int (qI_75 121)) (C := RX3) (T := TX3) (N := 6) hx hb hts hinX3 hown hK hP 1 rfl rfl 1 (by decide) (hts (.fieldLink RX8 40 "MixedWords$Mix" "width" "I") (by decide +kernel)) (fun _ h9 => h9) rfl dX8_indexOf_12 ?_
  refine xt_i (y := nI 2) (by decide +kernel) ?_
  refine lv_iconst (v := nI 1) hx hb dX8_indexOf_15 (by decide) ?_
  refine lv_isub hx hb dX8_indexOf_16 ?_
  refine xt_i (y := nI 1) (by decide +kernel) ?_
  refine lv_iload_n hx hb dX8_indexOf_17 rfl (lv_at hl 2 rfl) ?_
  refine lv_isub hx hb dX8_indexOf_18 ?_
  refine xt_i (y := nI 0) (by decide +kernel) ?_
  refine lv_imul hx hb dX8_indexOf_19 ?_
  refine xt_i (y := nI 0) (by decide +kernel) ?_
  refine lv_ishr hx hb dX8_indexOf_20 ?_
  refine xt_i (y := nI 3) (by decide +kernel) ?_
  refine lv_aload_n hx hb dX8_indexOf_21 rfl (lv_at hl 0 rfl) ?_
  refine va_get (D := (dC, dI)) (ci := 8) (v := .ref (h 101)) (C := RX8) (T := TX8) (N := 6) hx hb hts hinX8 hown hK hP 0 rfl rfl 0 (by decide) (hts (.fieldLink RX8 28 "MixedWords$Words" "mix" "LMixedWords$Mix;") (by decide +kernel)) (fun _ h9 => h9) rfl dX8_indexOf_22 ?_
  refine va_get (D := (dC, dI)) (ci := 3) (v := .int (qI_75 122)) (C := RX3) (T := TX3) (N := 6) hx hb hts hinX3 hown hK hP 1 rfl rfl 2 (by decide) (hts (.fieldLink RX8 51 "MixedWords$Mix" "letterCount" "I") (by decide +kernel)) (fun _ h9 => h9) rfl dX8_indexOf_25 ?_
  refine xt_i (y := nI 2) (by decide +kernel) ?_
  refine lv_iconst (v := nI 1) hx hb dX8_indexOf_28 (by decide) ?_
  refine lv_isub hx hb dX8_indexOf_29 ?_
  refine xt_i (y := nI 1) (by decide +kernel) ?_
  refine lv_iand hx hb dX8_indexOf_30 ?_
  refine xt_i (y := nI 1) (by decide +kernel) ?_
  exact xr_i (v := (nI 1)) hx hb hr hlocks hK hS dX8_indexOf_31 (qI_75, fL, fA, fQ, fG, fJ) ⟨rfl, rfl⟩ hP hD
set_option maxHeartbeats 4000000 in
set_option maxRecDepth 100000 in
theorem a_X8_bitOf_109 (l : Launch) (dC : Nat → ClassId) (dI : Nat → Nat → Nat) (h : Nat → Nat) (cs : Nat → ClassId) (sz : Nat) (I : Nat → Int32) (L : Nat → Int64) (A : Nat → Nat → Int32) (Q : Nat → Nat → Int64) (G : Nat → Nat → Nat → Int32) (J : Nat → Nat → Nat → Int64) : Met l yX8_bitOf wsX8_bitOf ({ frames := 2, cells := 0, slots := 0, locals := 42 }) (va_Pc [.ref (h 105), .int (nI 3), .int (nI 1), .int (nI 0)] (xPre (dC, dI) (wD_60 h cs qI_75 fL fA fQ fG fJ) (tysA cs) sz)) (va_Qi (fun (r : Int32) (u : CS) => (r = nI 1) ∧ u = (qI_75, fL, fA, fQ, fG, fJ)) (xB (dC, dI) (tysA cs) (va_A (wD_60 h cs qI_75 fL fA fQ fG fJ) sz) (fun u : CS => wD_60 h cs u.1 u.2.1 u.2.2.1 u.2.2.2.1 u.2.2.2.2.1 u.2.2.2.2.2)) (va_A (wD_60 h cs qI_75 fL fA fQ fG fJ) sz)) 0 0 (va_A (wD_60 h cs qI_75 fL fA fQ fG fJ) sz) := by
  refine Met.ofW (cc := cX8_bitOf) (maxL := 5) (ret := (some .int)) (by decide) rfl ?_
  intro p e s m args below meth c s₁ B hml hv
  obtain ⟨rfl, hsz, hP, hK, hD0, hN⟩ := hv
  have hx := B.exec
  have hb := B.bytes
  have hr := B.returns
  have hts := atoms_spec (ws := wsX8_bitOf) B.pre
  have hown : s.vm.findClass RX8 = some m.cls := findClass_of_methodNamed B.named
  have hlocks := B.notSynchronized
  subst hsz
  have hD := hD0.self (sz := s.heap.size)
  generalize hAe : va_A (wD_60 h cs qI_75 fL fA fQ fG fJ) s.heap.size = A0 at hD ⊢
  have hA : ∀ q : Nat, s.heap.size ≤ q → A0 q := fun q h => by rw [← hAe]; exact Or.inr h
  have hl := lv_entry ([.ref (h 105), .int (nI 3), .int (nI 1), .int (nI 0)]) (n := 5) (Nat.le_of_ble_eq_true rfl)
  rw [lg_entry_eq]
  generalize (lg_sl ([.ref (h 105), .int (nI 3), .int (nI 1), .int (nI 0)]) ++ List.replicate (5 - (lg_sl ([.ref (h 105), .int (nI 3), .int (nI 1), .int (nI 0)])).length) Slot.unset).toArray = ls at hl ⊢
  have hl : lv_has ls 5 [(0, .ref (h 105)), (1, .int (nI 3)), (2, .int (nI 1)), (3, .int (nI 0))] := hl
  generalize hH : s.heap = H at hP ⊢
  have hS : va_S A0 s.heap H [] := by rw [← hH]; exact va_S.rf
  have hinX8 : ∀ w ∈ wsX80, w ∈ wsX8_bitOf := by decide +kernel
  have hinX3 : ∀ w ∈ wsX30, w ∈ wsX8_bitOf := by decide +kernel
  refine lv_aload_n hx hb dX8_bitOf_0 rfl (lv_at hl 0 rfl) ?_
  refine lv_iload_n hx hb dX8_bitOf_1 rfl (lv_at hl 1 rfl) ?_
  refine lv_iload_n hx hb dX8_bitOf_2 rfl (lv_at hl 2 rfl) ?_
  refine xj_i (wc := (wD_60 h cs qI_75 fL fA fQ fG fJ)) (wr := ([] : va_W)) hP hD hS hA [0, 1, 2, 3, 4, 5, 6, 7, 8, 9, 10, 11] [] rfl rfl (by decide) (by decide) (va_runV (As := [.int (nI 3), .int (nI 1)]) (rest := []) ⟨hx, hb, hml, hown, hts⟩ (a_X8_indexOf_110 l dC dI h cs H.size qI_75 fL fA fQ fG fJ ) (cwV 2 hts gX8_bitOf_X8_indexOf rfl rfl rfl (by decide +kernel) ⟨Nat.le_of_ble_eq_true rfl, Nat.le_of_ble_eq_true rfl⟩) (xpV (wc := (wD_60 h cs qI_75 fL fA fQ fG fJ)) hP hD hK hN [0, 1, 2, 3, 4, 5, 6, 7, 8, 9, 10, 11] rfl (by decide) 0 (ci := 8) rfl rfl _) rfl rfl hl.1 rfl (lv_room (Nat.le_of_ble_eq_true rfl)) dX8_bitOf_3 ⟨Nat.zero_le _, Nat.zero_le _⟩) (fun r_2 u_1 H locs hw hP hD hS => ?_)
  obtain ⟨hf_3, rfl⟩ := hw
  have hP : va_P (dC, dI) vwCl (wD_60 h cs qI_75 fL fA fQ fG fJ) H := hP
  have hD : va_D A0 (wD_60 h cs qI_75 fL fA fQ fG fJ) := hD
  obtain rfl := hf_3
  refine lv_istore (lv' := [(4, .int (nI 1)), (0, .ref (h 105)), (1, .int (nI 3)), (2, .int (nI 1)), (3, .int (nI 0))]) hx hb dX8_bitOf_6 hl (by decide) rfl (fun ls hl => ?_)
  refine lv_aload_n hx hb dX8_bitOf_8 rfl (lv_at hl 1 rfl) ?_
  refine va_get (D := (dC, dI)) (ci := 8) (v := .ref (h 101)) (C := RX8) (T := TX8) (N := 6) hx hb hts hinX8 hown hK hP 0 rfl rfl 0 (by decide) (hts (.fieldLink RX8 28 "MixedWords$Words" "mix" "LMixedWords$Mix;") (by decide +kernel)) (fun _ h9 => h9) rfl dX8_bitOf_9 ?_
  refine va_get (D := (dC, dI)) (ci := 3) (v := .int (qI_75 122)) (C := RX3) (T := TX3) (N := 6) hx hb hts hinX3 hown hK hP 1 rfl rfl 2 (by decide) (hts (.fieldLink RX8 51 "MixedWords$Mix" "letterCount" "I") (by decide +kernel)) (fun _ h9 => h9) rfl dX8_bitOf_12 ?_
  refine xt_i (y := nI 2) (by decide +kernel) ?_
  refine lv_iconst (v := nI 2) hx hb dX8_bitOf_15 (by decide) ?_
  refine lv_icmp_ne (tgt := 22) hx hb dX8_bitOf_16 (by decide) (fun c9 => False.elim (by revert c9; decide +kernel)) (fun _ => ?_)
  refine lv_iload hx hb dX8_bitOf_19 (lv_at hl 0 rfl) ?_
  exact xr_i (v := (nI 1)) hx hb hr hlocks hK hS dX8_bitOf_21 (qI_75, fL, fA, fQ, fG, fJ) ⟨rfl, rfl⟩ hP hD
set_option maxHeartbeats 4000000 in
set_option maxRecDepth 100000 in
theorem a_X8_leastWith_102 (l : Launch) (dC : Nat → ClassId) (dI : Nat → Nat → Nat) (h : Nat → Nat) (cs : Nat → ClassId) (sz : Nat) (I : Nat → Int32) (L : Nat → Int64) (A : Nat → Nat → Int32) (Q : Nat → Nat → Int64) (G : Nat → Nat → Nat → Int32) (J : Nat → Nat → Nat → Int64) : Met l yX8_leastWith wsX8_leastWith ({ frames := 4, cells := 0, slots := 0, locals := 88 }) (va_Pc [.ref (h 105), .int (nI 1), .int (nI 0), .int (nI 1)] (xPre (dC, dI) (wD_60 h cs fI fL fA fQ fG fJ) (tysA cs) sz)) (va_Qi (fun (r : Int32) (u : CS) => (r = nI 0) ∧ u = (qI_75, fL, fA, fQ, fG, fJ)) (xB (dC, dI) (tysA cs) (va_A (wD_60 h cs fI fL fA fQ fG fJ) sz) (fun u : CS => wD_60 h cs u.1 u.2.1 u.2.2.1 u.2.2.2.1 u.2.2.2.2.1 u.2.2.2.2.2)) (va_A (wD_60 h cs fI fL fA fQ fG fJ) sz)) 0 0 (va_A (wD_60 h cs fI fL fA fQ fG fJ) sz) := by
  refine Met.ofW (cc := cX8_leastWith) (maxL := 6) (ret := (some .int)) (by decide) rfl ?_
  intro p e s m args below meth c s₁ B hml hv
  obtain ⟨rfl, hsz, hP, hK, hD0, hN⟩ := hv
  have hx := B.exec
  have hb := B.bytes
  have hr := B.returns
  have hts := atoms_spec (ws := wsX8_leastWith) B.pre
  have hown : s.vm.findClass RX8 = some m.cls := findClass_of_methodNamed B.named
  have hlocks := B.notSynchronized
  subst hsz
  have hD := hD0.self (sz := s.heap.size)
  generalize hAe : va_A (wD_60 h cs fI fL fA fQ fG fJ) s.heap.size = A0 at hD ⊢
  have hA : ∀ q : Nat, s.heap.size ≤ q → A0 q := fun q h => by rw [← hAe]; exact Or.inr h
  have hl := lv_entry ([.ref (h 105), .int (nI 1), .int (nI 0), .int (nI 1)]) (n := 6) (Nat.le_of_ble_eq_true rfl)
  rw [lg_entry_eq]
  generalize (lg_sl ([.ref (h 105), .int (nI 1), .int (nI 0), .int (nI 1)]) ++ List.replicate (6 - (lg_sl ([.ref (h 105), .int (nI 1), .int (nI 0), .int (nI 1)])).length) Slot.unset).toArray = ls at hl ⊢
  have hl : lv_has ls 6 [(0, .ref (h 105)), (1, .int (nI 1)), (2, .int (nI 0)), (3, .int (nI 1))] := hl
  generalize hH : s.heap = H at hP ⊢
  have hS : va_S A0 s.heap H [] := by rw [← hH]; exact va_S.rf
  have hinX8 : ∀ w ∈ wsX80, w ∈ wsX8_leastWith := by decide +kernel
  refine lv_aload_n hx hb dX8_leastWith_0 rfl (lv_at hl 0 rfl) ?_
  refine xj_v (wc := (wD_60 h cs fI fL fA fQ fG fJ)) (wr := ([] : va_W)) hP hD hS hA [0, 1, 2, 3, 4, 5, 6, 7, 8, 9, 10, 11] [] rfl rfl (by decide) (by decide) (va_runV (As := []) (rest := []) ⟨hx, hb, hml, hown, hts⟩ (a_X8_workOutOffs_74 l dC dI h cs H.size fI fL fA fQ fG fJ ) (cwV 0 hts gX8_leastWith_X8_workOutOffs rfl rfl rfl (by decide +kernel) ⟨Nat.le_of_ble_eq_true rfl, Nat.le_of_ble_eq_true rfl⟩) (xpV (wc := (wD_60 h cs fI fL fA fQ fG fJ)) hP hD hK hN [0, 1, 2, 3, 4, 5, 6, 7, 8, 9, 10, 11] rfl (by decide) 0 (ci := 8) rfl rfl _) rfl rfl hl.1 rfl (lv_room (Nat.le_of_ble_eq_true rfl)) dX8_leastWith_1 ⟨Nat.zero_le _, Nat.zero_le _⟩) (fun u_1 H locs hw hP hD hS => ?_)
  obtain ⟨hf_3, rfl⟩ := hw
  have hP : va_P (dC, dI) vwCl (wD_60 h cs qI_75 fL fA fQ fG fJ) H := hP
  have hD : va_D A0 (wD_60 h cs qI_75 fL fA fQ fG fJ) := hD
  refine lv_ldc (v := 10000000) hx hb hown (hts (.constant RX8 61 (10000000)) (by decide +kernel)) dX8_leastWith_4 ?_
  refine xt_i (y := nI 10000000) (rfl) ?_
  refine lv_istore (lv' := [(4, .int (nI 10000000)), (0, .ref (h 105)), (1, .int (nI 1)), (2, .int (nI 0)), (3, .int (nI 1))]) hx hb dX8_leastWith_6 hl (by decide) rfl (fun ls hl => ?_)
  refine lv_iconst (v := nI 0) hx hb dX8_leastWith_8 (by decide) ?_
  refine lv_istore (lv' := [(5, .int (nI 0)), (4, .int (nI 10000000)), (0, .ref (h 105)), (1, .int (nI 1)), (2, .int (nI 0)), (3, .int (nI 1))]) hx hb dX8_leastWith_9 hl (by decide) rfl (fun ls hl => ?_)
  refine lv_iload hx hb dX8_leastWith_11 (lv_at hl 0 rfl) ?_
  refine lv_aload_n hx hb dX8_leastWith_13 rfl (lv_at hl 2 rfl) ?_
  refine va_get (D := (dC, dI)) (ci := 8) (v := .ref (h 101)) (C := RX8) (T := TX8) (N := 6) hx hb hts hinX8 hown hK hP 0 rfl rfl 0 (by decide) (hts (.fieldLink RX8 28 "MixedWords$Words" "mix" "LMixedWords$Mix;") (by decide +kernel)) (fun _ h9 => h9) rfl dX8_leastWith_14 ?_
  refine xj_i (wc := (wD_32 h cs qI_75 fL fA fQ fG fJ)) (wr := [(h 105, .inr (8, [.ref (h 101), .ref (h 170), .ref (h 171), .ref (h 172), .int (qI_75 173), .int (qI_75 174)])), (h 170, .inl (cs 0, 256, .inl (fA 170))), (h 171, .inl (cs 0, 256, .inl (fA 171))), (h 172, .inl (cs 0, 256, .inl (fA 172)))]) hP hD hS hA [1, 2, 3, 4, 5, 6, 7, 8] [0, 9, 10, 11] rfl rfl (by decide) (by decide) (va_runV (As := []) (rest := [.int (nI 0)]) ⟨hx, hb, hml, hown, hts⟩ (a_X3_wordCount_77 l dC dI h cs H.size qI_75 fL fA fQ fG fJ ) (cwV 0 hts gX8_leastWith_X3_wordCount rfl rfl rfl (by decide +kernel) ⟨Nat.le_of_ble_eq_true rfl, Nat.le_of_ble_eq_true rfl⟩) (xpV (wc := (wD_32 h cs qI_75 fL fA fQ fG fJ)) hP hD hK hN [1, 2, 3, 4, 5, 6, 7, 8] rfl (by decide) 1 (ci := 3) rfl rfl _) rfl rfl hl.1 rfl (lv_room (Nat.le_of_ble_eq_true rfl)) dX8_leastWith_17 ⟨Nat.zero_le _, Nat.zero_le _⟩) (fun r_5 u_4 H locs hw hP hD hS => ?_)
  obtain ⟨hf_6, rfl⟩ := hw
  have hP : va_P (dC, dI) vwCl (wD_60 h cs qI_75 fL fA fQ fG fJ) H := xP_sub hP [0, 4, 5, 6, 7, 8, 9, 10, 11, 1, 2, 3] rfl
  have hD : va_D A0 (wD_60 h cs qI_75 fL fA fQ fG fJ) := hD.sub [0, 4, 5, 6, 7, 8, 9, 10, 11, 1, 2, 3] (by decide) rfl
  obtain rfl := hf_6
  refine lv_icmp_ge (tgt := 55) hx hb dX8_leastWith_20 (by decide) (fun c9 => False.elim (by revert c9; decide +kernel)) (fun _ => ?_)
  refine lv_aload_n hx hb dX8_leastWith_23 rfl (lv_at hl 2 rfl) ?_
  refine lv_iload hx hb dX8_leastWith_24 (lv_at hl 0 rfl) ?_
  refine lv_iload_n hx hb dX8_leastWith_26 rfl (lv_at hl 3 rfl) ?_
  refine lv_iload_n hx hb dX8_leastWith_27 rfl (lv_at hl 4 rfl) ?_
  refine xj_i (wc := (wD_60 h cs qI_75 fL fA fQ fG fJ)) (wr := ([] : va_W)) hP hD hS hA [0, 1, 2, 3, 4, 5, 6, 7, 8, 9, 10, 11] [] rfl rfl (by decide) (by decide) (va_runV (As := [.int (nI 0), .int (nI 1), .int (nI 0)]) (rest := []) ⟨hx, hb, hml, hown, hts⟩ (a_X8_bitOf_103 l dC dI h cs H.size qI_75 fL fA fQ fG fJ ) (cwV 3 hts gX8_leastWith_X8_bitOf rfl rfl rfl (by decide +kernel) ⟨Nat.le_of_ble_eq_true rfl, Nat.le_of_ble_eq_true rfl⟩) (xpV (wc := (wD_60 h cs qI_75 fL fA fQ fG fJ)) hP hD hK hN [0, 1, 2, 3, 4, 5, 6, 7, 8, 9, 10, 11] rfl (by decide) 0 (ci := 8) rfl rfl _) rfl rfl hl.1 rfl (lv_room (Nat.le_of_ble_eq_true rfl)) dX8_leastWith_28 ⟨Nat.zero_le _, Nat.zero_le _⟩) (fun r_8 u_7 H locs hw hP hD hS => ?_)
  obtain ⟨hf_9, rfl⟩ := hw
  have hP : va_P (dC, dI) vwCl (wD_60 h cs qI_75 fL fA fQ fG fJ) H := hP
  have hD : va_D A0 (wD_60 h cs qI_75 fL fA fQ fG fJ) := hD
  obtain rfl := hf_9
  refine lv_iload_n hx hb dX8_leastWith_31 rfl (lv_at hl 5 rfl) ?_
  refine lv_icmp_ne (tgt := 49) hx hb dX8_leastWith_32 (by decide) (fun _ => ?_) (fun c9 => False.elim (by revert c9; decide +kernel))
  refine lv_iinc (v := nI 1) (lv' := [(5, .int (nI 1)), (4, .int (nI 10000000)), (0, .ref (h 105)), (1, .int (nI 1)), (2, .int (nI 0)), (3, .int (nI 1))]) hx hb dX8_leastWith_49 hl (k := 0) rfl (by decide +kernel) (by decide) rfl (fun ls hl => ?_)
  refine lv_goto (tgt := 11) hx hb dX8_leastWith_52 (by decide) ?_
  refine lv_iload hx hb dX8_leastWith_11 (lv_at hl 0 rfl) ?_
  refine lv_aload_n hx hb dX8_leastWith_13 rfl (lv_at hl 2 rfl) ?_
  refine va_get (D := (dC, dI)) (ci := 8) (v := .ref (h 101)) (C := RX8) (T := TX8) (N := 6) hx hb hts hinX8 hown hK hP 0 rfl rfl 0 (by decide) (hts (.fieldLink RX8 28 "MixedWords$Words" "mix" "LMixedWords$Mix;") (by decide +kernel)) (fun _ h9 => h9) rfl dX8_leastWith_14 ?_
  refine xj_i (wc := (wD_32 h cs qI_75 fL fA fQ fG fJ)) (wr := [(h 105, .inr (8, [.ref (h 101), .ref (h 170), .ref (h 171), .ref (h 172), .int (qI_75 173), .int (qI_75 174)])), (h 170, .inl (cs 0, 256, .inl (fA 170))), (h 171, .inl (cs 0, 256, .inl (fA 171))), (h 172, .inl (cs 0, 256, .inl (fA 172)))]) hP hD hS hA [1, 2, 3, 4, 5, 6, 7, 8] [0, 9, 10, 11] rfl rfl (by decide) (by decide) (va_runV (As := []) (rest := [.int (nI 1)]) ⟨hx, hb, hml, hown, hts⟩ (a_X3_wordCount_77 l dC dI h cs H.size qI_75 fL fA fQ fG fJ ) (cwV 0 hts gX8_leastWith_X3_wordCount rfl rfl rfl (by decide +kernel) ⟨Nat.le_of_ble_eq_true rfl, Nat.le_of_ble_eq_true rfl⟩) (xpV (wc := (wD_32 h cs qI_75 fL fA fQ fG fJ)) hP hD hK hN [1, 2, 3, 4, 5, 6, 7, 8] rfl (by decide) 1 (ci := 3) rfl rfl _) rfl rfl hl.1 rfl (lv_room (Nat.le_of_ble_eq_true rfl)) dX8_leastWith_17 ⟨Nat.zero_le _, Nat.zero_le _⟩) (fun r_11 u_10 H locs hw hP hD hS => ?_)
  obtain ⟨hf_12, rfl⟩ := hw
  have hP : va_P (dC, dI) vwCl (wD_60 h cs qI_75 fL fA fQ fG fJ) H := xP_sub hP [0, 4, 5, 6, 7, 8, 9, 10, 11, 1, 2, 3] rfl
  have hD : va_D A0 (wD_60 h cs qI_75 fL fA fQ fG fJ) := hD.sub [0, 4, 5, 6, 7, 8, 9, 10, 11, 1, 2, 3] (by decide) rfl
  obtain rfl := hf_12
  refine lv_icmp_ge (tgt := 55) hx hb dX8_leastWith_20 (by decide) (fun c9 => False.elim (by revert c9; decide +kernel)) (fun _ => ?_)
  refine lv_aload_n hx hb dX8_leastWith_23 rfl (lv_at hl 2 rfl) ?_
  refine lv_iload hx hb dX8_leastWith_24 (lv_at hl 0 rfl) ?_
  refine lv_iload_n hx hb dX8_leastWith_26 rfl (lv_at hl 3 rfl) ?_
  refine lv_iload_n hx hb dX8_leastWith_27 rfl (lv_at hl 4 rfl) ?_
  refine xj_i (wc := (wD_60 h cs qI_75 fL fA fQ fG fJ)) (wr := ([] : va_W)) hP hD hS hA [0, 1, 2, 3, 4, 5, 6, 7, 8, 9, 10, 11] [] rfl rfl (by decide) (by decide) (va_runV (As := [.int (nI 1), .int (nI 1), .int (nI 0)]) (rest := []) ⟨hx, hb, hml, hown, hts⟩ (a_X8_bitOf_105 l dC dI h cs H.size qI_75 fL fA fQ fG fJ ) (cwV 3 hts gX8_leastWith_X8_bitOf rfl rfl rfl (by decide +kernel) ⟨Nat.le_of_ble_eq_true rfl, Nat.le_of_ble_eq_true rfl⟩) (xpV (wc := (wD_60 h cs qI_75 fL fA fQ fG fJ)) hP hD hK hN [0, 1, 2, 3, 4, 5, 6, 7, 8, 9, 10, 11] rfl (by decide) 0 (ci := 8) rfl rfl _) rfl rfl hl.1 rfl (lv_room (Nat.le_of_ble_eq_true rfl)) dX8_leastWith_28 ⟨Nat.zero_le _, Nat.zero_le _⟩) (fun r_14 u_13 H locs hw hP hD hS => ?_)
  obtain ⟨hf_15, rfl⟩ := hw
  have hP : va_P (dC, dI) vwCl (wD_60 h cs qI_75 fL fA fQ fG fJ) H := hP
  have hD : va_D A0 (wD_60 h cs qI_75 fL fA fQ fG fJ) := hD
  obtain rfl := hf_15
  refine lv_iload_n hx hb dX8_leastWith_31 rfl (lv_at hl 5 rfl) ?_
  refine lv_icmp_ne (tgt := 49) hx hb dX8_leastWith_32 (by decide) (fun c9 => False.elim (by revert c9; decide +kernel)) (fun _ => ?_)
  refine lv_iload hx hb dX8_leastWith_35 (lv_at hl 1 rfl) ?_
  refine lv_aload_n hx hb dX8_leastWith_37 rfl (lv_at hl 2 rfl) ?_
  refine va_get (D := (dC, dI)) (ci := 8) (v := .ref (h 170)) (C := RX8) (T := TX8) (N := 6) hx hb hts hinX8 hown hK hP 0 rfl rfl 1 (by decide) (hts (.fieldLink RX8 9 "MixedWords$Words" "offs" "[I") (by decide +kernel)) (fun _ h9 => h9) rfl dX8_leastWith_38 ?_
  refine lv_iload hx hb dX8_leastWith_41 (lv_at hl 0 rfl) ?_
  refine xa_iald hx hb hK hP 9 0 rfl rfl (by omega) (by decide) dX8_leastWith_43 ?_
  refine xt_i (y := nI 0) (by decide +kernel) ?_
  refine va_mmin hx hb (hml.trans hl.1.symm) hown (hts (.methodLink RX8 69 Lib.Math.min.name) (by decide +kernel)) (hts (.static Lib.Math.min.name) (by decide +kernel)) (hts (.initialized "java/lang/Math") (by decide +kernel)) (hts (.code Lib.Math.min.name Lib.Math.min.code 2 (some .int)) (by decide +kernel)) (Nat.le_of_ble_eq_true rfl) (Nat.le_of_ble_eq_true rfl) (Nat.zero_le _) (Nat.zero_le _) dX8_leastWith_44 ?_
  refine xt_i (y := nI (min 10000000 0)) (min_nI (by omega) (by omega)) ?_
  refine xt_i (y := nI 0) (by decide +kernel) ?_
  refine lv_istore (lv' := [(4, .int (nI 0)), (5, .int (nI 1)), (0, .ref (h 105)), (1, .int (nI 1)), (2, .int (nI 0)), (3, .int (nI 1))]) hx hb dX8_leastWith_47 hl (by decide) rfl (fun ls hl => ?_)
  refine lv_iinc (v := nI 2) (lv' := [(5, .int (nI 2)), (4, .int (nI 0)), (0, .ref (h 105)), (1, .int (nI 1)), (2, .int (nI 0)), (3, .int (nI 1))]) hx hb dX8_leastWith_49 hl (k := 1) rfl (by decide +kernel) (by decide) rfl (fun ls hl => ?_)
  refine lv_goto (tgt := 11) hx hb dX8_leastWith_52 (by decide) ?_
  refine lv_iload hx hb dX8_leastWith_11 (lv_at hl 0 rfl) ?_
  refine lv_aload_n hx hb dX8_leastWith_13 rfl (lv_at hl 2 rfl) ?_
  refine va_get (D := (dC, dI)) (ci := 8) (v := .ref (h 101)) (C := RX8) (T := TX8) (N := 6) hx hb hts hinX8 hown hK hP 0 rfl rfl 0 (by decide) (hts (.fieldLink RX8 28 "MixedWords$Words" "mix" "LMixedWords$Mix;") (by decide +kernel)) (fun _ h9 => h9) rfl dX8_leastWith_14 ?_
  refine xj_i (wc := (wD_32 h cs qI_75 fL fA fQ fG fJ)) (wr := [(h 105, .inr (8, [.ref (h 101), .ref (h 170), .ref (h 171), .ref (h 172), .int (qI_75 173), .int (qI_75 174)])), (h 170, .inl (cs 0, 256, .inl (fA 170))), (h 171, .inl (cs 0, 256, .inl (fA 171))), (h 172, .inl (cs 0, 256, .inl (fA 172)))]) hP hD hS hA [1, 2, 3, 4, 5, 6, 7, 8] [0, 9, 10, 11] rfl rfl (by decide) (by decide) (va_runV (As := []) (rest := [.int (nI 2)]) ⟨hx, hb, hml, hown, hts⟩ (a_X3_wordCount_77 l dC dI h cs H.size qI_75 fL fA fQ fG fJ ) (cwV 0 hts gX8_leastWith_X3_wordCount rfl rfl rfl (by decide +kernel) ⟨Nat.le_of_ble_eq_true rfl, Nat.le_of_ble_eq_true rfl⟩) (xpV (wc := (wD_32 h cs qI_75 fL fA fQ fG fJ)) hP hD hK hN [1, 2, 3, 4, 5, 6, 7, 8] rfl (by decide) 1 (ci := 3) rfl rfl _) rfl rfl hl.1 rfl (lv_room (Nat.le_of_ble_eq_true rfl)) dX8_leastWith_17 ⟨Nat.zero_le _, Nat.zero_le _⟩) (fun r_17 u_16 H locs hw hP hD hS => ?_)
  obtain ⟨hf_18, rfl⟩ := hw
  have hP : va_P (dC, dI) vwCl (wD_60 h cs qI_75 fL fA fQ fG fJ) H := xP_sub hP [0, 4, 5, 6, 7, 8, 9, 10, 11, 1, 2, 3] rfl
  have hD : va_D A0 (wD_60 h cs qI_75 fL fA fQ fG fJ) := hD.sub [0, 4, 5, 6, 7, 8, 9, 10, 11, 1, 2, 3] (by decide) rfl
  obtain rfl := hf_18
  refine lv_icmp_ge (tgt := 55) hx hb dX8_leastWith_20 (by decide) (fun c9 => False.elim (by revert c9; decide +kernel)) (fun _ => ?_)
  refine lv_aload_n hx hb dX8_leastWith_23 rfl (lv_at hl 2 rfl) ?_
  refine lv_iload hx hb dX8_leastWith_24 (lv_at hl 0 rfl) ?_
  refine lv_iload_n hx hb dX8_leastWith_26 rfl (lv_at hl 3 rfl) ?_
  refine lv_iload_n hx hb dX8_leastWith_27 rfl (lv_at hl 4 rfl) ?_
  refine xj_i (wc := (wD_60 h cs qI_75 fL fA fQ fG fJ)) (wr := ([] : va_W)) hP hD hS hA [0, 1, 2, 3, 4, 5, 6, 7, 8, 9, 10, 11] [] rfl rfl (by decide) (by decide) (va_runV (As := [.int (nI 2), .int (nI 1), .int (nI 0)]) (rest := []) ⟨hx, hb, hml, hown, hts⟩ (a_X8_bitOf_107 l dC dI h cs H.size qI_75 fL fA fQ fG fJ ) (cwV 3 hts gX8_leastWith_X8_bitOf rfl rfl rfl (by decide +kernel) ⟨Nat.le_of_ble_eq_true rfl, Nat.le_of_ble_eq_true rfl⟩) (xpV (wc := (wD_60 h cs qI_75 fL fA fQ fG fJ)) hP hD hK hN [0, 1, 2, 3, 4, 5, 6, 7, 8, 9, 10, 11] rfl (by decide) 0 (ci := 8) rfl rfl _) rfl rfl hl.1 rfl (lv_room (Nat.le_of_ble_eq_true rfl)) dX8_leastWith_28 ⟨Nat.zero_le _, Nat.zero_le _⟩) (fun r_20 u_19 H locs hw hP hD hS => ?_)
  obtain ⟨hf_21, rfl⟩ := hw
  have hP : va_P (dC, dI) vwCl (wD_60 h cs qI_75 fL fA fQ fG fJ) H := hP
  have hD : va_D A0 (wD_60 h cs qI_75 fL fA fQ fG fJ) := hD
  obtain rfl := hf_21
  refine lv_iload_n hx hb dX8_leastWith_31 rfl (lv_at hl 5 rfl) ?_
  refine lv_icmp_ne (tgt := 49) hx hb dX8_leastWith_32 (by decide) (fun _ => ?_) (fun c9 => False.elim (by revert c9; decide +kernel))
  refine lv_iinc (v := nI 3) (lv' := [(5, .int (nI 3)), (4, .int (nI 0)), (0, .ref (h 105)), (1, .int (nI 1)), (2, .int (nI 0)), (3, .int (nI 1))]) hx hb dX8_leastWith_49 hl (k := 0) rfl (by decide +kernel) (by decide) rfl (fun ls hl => ?_)
  refine lv_goto (tgt := 11) hx hb dX8_leastWith_52 (by decide) ?_
  refine lv_iload hx hb dX8_leastWith_11 (lv_at hl 0 rfl) ?_
  refine lv_aload_n hx hb dX8_leastWith_13 rfl (lv_at hl 2 rfl) ?_
  refine va_get (D := (dC, dI)) (ci := 8) (v := .ref (h 101)) (C := RX8) (T := TX8) (N := 6) hx hb hts hinX8 hown hK hP 0 rfl rfl 0 (by decide) (hts (.fieldLink RX8 28 "MixedWords$Words" "mix" "LMixedWords$Mix;") (by decide +kernel)) (fun _ h9 => h9) rfl dX8_leastWith_14 ?_
  refine xj_i (wc := (wD_32 h cs qI_75 fL fA fQ fG fJ)) (wr := [(h 105, .inr (8, [.ref (h 101), .ref (h 170), .ref (h 171), .ref (h 172), .int (qI_75 173), .int (qI_75 174)])), (h 170, .inl (cs 0, 256, .inl (fA 170))), (h 171, .inl (cs 0, 256, .inl (fA 171))), (h 172, .inl (cs 0, 256, .inl (fA 172)))]) hP hD hS hA [1, 2, 3, 4, 5, 6, 7, 8] [0, 9, 10, 11] rfl rfl (by decide) (by decide) (va_runV (As := []) (rest := [.int (nI 3)]) ⟨hx, hb, hml, hown, hts⟩ (a_X3_wordCount_77 l dC dI h cs H.size qI_75 fL fA fQ fG fJ ) (cwV 0 hts gX8_leastWith_X3_wordCount rfl rfl rfl (by decide +kernel) ⟨Nat.le_of_ble_eq_true rfl, Nat.le_of_ble_eq_true rfl⟩) (xpV (wc := (wD_32 h cs qI_75 fL fA fQ fG fJ)) hP hD hK hN [1, 2, 3, 4, 5, 6, 7, 8] rfl (by decide) 1 (ci := 3) rfl rfl _) rfl rfl hl.1 rfl (lv_room (Nat.le_of_ble_eq_true rfl)) dX8_leastWith_17 ⟨Nat.zero_le _, Nat.zero_le _⟩) (fun r_23 u_22 H locs hw hP hD hS => ?_)
  obtain ⟨hf_24, rfl⟩ := hw
  have hP : va_P (dC, dI) vwCl (wD_60 h cs qI_75 fL fA fQ fG fJ) H := xP_sub hP [0, 4, 5, 6, 7, 8, 9, 10, 11, 1, 2, 3] rfl
  have hD : va_D A0 (wD_60 h cs qI_75 fL fA fQ fG fJ) := hD.sub [0, 4, 5, 6, 7, 8, 9, 10, 11, 1, 2, 3] (by decide) rfl
  obtain rfl := hf_24
  refine lv_icmp_ge (tgt := 55) hx hb dX8_leastWith_20 (by decide) (fun c9 => False.elim (by revert c9; decide +kernel)) (fun _ => ?_)
  refine lv_aload_n hx hb dX8_leastWith_23 rfl (lv_at hl 2 rfl) ?_
  refine lv_iload hx hb dX8_leastWith_24 (lv_at hl 0 rfl) ?_
  refine lv_iload_n hx hb dX8_leastWith_26 rfl (lv_at hl 3 rfl) ?_
  refine lv_iload_n hx hb dX8_leastWith_27 rfl (lv_at hl 4 rfl) ?_
  refine xj_i (wc := (wD_60 h cs qI_75 fL fA fQ fG fJ)) (wr := ([] : va_W)) hP hD hS hA [0, 1, 2, 3, 4, 5, 6, 7, 8, 9, 10, 11] [] rfl rfl (by decide) (by decide) (va_runV (As := [.int (nI 3), .int (nI 1), .int (nI 0)]) (rest := []) ⟨hx, hb, hml, hown, hts⟩ (a_X8_bitOf_109 l dC dI h cs H.size qI_75 fL fA fQ fG fJ ) (cwV 3 hts gX8_leastWith_X8_bitOf rfl rfl rfl (by decide +kernel) ⟨Nat.le_of_ble_eq_true rfl, Nat.le_of_ble_eq_true rfl⟩) (xpV (wc := (wD_60 h cs qI_75 fL fA fQ fG fJ)) hP hD hK hN [0, 1, 2, 3, 4, 5, 6, 7, 8, 9, 10, 11] rfl (by decide) 0 (ci := 8) rfl rfl _) rfl rfl hl.1 rfl (lv_room (Nat.le_of_ble_eq_true rfl)) dX8_leastWith_28 ⟨Nat.zero_le _, Nat.zero_le _⟩) (fun r_26 u_25 H locs hw hP hD hS => ?_)
  obtain ⟨hf_27, rfl⟩ := hw
  have hP : va_P (dC, dI) vwCl (wD_60 h cs qI_75 fL fA fQ fG fJ) H := hP
  have hD : va_D A0 (wD_60 h cs qI_75 fL fA fQ fG fJ) := hD
  obtain rfl := hf_27
  refine lv_iload_n hx hb dX8_leastWith_31 rfl (lv_at hl 5 rfl) ?_
  refine lv_icmp_ne (tgt := 49) hx hb dX8_leastWith_32 (by decide) (fun c9 => False.elim (by revert c9; decide +kernel)) (fun _ => ?_)
  refine lv_iload hx hb dX8_leastWith_35 (lv_at hl 1 rfl) ?_
  refine lv_aload_n hx hb dX8_leastWith_37 rfl (lv_at hl 2 rfl) ?_
  refine va_get (D := (dC, dI)) (ci := 8) (v := .ref (h 170)) (C := RX8) (T := TX8) (N := 6) hx hb hts hinX8 hown hK hP 0 rfl rfl 1 (by decide) (hts (.fieldLink RX8 9 "MixedWords$Words" "offs" "[I") (by decide +kernel)) (fun _ h9 => h9) rfl dX8_leastWith_38 ?_
  refine lv_iload hx hb dX8_leastWith_41 (lv_at hl 0 rfl) ?_
  refine xa_iald hx hb hK hP 9 0 rfl rfl (by omega) (by decide) dX8_leastWith_43 ?_
  refine xt_i (y := nI 0) (by decide +kernel) ?_
  refine va_mmin hx hb (hml.trans hl.1.symm) hown (hts (.methodLink RX8 69 Lib.Math.min.name) (by decide +kernel)) (hts (.static Lib.Math.min.name) (by decide +kernel)) (hts (.initialized "java/lang/Math") (by decide +kernel)) (hts (.code Lib.Math.min.name Lib.Math.min.code 2 (some .int)) (by decide +kernel)) (Nat.le_of_ble_eq_true rfl) (Nat.le_of_ble_eq_true rfl) (Nat.zero_le _) (Nat.zero_le _) dX8_leastWith_44 ?_
  refine xt_i (y := nI (min 0 0)) (min_nI (by omega) (by omega)) ?_
  refine xt_i (y := nI 0) (by decide +kernel) ?_
  refine lv_istore (lv' := [(4, .int (nI 0)), (5, .int (nI 3)), (0, .ref (h 105)), (1, .int (nI 1)), (2, .int (nI 0)), (3, .int (nI 1))]) hx hb dX8_leastWith_47 hl (by decide) rfl (fun ls hl => ?_)
  refine lv_iinc (v := nI 4) (lv' := [(5, .int (nI 4)), (4, .int (nI 0)), (0, .ref (h 105)), (1, .int (nI 1)), (2, .int (nI 0)), (3, .int (nI 1))]) hx hb dX8_leastWith_49 hl (k := 1) rfl (by decide +kernel) (by decide) rfl (fun ls hl => ?_)
  refine lv_goto (tgt := 11) hx hb dX8_leastWith_52 (by decide) ?_
  refine lv_iload hx hb dX8_leastWith_11 (lv_at hl 0 rfl) ?_
  refine lv_aload_n hx hb dX8_leastWith_13 rfl (lv_at hl 2 rfl) ?_
  refine va_get (D := (dC, dI)) (ci := 8) (v := .ref (h 101)) (C := RX8) (T := TX8) (N := 6) hx hb hts hinX8 hown hK hP 0 rfl rfl 0 (by decide) (hts (.fieldLink RX8 28 "MixedWords$Words" "mix" "LMixedWords$Mix;") (by decide +kernel)) (fun _ h9 => h9) rfl dX8_leastWith_14 ?_
  refine xj_i (wc := (wD_32 h cs qI_75 fL fA fQ fG fJ)) (wr := [(h 105, .inr (8, [.ref (h 101), .ref (h 170), .ref (h 171), .ref (h 172), .int (qI_75 173), .int (qI_75 174)])), (h 170, .inl (cs 0, 256, .inl (fA 170))), (h 171, .inl (cs 0, 256, .inl (fA 171))), (h 172, .inl (cs 0, 256, .inl (fA 172)))]) hP hD hS hA [1, 2, 3, 4, 5, 6, 7, 8] [0, 9, 10, 11] rfl rfl (by decide) (by decide) (va_runV (As := []) (rest := [.int (nI 4)]) ⟨hx, hb, hml, hown, hts⟩ (a_X3_wordCount_77 l dC dI h cs H.size qI_75 fL fA fQ fG fJ ) (cwV 0 hts gX8_leastWith_X3_wordCount rfl rfl rfl (by decide +kernel) ⟨Nat.le_of_ble_eq_true rfl, Nat.le_of_ble_eq_true rfl⟩) (xpV (wc := (wD_32 h cs qI_75 fL fA fQ fG fJ)) hP hD hK hN [1, 2, 3, 4, 5, 6, 7, 8] rfl (by decide) 1 (ci := 3) rfl rfl _) rfl rfl hl.1 rfl (lv_room (Nat.le_of_ble_eq_true rfl)) dX8_leastWith_17 ⟨Nat.zero_le _, Nat.zero_le _⟩) (fun r_29 u_28 H locs hw hP hD hS => ?_)
  obtain ⟨hf_30, rfl⟩ := hw
  have hP : va_P (dC, dI) vwCl (wD_60 h cs qI_75 fL fA fQ fG fJ) H := xP_sub hP [0, 4, 5, 6, 7, 8, 9, 10, 11, 1, 2, 3] rfl
  have hD : va_D A0 (wD_60 h cs qI_75 fL fA fQ fG fJ) := hD.sub [0, 4, 5, 6, 7, 8, 9, 10, 11, 1, 2, 3] (by decide) rfl
  obtain rfl := hf_30
  refine lv_icmp_ge (tgt := 55) hx hb dX8_leastWith_20 (by decide) (fun _ => ?_) (fun c9 => False.elim (by revert c9; decide +kernel))
  refine lv_iload hx hb dX8_leastWith_55 (lv_at hl 1 rfl) ?_
  exact xr_i (v := (nI 0)) hx hb hr hlocks hK hS dX8_leastWith_57 (qI_75, fL, fA, fQ, fG, fJ) ⟨rfl, rfl⟩ hP hD
set_option maxHeartbeats 4000000 in
set_option maxRecDepth 100000 in
theorem a_X8_leastWith_111 (l : Launch) (dC : Nat → ClassId) (dI : Nat → Nat → Nat) (h : Nat → Nat) (cs : Nat → ClassId) (sz : Nat) (I : Nat → Int32) (L : Nat → Int64) (A : Nat → Nat → Int32) (Q : Nat → Nat → Int64) (G : Nat → Nat → Nat → Int32) (J : Nat → Nat → Nat → Int64) : Met l yX8_leastWith wsX8_leastWith ({ frames := 4, cells := 0, slots := 0, locals := 88 }) (va_Pc [.ref (h 105), .int (nI 1), .int (nI 0), .int (nI 0)] (xPre (dC, dI) (wD_60 h cs qI_75 fL fA fQ fG fJ) (tysA cs) sz)) (va_Qi (fun (r : Int32) (u : CS) => (r = nI 0) ∧ u = (qI_75, fL, fA, fQ, fG, fJ)) (xB (dC, dI) (tysA cs) (va_A (wD_60 h cs qI_75 fL fA fQ fG fJ) sz) (fun u : CS => wD_60 h cs u.1 u.2.1 u.2.2.1 u.2.2.2.1 u.2.2.2.2.1 u.2.2.2.2.2)) (va_A (wD_60 h cs qI_75 fL fA fQ fG fJ) sz)) 0 0 (va_A (wD_60 h cs qI_75 fL fA fQ fG fJ) sz) := by
  refine Met.ofW (cc := cX8_leastWith) (maxL := 6) (ret := (some .int)) (by decide) rfl ?_
  intro p e s m args below meth c s₁ B hml hv
  obtain ⟨rfl, hsz, hP, hK, hD0, hN⟩ := hv
  have hx := B.exec
  have hb := B.bytes
  have hr := B.returns
  have hts := atoms_spec (ws := wsX8_leastWith) B.pre
  have hown : s.vm.findClass RX8 = some m.cls := findClass_of_methodNamed B.named
  have hlocks := B.notSynchronized
  subst hsz
  have hD := hD0.self (sz := s.heap.size)
  generalize hAe : va_A (wD_60 h cs qI_75 fL fA fQ fG fJ) s.heap.size = A0 at hD ⊢
  have hA : ∀ q : Nat, s.heap.size ≤ q → A0 q := fun q h => by rw [← hAe]; exact Or.inr h
  have hl := lv_entry ([.ref (h 105), .int (nI 1), .int (nI 0), .int (nI 0)]) (n := 6) (Nat.le_of_ble_eq_true rfl)
  rw [lg_entry_eq]
  generalize (lg_sl ([.ref (h 105), .int (nI 1), .int (nI 0), .int (nI 0)]) ++ List.replicate (6 - (lg_sl ([.ref (h 105), .int (nI 1), .int (nI 0), .int (nI 0)])).length) Slot.unset).toArray = ls at hl ⊢
  have hl : lv_has ls 6 [(0, .ref (h 105)), (1, .int (nI 1)), (2, .int (nI 0)), (3, .int (nI 0))] := hl
  generalize hH : s.heap = H at hP ⊢
  have hS : va_S A0 s.heap H [] := by rw [← hH]; exact va_S.rf
  have hinX8 : ∀ w ∈ wsX80, w ∈ wsX8_leastWith := by decide +kernel
  refine lv_aload_n hx hb dX8_leastWith_0 rfl (lv_at hl 0 rfl) ?_
  refine xj_v (wc := (wD_60 h cs qI_75 fL fA fQ fG fJ)) (wr := ([] : va_W)) hP hD hS hA [0, 1, 2, 3, 4, 5, 6, 7, 8, 9, 10, 11] [] rfl rfl (by decide) (by decide) (va_runV (As := []) (rest := []) ⟨hx, hb, hml, hown, hts⟩ (a_X8_workOutOffs_100 l dC dI h cs H.size qI_75 fL fA fQ fG fJ ) (cwV 0 hts gX8_leastWith_X8_workOutOffs rfl rfl rfl (by decide +kernel) ⟨Nat.le_of_ble_eq_true rfl, Nat.le_of_ble_eq_true rfl⟩) (xpV (wc := (wD_60 h cs qI_75 fL fA fQ fG fJ)) hP hD hK hN [0, 1, 2, 3, 4, 5, 6, 7, 8, 9, 10, 11] rfl (by decide) 0 (ci := 8) rfl rfl _) rfl rfl hl.1 rfl (lv_room (Nat.le_of_ble_eq_true rfl)) dX8_leastWith_1 ⟨Nat.zero_le _, Nat.zero_le _⟩) (fun u_1 H locs hw hP hD hS => ?_)
  obtain ⟨hf_3, rfl⟩ := hw
  have hP : va_P (dC, dI) vwCl (wD_60 h cs qI_75 fL fA fQ fG fJ) H := hP
  have hD : va_D A0 (wD_60 h cs qI_75 fL fA fQ fG fJ) := hD
  refine lv_ldc (v := 10000000) hx hb hown (hts (.constant RX8 61 (10000000)) (by decide +kernel)) dX8_leastWith_4 ?_
  refine xt_i (y := nI 10000000) (rfl) ?_
  refine lv_istore (lv' := [(4, .int (nI 10000000)), (0, .ref (h 105)), (1, .int (nI 1)), (2, .int (nI 0)), (3, .int (nI 0))]) hx hb dX8_leastWith_6 hl (by decide) rfl (fun ls hl => ?_)
  refine lv_iconst (v := nI 0) hx hb dX8_leastWith_8 (by decide) ?_
  refine lv_istore (lv' := [(5, .int (nI 0)), (4, .int (nI 10000000)), (0, .ref (h 105)), (1, .int (nI 1)), (2, .int (nI 0)), (3, .int (nI 0))]) hx hb dX8_leastWith_9 hl (by decide) rfl (fun ls hl => ?_)
  refine lv_iload hx hb dX8_leastWith_11 (lv_at hl 0 rfl) ?_
  refine lv_aload_n hx hb dX8_leastWith_13 rfl (lv_at hl 2 rfl) ?_
  refine va_get (D := (dC, dI)) (ci := 8) (v := .ref (h 101)) (C := RX8) (T := TX8) (N := 6) hx hb hts hinX8 hown hK hP 0 rfl rfl 0 (by decide) (hts (.fieldLink RX8 28 "MixedWords$Words" "mix" "LMixedWords$Mix;") (by decide +kernel)) (fun _ h9 => h9) rfl dX8_leastWith_14 ?_
  refine xj_i (wc := (wD_32 h cs qI_75 fL fA fQ fG fJ)) (wr := [(h 105, .inr (8, [.ref (h 101), .ref (h 170), .ref (h 171), .ref (h 172), .int (qI_75 173), .int (qI_75 174)])), (h 170, .inl (cs 0, 256, .inl (fA 170))), (h 171, .inl (cs 0, 256, .inl (fA 171))), (h 172, .inl (cs 0, 256, .inl (fA 172)))]) hP hD hS hA [1, 2, 3, 4, 5, 6, 7, 8] [0, 9, 10, 11] rfl rfl (by decide) (by decide) (va_runV (As := []) (rest := [.int (nI 0)]) ⟨hx, hb, hml, hown, hts⟩ (a_X3_wordCount_77 l dC dI h cs H.size qI_75 fL fA fQ fG fJ ) (cwV 0 hts gX8_leastWith_X3_wordCount rfl rfl rfl (by decide +kernel) ⟨Nat.le_of_ble_eq_true rfl, Nat.le_of_ble_eq_true rfl⟩) (xpV (wc := (wD_32 h cs qI_75 fL fA fQ fG fJ)) hP hD hK hN [1, 2, 3, 4, 5, 6, 7, 8] rfl (by decide) 1 (ci := 3) rfl rfl _) rfl rfl hl.1 rfl (lv_room (Nat.le_of_ble_eq_true rfl)) dX8_leastWith_17 ⟨Nat.zero_le _, Nat.zero_le _⟩) (fun r_5 u_4 H locs hw hP hD hS => ?_)
  obtain ⟨hf_6, rfl⟩ := hw
  have hP : va_P (dC, dI) vwCl (wD_60 h cs qI_75 fL fA fQ fG fJ) H := xP_sub hP [0, 4, 5, 6, 7, 8, 9, 10, 11, 1, 2, 3] rfl
  have hD : va_D A0 (wD_60 h cs qI_75 fL fA fQ fG fJ) := hD.sub [0, 4, 5, 6, 7, 8, 9, 10, 11, 1, 2, 3] (by decide) rfl
  obtain rfl := hf_6
  refine lv_icmp_ge (tgt := 55) hx hb dX8_leastWith_20 (by decide) (fun c9 => False.elim (by revert c9; decide +kernel)) (fun _ => ?_)
  refine lv_aload_n hx hb dX8_leastWith_23 rfl (lv_at hl 2 rfl) ?_
  refine lv_iload hx hb dX8_leastWith_24 (lv_at hl 0 rfl) ?_
  refine lv_iload_n hx hb dX8_leastWith_26 rfl (lv_at hl 3 rfl) ?_
  refine lv_iload_n hx hb dX8_leastWith_27 rfl (lv_at hl 4 rfl) ?_
  refine xj_i (wc := (wD_60 h cs qI_75 fL fA fQ fG fJ)) (wr := ([] : va_W)) hP hD hS hA [0, 1, 2, 3, 4, 5, 6, 7, 8, 9, 10, 11] [] rfl rfl (by decide) (by decide) (va_runV (As := [.int (nI 0), .int (nI 1), .int (nI 0)]) (rest := []) ⟨hx, hb, hml, hown, hts⟩ (a_X8_bitOf_103 l dC dI h cs H.size qI_75 fL fA fQ fG fJ ) (cwV 3 hts gX8_leastWith_X8_bitOf rfl rfl rfl (by decide +kernel) ⟨Nat.le_of_ble_eq_true rfl, Nat.le_of_ble_eq_true rfl⟩) (xpV (wc := (wD_60 h cs qI_75 fL fA fQ fG fJ)) hP hD hK hN [0, 1, 2, 3, 4, 5, 6, 7, 8, 9, 10, 11] rfl (by decide) 0 (ci := 8) rfl rfl _) rfl rfl hl.1 rfl (lv_room (Nat.le_of_ble_eq_true rfl)) dX8_leastWith_28 ⟨Nat.zero_le _, Nat.zero_le _⟩) (fun r_8 u_7 H locs hw hP hD hS => ?_)
  obtain ⟨hf_9, rfl⟩ := hw
  have hP : va_P (dC, dI) vwCl (wD_60 h cs qI_75 fL fA fQ fG fJ) H := hP
  have hD : va_D A0 (wD_60 h cs qI_75 fL fA fQ fG fJ) := hD
  obtain rfl := hf_9
  refine lv_iload_n hx hb dX8_leastWith_31 rfl (lv_at hl 5 rfl) ?_
  refine lv_icmp_ne (tgt := 49) hx hb dX8_leastWith_32 (by decide) (fun c9 => False.elim (by revert c9; decide +kernel)) (fun _ => ?_)
  refine lv_iload hx hb dX8_leastWith_35 (lv_at hl 1 rfl) ?_
  refine lv_aload_n hx hb dX8_leastWith_37 rfl (lv_at hl 2 rfl) ?_
  refine va_get (D := (dC, dI)) (ci := 8) (v := .ref (h 170)) (C := RX8) (T := TX8) (N := 6) hx hb hts hinX8 hown hK hP 0 rfl rfl 1 (by decide) (hts (.fieldLink RX8 9 "MixedWords$Words" "offs" "[I") (by decide +kernel)) (fun _ h9 => h9) rfl dX8_leastWith_38 ?_
  refine lv_iload hx hb dX8_leastWith_41 (lv_at hl 0 rfl) ?_
  refine xa_iald hx hb hK hP 9 0 rfl rfl (by omega) (by decide) dX8_leastWith_43 ?_
  refine xt_i (y := nI 0) (by decide +kernel) ?_
  refine va_mmin hx hb (hml.trans hl.1.symm) hown (hts (.methodLink RX8 69 Lib.Math.min.name) (by decide +kernel)) (hts (.static Lib.Math.min.name) (by decide +kernel)) (hts (.initialized "java/lang/Math") (by decide +kernel)) (hts (.code Lib.Math.min.name Lib.Math.min.code 2 (some .int)) (by decide +kernel)) (Nat.le_of_ble_eq_true rfl) (Nat.le_of_ble_eq_true rfl) (Nat.zero_le _) (Nat.zero_le _) dX8_leastWith_44 ?_
  refine xt_i (y := nI (min 10000000 0)) (min_nI (by omega) (by omega)) ?_
  refine xt_i (y := nI 0) (by decide +kernel) ?_
  refine lv_istore (lv' := [(4, .int (nI 0)), (5, .int (nI 0)), (0, .ref (h 105)), (1, .int (nI 1)), (2, .int (nI 0)), (3, .int (nI 0))]) hx hb dX8_leastWith_47 hl (by decide) rfl (fun ls hl => ?_)
  refine lv_iinc (v := nI 1) (lv' := [(5, .int (nI 1)), (4, .int (nI 0)), (0, .ref (h 105)), (1, .int (nI 1)), (2, .int (nI 0)), (3, .int (nI 0))]) hx hb dX8_leastWith_49 hl (k := 1) rfl (by decide +kernel) (by decide) rfl (fun ls hl => ?_)
  refine lv_goto (tgt := 11) hx hb dX8_leastWith_52 (by decide) ?_
  refine lv_iload hx hb dX8_leastWith_11 (lv_at hl 0 rfl) ?_
  refine lv_aload_n hx hb dX8_leastWith_13 rfl (lv_at hl 2 rfl) ?_
  refine va_get (D := (dC, dI)) (ci := 8) (v := .ref (h 101)) (C := RX8) (T := TX8) (N := 6) hx hb hts hinX8 hown hK hP 0 rfl rfl 0 (by decide) (hts (.fieldLink RX8 28 "MixedWords$Words" "mix" "LMixedWords$Mix;") (by decide +kernel)) (fun _ h9 => h9) rfl dX8_leastWith_14 ?_
  refine xj_i (wc := (wD_32 h cs qI_75 fL fA fQ fG fJ)) (wr := [(h 105, .inr (8, [.ref (h 101), .ref (h 170), .ref (h 171), .ref (h 172), .int (qI_75 173), .int (qI_75 174)])), (h 170, .inl (cs 0, 256, .inl (fA 170))), (h 171, .inl (cs 0, 256, .inl (fA 171))), (h 172, .inl (cs 0, 256, .inl (fA 172)))]) hP hD hS hA [1, 2, 3, 4, 5, 6, 7, 8] [0, 9, 10, 11] rfl rfl (by decide) (by decide) (va_runV (As := []) (rest := [.int (nI 1)]) ⟨hx, hb, hml, hown, hts⟩ (a_X3_wordCount_77 l dC dI h cs H.size qI_75 fL fA fQ fG fJ ) (cwV 0 hts gX8_leastWith_X3_wordCount rfl rfl rfl (by decide +kernel) ⟨Nat.le_of_ble_eq_true rfl, Nat.le_of_ble_eq_true rfl⟩) (xpV (wc := (wD_32 h cs qI_75 fL fA fQ fG fJ)) hP hD hK hN [1, 2, 3, 4, 5, 6, 7, 8] rfl (by decide) 1 (ci := 3) rfl rfl _) rfl rfl hl.1 rfl (lv_room (Nat.le_of_ble_eq_true rfl)) dX8_leastWith_17 ⟨Nat.zero_le _, Nat.zero_le _⟩) (fun r_11 u_10 H locs hw hP hD hS => ?_)
  obtain ⟨hf_12, rfl⟩ := hw
  have hP : va_P (dC, dI) vwCl (wD_60 h cs qI_75 fL fA fQ fG fJ) H := xP_sub hP [0, 4, 5, 6, 7, 8, 9, 10, 11, 1, 2, 3] rfl
  have hD : va_D A0 (wD_60 h cs qI_75 fL fA fQ fG fJ) := hD.sub [0, 4, 5, 6, 7, 8, 9, 10, 11, 1, 2, 3] (by decide) rfl
  obtain rfl := hf_12
  refine lv_icmp_ge (tgt := 55) hx hb dX8_leastWith_20 (by decide) (fun c9 => False.elim (by revert c9; decide +kernel)) (fun _ => ?_)
  refine lv_aload_n hx hb dX8_leastWith_23 rfl (lv_at hl 2 rfl) ?_
  refine lv_iload hx hb dX8_leastWith_24 (lv_at hl 0 rfl) ?_
  refine lv_iload_n hx hb dX8_leastWith_26 rfl (lv_at hl 3 rfl) ?_
  refine lv_iload_n hx hb dX8_leastWith_27 rfl (lv_at hl 4 rfl) ?_
  refine xj_i (wc := (wD_60 h cs qI_75 fL fA fQ fG fJ)) (wr := ([] : va_W)) hP hD hS hA [0, 1, 2, 3, 4, 5, 6, 7, 8, 9, 10, 11] [] rfl rfl (by decide) (by decide) (va_runV (As := [.int (nI 1), .int (nI 1), .int (nI 0)]) (rest := []) ⟨hx, hb, hml, hown, hts⟩ (a_X8_bitOf_105 l dC dI h cs H.size qI_75 fL fA fQ fG fJ ) (cwV 3 hts gX8_leastWith_X8_bitOf rfl rfl rfl (by decide +kernel) ⟨Nat.le_of_ble_eq_true rfl, Nat.le_of_ble_eq_true rfl⟩) (xpV (wc := (wD_60 h cs qI_75 fL fA fQ fG fJ)) hP hD hK hN [0, 1, 2, 3, 4, 5, 6, 7, 8, 9, 10, 11] rfl (by decide) 0 (ci := 8) rfl rfl _) rfl rfl hl.1 rfl (lv_room (Nat.le_of_ble_eq_true rfl)) dX8_leastWith_28 ⟨Nat.zero_le _, Nat.zero_le _⟩) (fun r_14 u_13 H locs hw hP hD hS => ?_)
  obtain ⟨hf_15, rfl⟩ := hw
  have hP : va_P (dC, dI) vwCl (wD_60 h cs qI_75 fL fA fQ fG fJ) H := hP
  have hD : va_D A0 (wD_60 h cs qI_75 fL fA fQ fG fJ) := hD
  obtain rfl := hf_15
  refine lv_iload_n hx hb dX8_leastWith_31 rfl (lv_at hl 5 rfl) ?_
  refine lv_icmp_ne (tgt := 49) hx hb dX8_leastWith_32 (by decide) (fun _ => ?_) (fun c9 => False.elim (by revert c9; decide +kernel))
  refine lv_iinc (v := nI 2) (lv' := [(5, .int (nI 2)), (4, .int (nI 0)), (0, .ref (h 105)), (1, .int (nI 1)), (2, .int (nI 0)), (3, .int (nI 0))]) hx hb dX8_leastWith_49 hl (k := 0) rfl (by decide +kernel) (by decide) rfl (fun ls hl => ?_)
  refine lv_goto (tgt := 11) hx hb dX8_leastWith_52 (by decide) ?_
  refine lv_iload hx hb dX8_leastWith_11 (lv_at hl 0 rfl) ?_
  refine lv_aload_n hx hb dX8_leastWith_13 rfl (lv_at hl 2 rfl) ?_
  refine va_get (D := (dC, dI)) (ci := 8) (v := .ref (h 101)) (C := RX8) (T := TX8) (N := 6) hx hb hts hinX8 hown hK hP 0 rfl rfl 0 (by decide) (hts (.fieldLink RX8 28 "MixedWords$Words" "mix" "LMixedWords$Mix;") (by decide +kernel)) (fun _ h9 => h9) rfl dX8_leastWith_14 ?_
  refine xj_i (wc := (wD_32 h cs qI_75 fL fA fQ fG fJ)) (wr := [(h 105, .inr (8, [.ref (h 101), .ref (h 170), .ref (h 171), .ref (h 172), .int (qI_75 173), .int (qI_75 174)])), (h 170, .inl (cs 0, 256, .inl (fA 170))), (h 171, .inl (cs 0, 256, .inl (fA 171))), (h 172, .inl (cs 0, 256, .inl (fA 172)))]) hP hD hS hA [1, 2, 3, 4, 5, 6, 7, 8] [0, 9, 10, 11] rfl rfl (by decide) (by decide) (va_runV (As := []) (rest := [.int (nI 2)]) ⟨hx, hb, hml, hown, hts⟩ (a_X3_wordCount_77 l dC dI h cs H.size qI_75 fL fA fQ fG fJ ) (cwV 0 hts gX8_leastWith_X3_wordCount rfl rfl rfl (by decide +kernel) ⟨Nat.le_of_ble_eq_true rfl, Nat.le_of_ble_eq_true rfl⟩) (xpV (wc := (wD_32 h cs qI_75 fL fA fQ fG fJ)) hP hD hK hN [1, 2, 3, 4, 5, 6, 7, 8] rfl (by decide) 1 (ci := 3) rfl rfl _) rfl rfl hl.1 rfl (lv_room (Nat.le_of_ble_eq_true rfl)) dX8_leastWith_17 ⟨Nat.zero_le _, Nat.zero_le _⟩) (fun r_17 u_16 H locs hw hP hD hS => ?_)
  obtain ⟨hf_18, rfl⟩ := hw
  have hP : va_P (dC, dI) vwCl (wD_60 h cs qI_75 fL fA fQ fG fJ) H := xP_sub hP [0, 4, 5, 6, 7, 8, 9, 10, 11, 1, 2, 3] rfl
  have hD : va_D A0 (wD_60 h cs qI_75 fL fA fQ fG fJ) := hD.sub [0, 4, 5, 6, 7, 8, 9, 10, 11, 1, 2, 3] (by decide) rfl
  obtain rfl := hf_18
  refine lv_icmp_ge (tgt := 55) hx hb dX8_leastWith_20 (by decide) (fun c9 => False.elim (by revert c9; decide +kernel)) (fun _ => ?_)
  refine lv_aload_n hx hb dX8_leastWith_23 rfl (lv_at hl 2 rfl) ?_
  refine lv_iload hx hb dX8_leastWith_24 (lv_at hl 0 rfl) ?_
  refine lv_iload_n hx hb dX8_leastWith_26 rfl (lv_at hl 3 rfl) ?_
  refine lv_iload_n hx hb dX8_leastWith_27 rfl (lv_at hl 4 rfl) ?_
  refine xj_i (wc := (wD_60 h cs qI_75 fL fA fQ fG fJ)) (wr := ([] : va_W)) hP hD hS hA [0, 1, 2, 3, 4, 5, 6, 7, 8, 9, 10, 11] [] rfl rfl (by decide) (by decide) (va_runV (As := [.int (nI 2), .int (nI 1), .int (nI 0)]) (rest := []) ⟨hx, hb, hml, hown, hts⟩ (a_X8_bitOf_107 l dC dI h cs H.size qI_75 fL fA fQ fG fJ ) (cwV 3 hts gX8_leastWith_X8_bitOf rfl rfl rfl (by decide +kernel) ⟨Nat.le_of_ble_eq_true rfl, Nat.le_of_ble_eq_true rfl⟩) (xpV (wc := (wD_60 h cs qI_75 fL fA fQ fG fJ)) hP hD hK hN [0, 1, 2, 3, 4, 5, 6, 7, 8, 9, 10, 11] rfl (by decide) 0 (ci := 8) rfl rfl _) rfl rfl hl.1 rfl (lv_room (Nat.le_of_ble_eq_true rfl)) dX8_leastWith_28 ⟨Nat.zero_le _, Nat.zero_le _⟩) (fun r_20 u_19 H locs hw hP hD hS => ?_)
  obtain ⟨hf_21, rfl⟩ := hw
  have hP : va_P (dC, dI) vwCl (wD_60 h cs qI_75 fL fA fQ fG fJ) H := hP
  have hD : va_D A0 (wD_60 h cs qI_75 fL fA fQ fG fJ) := hD
  obtain rfl := hf_21
  refine lv_iload_n hx hb dX8_leastWith_31 rfl (lv_at hl 5 rfl) ?_
  refine lv_icmp_ne (tgt := 49) hx hb dX8_leastWith_32 (by decide) (fun c9 => False.elim (by revert c9; decide +kernel)) (fun _ => ?_)
  refine lv_iload hx hb dX8_leastWith_35 (lv_at hl 1 rfl) ?_
  refine lv_aload_n hx hb dX8_leastWith_37 rfl (lv_at hl 2 rfl) ?_
  refine va_get (D := (dC, dI)) (ci := 8) (v := .ref (h 170)) (C := RX8) (T := TX8) (N := 6) hx hb hts hinX8 hown hK hP 0 rfl rfl 1 (by decide) (hts (.fieldLink RX8 9 "MixedWords$Words" "offs" "[I") (by decide +kernel)) (fun _ h9 => h9) rfl dX8_leastWith_38 ?_
  refine lv_iload hx hb dX8_leastWith_41 (lv_at hl 0 rfl) ?_
  refine xa_iald hx hb hK hP 9 0 rfl rfl (by omega) (by decide) dX8_leastWith_43 ?_
  refine xt_i (y := nI 0) (by decide +kernel) ?_
  refine va_mmin hx hb (hml.trans hl.1.symm) hown (hts (.methodLink RX8 69 Lib.Math.min.name) (by decide +kernel)) (hts (.static Lib.Math.min.name) (by decide +kernel)) (hts (.initialized "java/lang/Math") (by decide +kernel)) (hts (.code Lib.Math.min.name Lib.Math.min.code 2 (some .int)) (by decide +kernel)) (Nat.le_of_ble_eq_true rfl) (Nat.le_of_ble_eq_true rfl) (Nat.zero_le _) (Nat.zero_le _) dX8_leastWith_44 ?_
  refine xt_i (y := nI (min 0 0)) (min_nI (by omega) (by omega)) ?_
  refine xt_i (y := nI 0) (by decide +kernel) ?_
  refine lv_istore (lv' := [(4, .int (nI 0)), (5, .int (nI 2)), (0, .ref (h 105)), (1, .int (nI 1)), (2, .int (nI 0)), (3, .int (nI 0))]) hx hb dX8_leastWith_47 hl (by decide) rfl (fun ls hl => ?_)
  refine lv_iinc (v := nI 3) (lv' := [(5, .int (nI 3)), (4, .int (nI 0)), (0, .ref (h 105)), (1, .int (nI 1)), (2, .int (nI 0)), (3, .int (nI 0))]) hx hb dX8_leastWith_49 hl (k := 1) rfl (by decide +kernel) (by decide) rfl (fun ls hl => ?_)
  refine lv_goto (tgt := 11) hx hb dX8_leastWith_52 (by decide) ?_
  refine lv_iload hx hb dX8_leastWith_11 (lv_at hl 0 rfl) ?_
  refine lv_aload_n hx hb dX8_leastWith_13 rfl (lv_at hl 2 rfl) ?_
  refine va_get (D := (dC, dI)) (ci := 8) (v := .ref (h 101)) (C := RX8) (T := TX8) (N := 6) hx hb hts hinX8 hown hK hP 0 rfl rfl 0 (by decide) (hts (.fieldLink RX8 28 "MixedWords$Words" "mix" "LMixedWords$Mix;") (by decide +kernel)) (fun _ h9 => h9) rfl dX8_leastWith_14 ?_
  refine xj_i (wc := (wD_32 h cs qI_75 fL fA fQ fG fJ)) (wr := [(h 105, .inr (8, [.ref (h 101), .ref (h 170), .ref (h 171), .ref (h 172), .int (qI_75 173), .int (qI_75 174)])), (h 170, .inl (cs 0, 256, .inl (fA 170))), (h 171, .inl (cs 0, 256, .inl (fA 171))), (h 172, .inl (cs 0, 256, .inl (fA 172)))]) hP hD hS hA [1, 2, 3, 4, 5, 6, 7, 8] [0, 9, 10, 11] rfl rfl (by decide) (by decide) (va_runV (As := []) (rest := [.int (nI 3)]) ⟨hx, hb, hml, hown, hts⟩ (a_X3_wordCount_77 l dC dI h cs H.size qI_75 fL fA fQ fG fJ ) (cwV 0 hts gX8_leastWith_X3_wordCount rfl rfl rfl (by decide +kernel) ⟨Nat.le_of_ble_eq_true rfl, Nat.le_of_ble_eq_true rfl⟩) (xpV (wc := (wD_32 h cs qI_75 fL fA fQ fG fJ)) hP hD hK hN [1, 2, 3, 4, 5, 6, 7, 8] rfl (by decide) 1 (ci := 3) rfl rfl _) rfl rfl hl.1 rfl (lv_room (Nat.le_of_ble_eq_true rfl)) dX8_leastWith_17 ⟨Nat.zero_le _, Nat.zero_le _⟩) (fun r_23 u_22 H locs hw hP hD hS => ?_)
  obtain ⟨hf_24, rfl⟩ := hw
  have hP : va_P (dC, dI) vwCl (wD_60 h cs qI_75 fL fA fQ fG fJ) H := xP_sub hP [0, 4, 5, 6, 7, 8, 9, 10, 11, 1, 2, 3] rfl
  have hD : va_D A0 (wD_60 h cs qI_75 fL fA fQ fG fJ) := hD.sub [0, 4, 5, 6, 7, 8, 9, 10, 11, 1, 2, 3] (by decide) rfl
  obtain rfl := hf_24
  refine lv_icmp_ge (tgt := 55) hx hb dX8_leastWith_20 (by decide) (fun c9 => False.elim (by revert c9; decide +kernel)) (fun _ => ?_)
  refine lv_aload_n hx hb dX8_leastWith_23 rfl (lv_at hl 2 rfl) ?_
  refine lv_iload hx hb dX8_leastWith_24 (lv_at hl 0 rfl) ?_
  refine lv_iload_n hx hb dX8_leastWith_26 rfl (lv_at hl 3 rfl) ?_
  refine lv_iload_n hx hb dX8_leastWith_27 rfl (lv_at hl 4 rfl) ?_
  refine xj_i (wc := (wD_60 h cs qI_75 fL fA fQ fG fJ)) (wr := ([] : va_W)) hP hD hS hA [0, 1, 2, 3, 4, 5, 6, 7, 8, 9, 10, 11] [] rfl rfl (by decide) (by decide) (va_runV (As := [.int (nI 3), .int (nI 1), .int (nI 0)]) (rest := []) ⟨hx, hb, hml, hown, hts⟩ (a_X8_bitOf_109 l dC dI h cs H.size qI_75 fL fA fQ fG fJ ) (cwV 3 hts gX8_leastWith_X8_bitOf rfl rfl rfl (by decide +kernel) ⟨Nat.le_of_ble_eq_true rfl, Nat.le_of_ble_eq_true rfl⟩) (xpV (wc := (wD_60 h cs qI_75 fL fA fQ fG fJ)) hP hD hK hN [0, 1, 2, 3, 4, 5, 6, 7, 8, 9, 10, 11] rfl (by decide) 0 (ci := 8) rfl rfl _) rfl rfl hl.1 rfl (lv_room (Nat.le_of_ble_eq_true rfl)) dX8_leastWith_28 ⟨Nat.zero_le _, Nat.zero_le _⟩) (fun r_26 u_25 H locs hw hP hD hS => ?_)
  obtain ⟨hf_27, rfl⟩ := hw
  have hP : va_P (dC, dI) vwCl (wD_60 h cs qI_75 fL fA fQ fG fJ) H := hP
  have hD : va_D A0 (wD_60 h cs qI_75 fL fA fQ fG fJ) := hD
  obtain rfl := hf_27
  refine lv_iload_n hx hb dX8_leastWith_31 rfl (lv_at hl 5 rfl) ?_
  refine lv_icmp_ne (tgt := 49) hx hb dX8_leastWith_32 (by decide) (fun _ => ?_) (fun c9 => False.elim (by revert c9; decide +kernel))
  refine lv_iinc (v := nI 4) (lv' := [(5, .int (nI 4)), (4, .int (nI 0)), (0, .ref (h 105)), (1, .int (nI 1)), (2, .int (nI 0)), (3, .int (nI 0))]) hx hb dX8_leastWith_49 hl (k := 0) rfl (by decide +kernel) (by decide) rfl (fun ls hl => ?_)
  refine lv_goto (tgt := 11) hx hb dX8_leastWith_52 (by decide) ?_
  refine lv_iload hx hb dX8_leastWith_11 (lv_at hl 0 rfl) ?_
  refine lv_aload_n hx hb dX8_leastWith_13 rfl (lv_at hl 2 rfl) ?_
  refine va_get (D := (dC, dI)) (ci := 8) (v := .ref (h 101)) (C := RX8) (T := TX8) (N := 6) hx hb hts hinX8 hown hK hP 0 rfl rfl 0 (by decide) (hts (.fieldLink RX8 28 "MixedWords$Words" "mix" "LMixedWords$Mix;") (by decide +kernel)) (fun _ h9 => h9) rfl dX8_leastWith_14 ?_
  refine xj_i (wc := (wD_32 h cs qI_75 fL fA fQ fG fJ)) (wr := [(h 105, .inr (8, [.ref (h 101), .ref (h 170), .ref (h 171), .ref (h 172), .int (qI_75 173), .int (qI_75 174)])), (h 170, .inl (cs 0, 256, .inl (fA 170))), (h 171, .inl (cs 0, 256, .inl (fA 171))), (h 172, .inl (cs 0, 256, .inl (fA 172)))]) hP hD hS hA [1, 2, 3, 4, 5, 6, 7, 8] [0, 9, 10, 11] rfl rfl (by decide) (by decide) (va_runV (As := []) (rest := [.int (nI 4)]) ⟨hx, hb, hml, hown, hts⟩ (a_X3_wordCount_77 l dC dI h cs H.size qI_75 fL fA fQ fG fJ ) (cwV 0 hts gX8_leastWith_X3_wordCount rfl rfl rfl (by decide +kernel) ⟨Nat.le_of_ble_eq_true rfl, Nat.le_of_ble_eq_true rfl⟩) (xpV (wc := (wD_32 h cs qI_75 fL fA fQ fG fJ)) hP hD hK hN [1, 2, 3, 4, 5, 6, 7, 8] rfl (by decide) 1 (ci := 3) rfl rfl _) rfl rfl hl.1 rfl (lv_room (Nat.le_of_ble_eq_true rfl)) dX8_leastWith_17 ⟨Nat.zero_le _, Nat.zero_le _⟩) (fun r_29 u_28 H locs hw hP hD hS => ?_)
  obtain ⟨hf_30, rfl⟩ := hw
  have hP : va_P (dC, dI) vwCl (wD_60 h cs qI_75 fL fA fQ fG fJ) H := xP_sub hP [0, 4, 5, 6, 7, 8, 9, 10, 11, 1, 2, 3] rfl
  have hD : va_D A0 (wD_60 h cs qI_75 fL fA fQ fG fJ) := hD.sub [0, 4, 5, 6, 7, 8, 9, 10, 11, 1, 2, 3] (by decide) rfl
  obtain rfl := hf_30
  refine lv_icmp_ge (tgt := 55) hx hb dX8_leastWith_20 (by decide) (fun _ => ?_) (fun c9 => False.elim (by revert c9; decide +kernel))
  refine lv_iload hx hb dX8_leastWith_55 (lv_at hl 1 rfl) ?_
  exact xr_i (v := (nI 0)) hx hb hr hlocks hK hS dX8_leastWith_57 (qI_75, fL, fA, fQ, fG, fJ) ⟨rfl, rfl⟩ hP hD
set_option maxRecDepth 20000 in
theorem ggX9_soft_X3_hasColumn : GoodIn wsX9_soft wsX3_hasColumn := goodIn_r _ [8, 9, 65, 66, 67, 68, 69, 70] (by decide +kernel) (by decide +kernel)
set_option maxRecDepth 20000 in
theorem gX9_soft_X3_hasColumn : GoodIn wsX9_soft (wsV RX9 95 RX3 yX3_hasColumn wsX3_hasColumn) := goodIn_app (goodIn_of _ (by decide +kernel)) ggX9_soft_X3_hasColumn
set_option maxRecDepth 20000 in
theorem ggX9_soft_X3_bitsOfLetter : GoodIn wsX9_soft wsX3_bitsOfLetter := goodIn_r _ [13, 14, 65, 66, 67, 68, 69, 70] (by decide +kernel) (by decide +kernel)
set_option maxRecDepth 20000 in
theorem gX9_soft_X3_bitsOfLetter : GoodIn wsX9_soft (wsV RX9 166 RX3 yX3_bitsOfLetter wsX3_bitsOfLetter) := goodIn_app (goodIn_of _ (by decide +kernel)) ggX9_soft_X3_bitsOfLetter
set_option maxRecDepth 20000 in
theorem ggX9_soft_X8_leastWith : GoodIn wsX9_soft wsX8_leastWith := goodIn_r _ [19, 20, 21, 22, 23, 24, 25, 26, 27, 28, 29, 18, 30, 31, 32, 33, 34, 35, 7, 36, 9, 37, 11, 12, 13, 14, 38, 39, 40, 41, 42, 43, 44, 45, 46, 47, 48, 49, 50, 51, 52, 53, 54, 55, 71, 72, 73, 74, 75, 76, 65, 66, 67, 68, 69, 70] (by decide +kernel) (by decide +kernel)
set_option maxRecDepth 20000 in
theorem gX9_soft_X8_leastWith : GoodIn wsX9_soft (wsV RX9 170 RX8 yX8_leastWith wsX8_leastWith) := goodIn_app (goodIn_of _ (by decide +kernel)) ggX9_soft_X8_leastWith
theorem dX9_soft_0 : decode cX9_soft 0 = .ok (.aload_n 0, 1) := by decide +kernel
theorem dX9_soft_1 : decode cX9_soft 1 = .ok (.getfield 12, 3) := by decide +kernel
theorem dX9_soft_4 : decode cX9_soft 4 = .ok (.iload_n 1, 1) := by decide +kernel
theorem dX9_soft_5 : decode cX9_soft 5 = .ok (.invokevirtual 95, 3) := by decide +kernel
theorem dX9_soft_8 : decode cX9_soft 8 = .ok (.ifCond .eq 18, 3) := by decide +kernel
theorem dX9_soft_11 : decode cX9_soft 11 = .ok (.iload_n 2, 1) := by decide +kernel
theorem dX9_soft_12 : decode cX9_soft 12 = .ok (.ifCond .lt 14, 3) := by decide +kernel
theorem dX9_soft_15 : decode cX9_soft 15 = .ok (.iload_n 2, 1) := by decide +kernel
theorem dX9_soft_16 : decode cX9_soft 16 = .ok (.aload_n 0, 1) := by decide +kernel
theorem dX9_soft_17 : decode cX9_soft 17 = .ok (.getfield 12, 3) := by decide +kernel
theorem dX9_soft_20 : decode cX9_soft 20 = .ok (.invokevirtual 166, 3) := by decide +kernel
theorem dX9_soft_23 : decode cX9_soft 23 = .ok (.if_icmp .lt 6, 3) := by decide +kernel
theorem dX9_soft_26 : decode cX9_soft 26 = .ok (.ldc 169, 2) := by decide +kernel
theorem dX9_soft_28 : decode cX9_soft 28 = .ok (.ireturn, 1) := by decide +kernel
theorem dX9_soft_29 : decode cX9_soft 29 = .ok (.aload_n 0, 1) := by decide +kernel
theorem dX9_soft_30 : decode cX9_soft 30 = .ok (.getfield 44, 3) := by decide +kernel
theorem dX9_soft_33 : decode cX9_soft 33 = .ok (.iload_n 1, 1) := by decide +kernel
theorem dX9_soft_34 : decode cX9_soft 34 = .ok (.iload_n 2, 1) := by decide +kernel
theorem dX9_soft_35 : decode cX9_soft 35 = .ok (.iconst 1, 1) := by decide +kernel
theorem dX9_soft_36 : decode cX9_soft 36 = .ok (.invokevirtual 170, 3) := by decide +kernel
theorem dX9_soft_39 : decode cX9_soft 39 = .ok (.aload_n 0, 1) := by decide +kernel
theorem dX9_soft_40 : decode cX9_soft 40 = .ok (.getfield 44, 3) := by decide +kernel
theorem dX9_soft_43 : decode cX9_soft 43 = .ok (.iload_n 1, 1) := by decide +kernel
theorem dX9_soft_44 : decode cX9_soft 44 = .ok (.iload_n 2, 1) := by decide +kernel
theorem dX9_soft_45 : decode cX9_soft 45 = .ok (.iconst 0, 1) := by decide +kernel
theorem dX9_soft_46 : decode cX9_soft 46 = .ok (.invokevirtual 170, 3) := by decide +kernel
theorem dX9_soft_49 : decode cX9_soft 49 = .ok (.isub, 1) := by decide +kernel
theorem dX9_soft_50 : decode cX9_soft 50 = .ok (.ireturn, 1) := by decide +kernel
set_option maxHeartbeats 4000000 in
set_option maxRecDepth 100000 in
theorem f_X9_soft (l : Launch) (dC : Nat → ClassId) (dI : Nat → Nat → Nat) (h : Nat → Nat) (cs : Nat → ClassId) (sz : Nat) (I : Nat → Int32) (L : Nat → Int64) (A : Nat → Nat → Int32) (Q : Nat → Nat → Int64) (G : Nat → Nat → Nat → Int32) (J : Nat → Nat → Nat → Int64) (x y : Int32) : Met l yX9_soft wsX9_soft ({ frames := 5, cells := 0, slots := 0, locals := 113 }) (va_Pc [.ref (h 100), .int x, .int y] (xPre (dC, dI) (wAll h cs fI fL fA fQ fG fJ) (tysA cs) sz)) (va_Qi (fun (r : Int32) (u : CS) => ∃ zi9 : Nat → Int32, (r = an_soft x y) ∧ u = (zi9, fL, fA, fQ, fG, fJ)) (xB (dC, dI) (tysA cs) (va_A (wAll h cs fI fL fA fQ fG fJ) sz) (fun u : CS => wAll h cs u.1 u.2.1 u.2.2.1 u.2.2.2.1 u.2.2.2.2.1 u.2.2.2.2.2)) (va_A (wAll h cs fI fL fA fQ fG fJ) sz)) 0 0 (va_A (wAll h cs fI fL fA fQ fG fJ) sz) := by
  refine Met.ofW (cc := cX9_soft) (maxL := 3) (ret := (some .int)) (by decide) rfl ?_
  intro p e s m args below meth c s₁ B hml hv
  obtain ⟨rfl, hsz, hP, hK, hD0, hN⟩ := hv
  have hx := B.exec
  have hb := B.bytes
  have hr := B.returns
  have hts := atoms_spec (ws := wsX9_soft) B.pre
  have hown : s.vm.findClass RX9 = some m.cls := findClass_of_methodNamed B.named
  have hlocks := B.notSynchronized
  subst hsz
  have hD := hD0.self (sz := s.heap.size)
  generalize hAe : va_A (wAll h cs fI fL fA fQ fG fJ) s.heap.size = A0 at hD ⊢
  have hA : ∀ q : Nat, s.heap.size ≤ q → A0 q := fun q h => by rw [← hAe]; exact Or.inr h
  have hl := lv_entry ([.ref (h 100), .int x, .int y]) (n := 3) (Nat.le_of_ble_eq_true rfl)
  rw [lg_entry_eq]
  generalize (lg_sl ([.ref (h 100), .int x, .int y]) ++ List.replicate (3 - (lg_sl ([.ref (h 100), .int x, .int y])).length) Slot.unset).toArray = ls at hl ⊢
  have hl : lv_has ls 3 [(0, .ref (h 100)), (1, .int x), (2, .int y)] := hl
  generalize hH : s.heap = H at hP ⊢
  have hS : va_S A0 s.heap H [] := by rw [← hH]; exact va_S.rf
  have hinX9 : ∀ w ∈ wsX90, w ∈ wsX9_soft := by decide +kernel
  rcases splR x 0 1 (by decide) with ⟨i_x, h_x, g_x, rfl⟩ | hz_x
  · skip
    rcases (show i_x = 0 ∨ i_x = 1 by omega) with rfl | rfl
    · skip
      rcases splR y 0 0 (by decide) with ⟨i_y, h_y, g_y, rfl⟩ | hz_y
      · skip
        rcases (show i_y = 0 by omega) with rfl
        · skip
          refine lv_aload_n hx hb dX9_soft_0 rfl (lv_at hl 0 rfl) ?_
          refine va_get (D := (dC, dI)) (ci := 9) (v := .ref (h 101)) (C := RX9) (T := TX9) (N := 9) hx hb hts hinX9 hown hK hP 0 rfl rfl 0 (by decide) (hts (.fieldLink RX9 12 "MixedWords" "mix" "LMixedWords$Mix;") (by decide +kernel)) (fun _ h9 => h9) rfl dX9_soft_1 ?_
          refine lv_iload_n hx hb dX9_soft_4 rfl (lv_at hl 1 rfl) ?_
          refine xj_i (wc := (wD_32 h cs fI fL fA fQ fG fJ)) (wr := [(h 100, .inr (9, [.ref (h 101), .ref (h 102), .ref (h 103), .ref (h 104), .ref (h 105), .ref (h 106), .ref (h 107), .ref (h 108), .ref (h 109)])), (h 102, .inr (0, [.ref (h 101), .ref (h 140), .ref (h 141), .ref (h 142), .ref (h 143), .int (fI 144), .int (fI 145), .int (fI 146)])), (h 140, .inl (cs 0, 40, .inl (fA 140))), (h 141, .inl (cs 0, 40, .inl (fA 141))), (h 142, .inl (cs 0, 40, .inl (fA 142))), (h 143, .inl (cs 0, 40, .inl (fA 143))), (h 103, .inr (7, [.ref (h 150), .int (fI 151)])), (h 150, .inl (cs 2, 90, .inl (fA 150))), (h 104, .inr (4, [.ref (h 103), .ref (h 160), .int (fI 166), .int (fI 167), .int (fI 168), .int (fI 169)])), (h 160, .inl (cs 3, 5, .inr (.inr (.inr (.inr (fun i => if i < 5 then some (h (i + 161)) else none)))))), (h 161, .inl (cs 0, 4, .inl ((fG 1) 0))), (h 162, .inl (cs 0, 4, .inl ((fG 1) 1))), (h 163, .inl (cs 0, 4, .inl ((fG 1) 2))), (h 164, .inl (cs 0, 4, .inl ((fG 1) 3))), (h 165, .inl (cs 0, 4, .inl ((fG 1) 4))), (h 105, .inr (8, [.ref (h 101), .ref (h 170), .ref (h 171), .ref (h 172), .int (fI 173), .int (fI 174)])), (h 170, .inl (cs 0, 256, .inl (fA 170))), (h 171, .inl (cs 0, 256, .inl (fA 171))), (h 172, .inl (cs 0, 256, .inl (fA 172))), (h 106, .inr (2, [.ref (h 180), .ref (h 185), .ref (h 186), .ref (h 187), .long (fL 188)])), (h 180, .inl (cs 4, 4, .inr (.inr (.inr (.inr (fun i => if i < 4 then some (h (i + 181)) else none)))))), (h 181, .inl (cs 1, 4, .inr (.inl ((fJ 0) 0)))), (h 182, .inl (cs 1, 4, .inr (.inl ((fJ 0) 1)))), (h 183, .inl (cs 1, 4, .inr (.inl ((fJ 0) 2)))), (h 184, .inl (cs 1, 4, .inr (.inl ((fJ 0) 3)))), (h 185, .inl (cs 1, 4, .inr (.inl (fQ 185)))), (h 186, .inl (cs 0, 4, .inl (fA 186))), (h 187, .inl (cs 1, 4, .inr (.inl (fQ 187)))), (h 107, .inr (6, [.ref (h 101), .ref (h 190), .ref (h 191), .ref (h 192)])), (h 190, .inl (cs 0, 5, .inl (fA 190))), (h 191, .inl (cs 0, 4, .inl (fA 191))), (h 192, .inl (cs 0, 4, .inl (fA 192))), (h 108, .inr (1, [.ref (h 101), .ref (h 200), .ref (h 206), .ref (h 211), .int (fI 212), .int (fI 213)])), (h 200, .inl (cs 3, 5, .inr (.inr (.inr (.inr (fun i => if i < 5 then some (h (i + 201)) else none)))))), (h 201, .inl (cs 0, 4, .inl ((fG 2) 0))), (h 202, .inl (cs 0, 4, .inl ((fG 2) 1))), (h 203, .inl (cs 0, 4, .inl ((fG 2) 2))), (h 204, .inl (cs 0, 4, .inl ((fG 2) 3))), (h 205, .inl (cs 0, 4, .inl ((fG 2) 4))), (h 206, .inl (cs 3, 4, .inr (.inr (.inr (.inr (fun i => if i < 4 then some (h (i + 207)) else none)))))), (h 207, .inl (cs 0, 4, .inl ((fG 3) 0))), (h 208, .inl (cs 0, 4, .inl ((fG 3) 1))), (h 209, .inl (cs 0, 4, .inl ((fG 3) 2))), (h 210, .inl (cs 0, 4, .inl ((fG 3) 3))), (h 211, .inl (cs 0, 5, .inl (fA 211))), (h 109, .inl (cs 5, 4, .inr (.inr (.inr (.inr (fun i => if i < 4 then some (h (i + 110)) else none)))))), (h 110, .inr (5, [.int (fI 220), .int (fI 224), .ref (h 228)])), (h 228, .inl (cs 1, 25, .inr (.inl (fQ 228)))), (h 111, .inr (5, [.int (fI 221), .int (fI 225), .ref (h 229)])), (h 229, .inl (cs 1, 25, .inr (.inl (fQ 229)))), (h 112, .inr (5, [.int (fI 222), .int (fI 226), .ref (h 230)])), (h 230, .inl (cs 1, 25, .inr (.inl (fQ 230)))), (h 113, .inr (5, [.int (fI 223), .int (fI 227), .ref (h 231)])), (h 231, .inl (cs 1, 25, .inr (.inl (fQ 231))))]) hP hD hS hA [1, 2, 3, 4, 5, 6, 7, 8] [0, 9, 10, 11, 12, 13, 14, 15, 16, 17, 18, 19, 20, 21, 22, 23, 24, 25, 26, 27, 28, 29, 30, 31, 32, 33, 34, 35, 36, 37, 38, 39, 40, 41, 42, 43, 44, 45, 46, 47, 48, 49, 50, 51, 52, 53, 54, 55, 56, 57, 58, 59, 60, 61] rfl rfl (by decide) (by decide) (va_runV (As := [.int (nI 0)]) (rest := []) ⟨hx, hb, hml, hown, hts⟩ (a_X3_hasColumn_89 l dC dI h cs H.size fI fL fA fQ fG fJ ) (cwV 1 hts gX9_soft_X3_hasColumn rfl rfl rfl (by decide +kernel) ⟨Nat.le_of_ble_eq_true rfl, Nat.le_of_ble_eq_true rfl⟩) (xpV (wc := (wD_32 h cs fI fL fA fQ fG fJ)) hP hD hK hN [1, 2, 3, 4, 5, 6, 7, 8] rfl (by decide) 1 (ci := 3) rfl rfl _) rfl rfl hl.1 rfl (lv_room (Nat.le_of_ble_eq_true rfl)) dX9_soft_5 ⟨Nat.zero_le _, Nat.zero_le _⟩) (fun r_2 u_1 H locs hw hP hD hS => ?_)
          obtain ⟨hf_3, rfl⟩ := hw
          have hP : va_P (dC, dI) vwCl (wAll h cs fI fL fA fQ fG fJ) H := xP_sub hP [0, 54, 55, 56, 57, 58, 59, 60, 61, 1, 2, 3, 4, 5, 6, 7, 8, 9, 10, 11, 12, 13, 14, 15, 16, 17, 18, 19, 20, 21, 22, 23, 24, 25, 26, 27, 28, 29, 30, 31, 32, 33, 34, 35, 36, 37, 38, 39, 40, 41, 42, 43, 44, 45, 46, 47, 48, 49, 50, 51, 52, 53] rfl
          have hD : va_D A0 (wAll h cs fI fL fA fQ fG fJ) := hD.sub [0, 54, 55, 56, 57, 58, 59, 60, 61, 1, 2, 3, 4, 5, 6, 7, 8, 9, 10, 11, 12, 13, 14, 15, 16, 17, 18, 19, 20, 21, 22, 23, 24, 25, 26, 27, 28, 29, 30, 31, 32, 33, 34, 35, 36, 37, 38, 39, 40, 41, 42, 43, 44, 45, 46, 47, 48, 49, 50, 51, 52, 53] (by decide) rfl
          obtain rfl := hf_3
          refine lv_if_eq (tgt := 26) hx hb dX9_soft_8 (by decide) (fun c9 => False.elim (by revert c9; decide +kernel)) (fun _ => ?_)
          refine lv_iload_n hx hb dX9_soft_11 rfl (lv_at hl 2 rfl) ?_
          refine lv_if_lt (tgt := 26) hx hb dX9_soft_12 (by decide) (fun c9 => False.elim (by revert c9; decide +kernel)) (fun _ => ?_)
          refine lv_iload_n hx hb dX9_soft_15 rfl (lv_at hl 2 rfl) ?_
          refine lv_aload_n hx hb dX9_soft_16 rfl (lv_at hl 0 rfl) ?_
          refine va_get (D := (dC, dI)) (ci := 9) (v := .ref (h 101)) (C := RX9) (T := TX9) (N := 9) hx hb hts hinX9 hown hK hP 0 rfl rfl 0 (by decide) (hts (.fieldLink RX9 12 "MixedWords" "mix" "LMixedWords$Mix;") (by decide +kernel)) (fun _ h9 => h9) rfl dX9_soft_17 ?_
          refine xj_i (wc := (wD_32 h cs fI fL fA fQ fG fJ)) (wr := [(h 100, .inr (9, [.ref (h 101), .ref (h 102), .ref (h 103), .ref (h 104), .ref (h 105), .ref (h 106), .ref (h 107), .ref (h 108), .ref (h 109)])), (h 102, .inr (0, [.ref (h 101), .ref (h 140), .ref (h 141), .ref (h 142), .ref (h 143), .int (fI 144), .int (fI 145), .int (fI 146)])), (h 140, .inl (cs 0, 40, .inl (fA 140))), (h 141, .inl (cs 0, 40, .inl (fA 141))), (h 142, .inl (cs 0, 40, .inl (fA 142))), (h 143, .inl (cs 0, 40, .inl (fA 143))), (h 103, .inr (7, [.ref (h 150), .int (fI 151)])), (h 150, .inl (cs 2, 90, .inl (fA 150))), (h 104, .inr (4, [.ref (h 103), .ref (h 160), .int (fI 166), .int (fI 167), .int (fI 168), .int (fI 169)])), (h 160, .inl (cs 3, 5, .inr (.inr (.inr (.inr (fun i => if i < 5 then some (h (i + 161)) else none)))))), (h 161, .inl (cs 0, 4, .inl ((fG 1) 0))), (h 162, .inl (cs 0, 4, .inl ((fG 1) 1))), (h 163, .inl (cs 0, 4, .inl ((fG 1) 2))), (h 164, .inl (cs 0, 4, .inl ((fG 1) 3))), (h 165, .inl (cs 0, 4, .inl ((fG 1) 4))), (h 105, .inr (8, [.ref (h 101), .ref (h 170), .ref (h 171), .ref (h 172), .int (fI 173), .int (fI 174)])), (h 170, .inl (cs 0, 256, .inl (fA 170))), (h 171, .inl (cs 0, 256, .inl (fA 171))), (h 172, .inl (cs 0, 256, .inl (fA 172))), (h 106, .inr (2, [.ref (h 180), .ref (h 185), .ref (h 186), .ref (h 187), .long (fL 188)])), (h 180, .inl (cs 4, 4, .inr (.inr (.inr (.inr (fun i => if i < 4 then some (h (i + 181)) else none)))))), (h 181, .inl (cs 1, 4, .inr (.inl ((fJ 0) 0)))), (h 182, .inl (cs 1, 4, .inr (.inl ((fJ 0) 1)))), (h 183, .inl (cs 1, 4, .inr (.inl ((fJ 0) 2)))), (h 184, .inl (cs 1, 4, .inr (.inl ((fJ 0) 3)))), (h 185, .inl (cs 1, 4, .inr (.inl (fQ 185)))), (h 186, .inl (cs 0, 4, .inl (fA 186))), (h 187, .inl (cs 1, 4, .inr (.inl (fQ 187)))), (h 107, .inr (6, [.ref (h 101), .ref (h 190), .ref (h 191), .ref (h 192)])), (h 190, .inl (cs 0, 5, .inl (fA 190))), (h 191, .inl (cs 0, 4, .inl (fA 191))), (h 192, .inl (cs 0, 4, .inl (fA 192))), (h 108, .inr (1, [.ref (h 101), .ref (h 200), .ref (h 206), .ref (h 211), .int (fI 212), .int (fI 213)])), (h 200, .inl (cs 3, 5, .inr (.inr (.inr (.inr (fun i => if i < 5 then some (h (i + 201)) else none)))))), (h 201, .inl (cs 0, 4, .inl ((fG 2) 0))), (h 202, .inl (cs 0, 4, .inl ((fG 2) 1))), (h 203, .inl (cs 0, 4, .inl ((fG 2) 2))), (h 204, .inl (cs 0, 4, .inl ((fG 2) 3))), (h 205, .inl (cs 0, 4, .inl ((fG 2) 4))), (h 206, .inl (cs 3, 4, .inr (.inr (.inr (.inr (fun i => if i < 4 then some (h (i + 207)) else none)))))), (h 207, .inl (cs 0, 4, .inl ((fG 3) 0))), (h 208, .inl (cs 0, 4, .inl ((fG 3) 1))), (h 209, .inl (cs 0, 4, .inl ((fG 3) 2))), (h 210, .inl (cs 0, 4, .inl ((fG 3) 3))), (h 211, .inl (cs 0, 5, .inl (fA 211))), (h 109, .inl (cs 5, 4, .inr (.inr (.inr (.inr (fun i => if i < 4 then some (h (i + 110)) else none)))))), (h 110, .inr (5, [.int (fI 220), .int (fI 224), .ref (h 228)])), (h 228, .inl (cs 1, 25, .inr (.inl (fQ 228)))), (h 111, .inr (5, [.int (fI 221), .int (fI 225), .ref (h 229)])), (h 229, .inl (cs 1, 25, .inr (.inl (fQ 229)))), (h 112, .inr (5, [.int (fI 222), .int (fI 226), .ref (h 230)])), (h 230, .inl (cs 1, 25, .inr (.inl (fQ 230)))), (h 113, .inr (5, [.int (fI 223), .int (fI 227), .ref (h 231)])), (h 231, .inl (cs 1, 25, .inr (.inl (fQ 231))))]) hP hD hS hA [1, 2, 3, 4, 5, 6, 7, 8] [0, 9, 10, 11, 12, 13, 14, 15, 16, 17, 18, 19, 20, 21, 22, 23, 24, 25, 26, 27, 28, 29, 30, 31, 32, 33, 34, 35, 36, 37, 38, 39, 40, 41, 42, 43, 44, 45, 46, 47, 48, 49, 50, 51, 52, 53, 54, 55, 56, 57, 58, 59, 60, 61] rfl rfl (by decide) (by decide) (va_runV (As := []) (rest := [.int (nI 0)]) ⟨hx, hb, hml, hown, hts⟩ (a_X3_bitsOfLetter_59 l dC dI h cs H.size fI fL fA fQ fG fJ ) (cwV 0 hts gX9_soft_X3_bitsOfLetter rfl rfl rfl (by decide +kernel) ⟨Nat.le_of_ble_eq_true rfl, Nat.le_of_ble_eq_true rfl⟩) (xpV (wc := (wD_32 h cs fI fL fA fQ fG fJ)) hP hD hK hN [1, 2, 3, 4, 5, 6, 7, 8] rfl (by decide) 1 (ci := 3) rfl rfl _) rfl rfl hl.1 rfl (lv_room (Nat.le_of_ble_eq_true rfl)) dX9_soft_20 ⟨Nat.zero_le _, Nat.zero_le _⟩) (fun r_5 u_4 H locs hw hP hD hS => ?_)
          obtain ⟨hf_6, rfl⟩ := hw
          have hP : va_P (dC, dI) vwCl (wAll h cs fI fL fA fQ fG fJ) H := xP_sub hP [0, 54, 55, 56, 57, 58, 59, 60, 61, 1, 2, 3, 4, 5, 6, 7, 8, 9, 10, 11, 12, 13, 14, 15, 16, 17, 18, 19, 20, 21, 22, 23, 24, 25, 26, 27, 28, 29, 30, 31, 32, 33, 34, 35, 36, 37, 38, 39, 40, 41, 42, 43, 44, 45, 46, 47, 48, 49, 50, 51, 52, 53] rfl
          have hD : va_D A0 (wAll h cs fI fL fA fQ fG fJ) := hD.sub [0, 54, 55, 56, 57, 58, 59, 60, 61, 1, 2, 3, 4, 5, 6, 7, 8, 9, 10, 11, 12, 13, 14, 15, 16, 17, 18, 19, 20, 21, 22, 23, 24, 25, 26, 27, 28, 29, 30, 31, 32, 33, 34, 35, 36, 37, 38, 39, 40, 41, 42, 43, 44, 45, 46, 47, 48, 49, 50, 51, 52, 53] (by decide) rfl
          obtain rfl := hf_6
          refine lv_icmp_lt (tgt := 29) hx hb dX9_soft_23 (by decide) (fun _ => ?_) (fun c9 => False.elim (by revert c9; decide +kernel))
          refine lv_aload_n hx hb dX9_soft_29 rfl (lv_at hl 0 rfl) ?_
          refine va_get (D := (dC, dI)) (ci := 9) (v := .ref (h 105)) (C := RX9) (T := TX9) (N := 9) hx hb hts hinX9 hown hK hP 0 rfl rfl 4 (by decide) (hts (.fieldLink RX9 44 "MixedWords" "words" "LMixedWords$Words;") (by decide +kernel)) (fun _ h9 => h9) rfl dX9_soft_30 ?_
          refine lv_iload_n hx hb dX9_soft_33 rfl (lv_at hl 1 rfl) ?_
          refine lv_iload_n hx hb dX9_soft_34 rfl (lv_at hl 2 rfl) ?_
          refine lv_iconst (v := nI 1) hx hb dX9_soft_35 (by decide) ?_
          refine xj_i (wc := (wD_60 h cs fI fL fA fQ fG fJ)) (wr := [(h 100, .inr (9, [.ref (h 101), .ref (h 102), .ref (h 103), .ref (h 104), .ref (h 105), .ref (h 106), .ref (h 107), .ref (h 108), .ref (h 109)])), (h 102, .inr (0, [.ref (h 101), .ref (h 140), .ref (h 141), .ref (h 142), .ref (h 143), .int (fI 144), .int (fI 145), .int (fI 146)])), (h 140, .inl (cs 0, 40, .inl (fA 140))), (h 141, .inl (cs 0, 40, .inl (fA 141))), (h 142, .inl (cs 0, 40, .inl (fA 142))), (h 143, .inl (cs 0, 40, .inl (fA 143))), (h 103, .inr (7, [.ref (h 150), .int (fI 151)])), (h 150, .inl (cs 2, 90, .inl (fA 150))), (h 104, .inr (4, [.ref (h 103), .ref (h 160), .int (fI 166), .int (fI 167), .int (fI 168), .int (fI 169)])), (h 160, .inl (cs 3, 5, .inr (.inr (.inr (.inr (fun i => if i < 5 then some (h (i + 161)) else none)))))), (h 161, .inl (cs 0, 4, .inl ((fG 1) 0))), (h 162, .inl (cs 0, 4, .inl ((fG 1) 1))), (h 163, .inl (cs 0, 4, .inl ((fG 1) 2))), (h 164, .inl (cs 0, 4, .inl ((fG 1) 3))), (h 165, .inl (cs 0, 4, .inl ((fG 1) 4))), (h 106, .inr (2, [.ref (h 180), .ref (h 185), .ref (h 186), .ref (h 187), .long (fL 188)])), (h 180, .inl (cs 4, 4, .inr (.inr (.inr (.inr (fun i => if i < 4 then some (h (i + 181)) else none)))))), (h 181, .inl (cs 1, 4, .inr (.inl ((fJ 0) 0)))), (h 182, .inl (cs 1, 4, .inr (.inl ((fJ 0) 1)))), (h 183, .inl (cs 1, 4, .inr (.inl ((fJ 0) 2)))), (h 184, .inl (cs 1, 4, .inr (.inl ((fJ 0) 3)))), (h 185, .inl (cs 1, 4, .inr (.inl (fQ 185)))), (h 186, .inl (cs 0, 4, .inl (fA 186))), (h 187, .inl (cs 1, 4, .inr (.inl (fQ 187)))), (h 107, .inr (6, [.ref (h 101), .ref (h 190), .ref (h 191), .ref (h 192)])), (h 190, .inl (cs 0, 5, .inl (fA 190))), (h 191, .inl (cs 0, 4, .inl (fA 191))), (h 192, .inl (cs 0, 4, .inl (fA 192))), (h 108, .inr (1, [.ref (h 101), .ref (h 200), .ref (h 206), .ref (h 211), .int (fI 212), .int (fI 213)])), (h 200, .inl (cs 3, 5, .inr (.inr (.inr (.inr (fun i => if i < 5 then some (h (i + 201)) else none)))))), (h 201, .inl (cs 0, 4, .inl ((fG 2) 0))), (h 202, .inl (cs 0, 4, .inl ((fG 2) 1))), (h 203, .inl (cs 0, 4, .inl ((fG 2) 2))), (h 204, .inl (cs 0, 4, .inl ((fG 2) 3))), (h 205, .inl (cs 0, 4, .inl ((fG 2) 4))), (h 206, .inl (cs 3, 4, .inr (.inr (.inr (.inr (fun i => if i < 4 then some (h (i + 207)) else none)))))), (h 207, .inl (cs 0, 4, .inl ((fG 3) 0))), (h 208, .inl (cs 0, 4, .inl ((fG 3) 1))), (h 209, .inl (cs 0, 4, .inl ((fG 3) 2))), (h 210, .inl (cs 0, 4, .inl ((fG 3) 3))), (h 211, .inl (cs 0, 5, .inl (fA 211))), (h 109, .inl (cs 5, 4, .inr (.inr (.inr (.inr (fun i => if i < 4 then some (h (i + 110)) else none)))))), (h 110, .inr (5, [.int (fI 220), .int (fI 224), .ref (h 228)])), (h 228, .inl (cs 1, 25, .inr (.inl (fQ 228)))), (h 111, .inr (5, [.int (fI 221), .int (fI 225), .ref (h 229)])), (h 229, .inl (cs 1, 25, .inr (.inl (fQ 229)))), (h 112, .inr (5, [.int (fI 222), .int (fI 226), .ref (h 230)])), (h 230, .inl (cs 1, 25, .inr (.inl (fQ 230)))), (h 113, .inr (5, [.int (fI 223), .int (fI 227), .ref (h 231)])), (h 231, .inl (cs 1, 25, .inr (.inl (fQ 231))))]) hP hD hS hA [23, 1, 2, 3, 4, 5, 6, 7, 8, 24, 25, 26] [0, 9, 10, 11, 12, 13, 14, 15, 16, 17, 18, 19, 20, 21, 22, 27, 28, 29, 30, 31, 32, 33, 34, 35, 36, 37, 38, 39, 40, 41, 42, 43, 44, 45, 46, 47, 48, 49, 50, 51, 52, 53, 54, 55, 56, 57, 58, 59, 60, 61] rfl rfl (by decide) (by decide) (va_runV (As := [.int (nI 0), .int (nI 0), .int (nI 1)]) (rest := []) ⟨hx, hb, hml, hown, hts⟩ (a_X8_leastWith_90 l dC dI h cs H.size fI fL fA fQ fG fJ ) (cwV 3 hts gX9_soft_X8_leastWith rfl rfl rfl (by decide +kernel) ⟨Nat.le_of_ble_eq_true rfl, Nat.le_of_ble_eq_true rfl⟩) (xpV (wc := (wD_60 h cs fI fL fA fQ fG fJ)) hP hD hK hN [23, 1, 2, 3, 4, 5, 6, 7, 8, 24, 25, 26] rfl (by decide) 23 (ci := 8) rfl rfl _) rfl rfl hl.1 rfl (lv_room (Nat.le_of_ble_eq_true rfl)) dX9_soft_36 ⟨Nat.zero_le _, Nat.zero_le _⟩) (fun r_8 u_7 H locs hw hP hD hS => ?_)
          obtain ⟨hf_9, rfl⟩ := hw
          have hP : va_P (dC, dI) vwCl (wAll h cs qI_75 fL fA fQ fG fJ) H := xP_sub hP [0, 51, 52, 53, 54, 55, 56, 57, 58, 1, 2, 3, 4, 5, 6, 7, 8, 9, 10, 11, 12, 13, 14, 50, 59, 60, 61, 15, 16, 17, 18, 19, 20, 21, 22, 23, 24, 25, 26, 27, 28, 29, 30, 31, 32, 33, 34, 35, 36, 37, 38, 39, 40, 41, 42, 43, 44, 45, 46, 47, 48, 49] rfl
          have hD : va_D A0 (wAll h cs qI_75 fL fA fQ fG fJ) := hD.sub [0, 51, 52, 53, 54, 55, 56, 57, 58, 1, 2, 3, 4, 5, 6, 7, 8, 9, 10, 11, 12, 13, 14, 50, 59, 60, 61, 15, 16, 17, 18, 19, 20, 21, 22, 23, 24, 25, 26, 27, 28, 29, 30, 31, 32, 33, 34, 35, 36, 37, 38, 39, 40, 41, 42, 43, 44, 45, 46, 47, 48, 49] (by decide) rfl
          obtain rfl := hf_9
          refine lv_aload_n hx hb dX9_soft_39 rfl (lv_at hl 0 rfl) ?_
          refine va_get (D := (dC, dI)) (ci := 9) (v := .ref (h 105)) (C := RX9) (T := TX9) (N := 9) hx hb hts hinX9 hown hK hP 0 rfl rfl 4 (by decide) (hts (.fieldLink RX9 44 "MixedWords" "words" "LMixedWords$Words;") (by decide +kernel)) (fun _ h9 => h9) rfl dX9_soft_40 ?_
          refine lv_iload_n hx hb dX9_soft_43 rfl (lv_at hl 1 rfl) ?_
          refine lv_iload_n hx hb dX9_soft_44 rfl (lv_at hl 2 rfl) ?_
          refine lv_iconst (v := nI 0) hx hb dX9_soft_45 (by decide) ?_
          refine xj_i (wc := (wD_60 h cs qI_75 fL fA fQ fG fJ)) (wr := [(h 100, .inr (9, [.ref (h 101), .ref (h 102), .ref (h 103), .ref (h 104), .ref (h 105), .ref (h 106), .ref (h 107), .ref (h 108), .ref (h 109)])), (h 102, .inr (0, [.ref (h 101), .ref (h 140), .ref (h 141), .ref (h 142), .ref (h 143), .int (qI_75 144), .int (qI_75 145), .int (qI_75 146)])), (h 140, .inl (cs 0, 40, .inl (fA 140))), (h 141, .inl (cs 0, 40, .inl (fA 141))), (h 142, .inl (cs 0, 40, .inl (fA 142))), (h 143, .inl (cs 0, 40, .inl (fA 143))), (h 103, .inr (7, [.ref (h 150), .int (qI_75 151)])), (h 150, .inl (cs 2, 90, .inl (fA 150))), (h 104, .inr (4, [.ref (h 103), .ref (h 160), .int (qI_75 166), .int (qI_75 167), .int (qI_75 168), .int (qI_75 169)])), (h 160, .inl (cs 3, 5, .inr (.inr (.inr (.inr (fun i => if i < 5 then some (h (i + 161)) else none)))))), (h 161, .inl (cs 0, 4, .inl ((fG 1) 0))), (h 162, .inl (cs 0, 4, .inl ((fG 1) 1))), (h 163, .inl (cs 0, 4, .inl ((fG 1) 2))), (h 164, .inl (cs 0, 4, .inl ((fG 1) 3))), (h 165, .inl (cs 0, 4, .inl ((fG 1) 4))), (h 106, .inr (2, [.ref (h 180), .ref (h 185), .ref (h 186), .ref (h 187), .long (fL 188)])), (h 180, .inl (cs 4, 4, .inr (.inr (.inr (.inr (fun i => if i < 4 then some (h (i + 181)) else none)))))), (h 181, .inl (cs 1, 4, .inr (.inl ((fJ 0) 0)))), (h 182, .inl (cs 1, 4, .inr (.inl ((fJ 0) 1)))), (h 183, .inl (cs 1, 4, .inr (.inl ((fJ 0) 2)))), (h 184, .inl (cs 1, 4, .inr (.inl ((fJ 0) 3)))), (h 185, .inl (cs 1, 4, .inr (.inl (fQ 185)))), (h 186, .inl (cs 0, 4, .inl (fA 186))), (h 187, .inl (cs 1, 4, .inr (.inl (fQ 187)))), (h 107, .inr (6, [.ref (h 101), .ref (h 190), .ref (h 191), .ref (h 192)])), (h 190, .inl (cs 0, 5, .inl (fA 190))), (h 191, .inl (cs 0, 4, .inl (fA 191))), (h 192, .inl (cs 0, 4, .inl (fA 192))), (h 108, .inr (1, [.ref (h 101), .ref (h 200), .ref (h 206), .ref (h 211), .int (qI_75 212), .int (qI_75 213)])), (h 200, .inl (cs 3, 5, .inr (.inr (.inr (.inr (fun i => if i < 5 then some (h (i + 201)) else none)))))), (h 201, .inl (cs 0, 4, .inl ((fG 2) 0))), (h 202, .inl (cs 0, 4, .inl ((fG 2) 1))), (h 203, .inl (cs 0, 4, .inl ((fG 2) 2))), (h 204, .inl (cs 0, 4, .inl ((fG 2) 3))), (h 205, .inl (cs 0, 4, .inl ((fG 2) 4))), (h 206, .inl (cs 3, 4, .inr (.inr (.inr (.inr (fun i => if i < 4 then some (h (i + 207)) else none)))))), (h 207, .inl (cs 0, 4, .inl ((fG 3) 0))), (h 208, .inl (cs 0, 4, .inl ((fG 3) 1))), (h 209, .inl (cs 0, 4, .inl ((fG 3) 2))), (h 210, .inl (cs 0, 4, .inl ((fG 3) 3))), (h 211, .inl (cs 0, 5, .inl (fA 211))), (h 109, .inl (cs 5, 4, .inr (.inr (.inr (.inr (fun i => if i < 4 then some (h (i + 110)) else none)))))), (h 110, .inr (5, [.int (qI_75 220), .int (qI_75 224), .ref (h 228)])), (h 228, .inl (cs 1, 25, .inr (.inl (fQ 228)))), (h 111, .inr (5, [.int (qI_75 221), .int (qI_75 225), .ref (h 229)])), (h 229, .inl (cs 1, 25, .inr (.inl (fQ 229)))), (h 112, .inr (5, [.int (qI_75 222), .int (qI_75 226), .ref (h 230)])), (h 230, .inl (cs 1, 25, .inr (.inl (fQ 230)))), (h 113, .inr (5, [.int (qI_75 223), .int (qI_75 227), .ref (h 231)])), (h 231, .inl (cs 1, 25, .inr (.inl (fQ 231))))]) hP hD hS hA [23, 1, 2, 3, 4, 5, 6, 7, 8, 24, 25, 26] [0, 9, 10, 11, 12, 13, 14, 15, 16, 17, 18, 19, 20, 21, 22, 27, 28, 29, 30, 31, 32, 33, 34, 35, 36, 37, 38, 39, 40, 41, 42, 43, 44, 45, 46, 47, 48, 49, 50, 51, 52, 53, 54, 55, 56, 57, 58, 59, 60, 61] rfl rfl (by decide) (by decide) (va_runV (As := [.int (nI 0), .int (nI 0), .int (nI 0)]) (rest := [.int (nI 0)]) ⟨hx, hb, hml, hown, hts⟩ (a_X8_leastWith_99 l dC dI h cs H.size qI_75 fL fA fQ fG fJ ) (cwV 3 hts gX9_soft_X8_leastWith rfl rfl rfl (by decide +kernel) ⟨Nat.le_of_ble_eq_true rfl, Nat.le_of_ble_eq_true rfl⟩) (xpV (wc := (wD_60 h cs qI_75 fL fA fQ fG fJ)) hP hD hK hN [23, 1, 2, 3, 4, 5, 6, 7, 8, 24, 25, 26] rfl (by decide) 23 (ci := 8) rfl rfl _) rfl rfl hl.1 rfl (lv_room (Nat.le_of_ble_eq_true rfl)) dX9_soft_46 ⟨Nat.zero_le _, Nat.zero_le _⟩) (fun r_11 u_10 H locs hw hP hD hS => ?_)
          obtain ⟨hf_12, rfl⟩ := hw
          have hP : va_P (dC, dI) vwCl (wAll h cs qI_75 fL fA fQ fG fJ) H := xP_sub hP [0, 51, 52, 53, 54, 55, 56, 57, 58, 1, 2, 3, 4, 5, 6, 7, 8, 9, 10, 11, 12, 13, 14, 50, 59, 60, 61, 15, 16, 17, 18, 19, 20, 21, 22, 23, 24, 25, 26, 27, 28, 29, 30, 31, 32, 33, 34, 35, 36, 37, 38, 39, 40, 41, 42, 43, 44, 45, 46, 47, 48, 49] rfl
          have hD : va_D A0 (wAll h cs qI_75 fL fA fQ fG fJ) := hD.sub [0, 51, 52, 53, 54, 55, 56, 57, 58, 1, 2, 3, 4, 5, 6, 7, 8, 9, 10, 11, 12, 13, 14, 50, 59, 60, 61, 15, 16, 17, 18, 19, 20, 21, 22, 23, 24, 25, 26, 27, 28, 29, 30, 31, 32, 33, 34, 35, 36, 37, 38, 39, 40, 41, 42, 43, 44, 45, 46, 47, 48, 49] (by decide) rfl
          obtain rfl := hf_12
          refine lv_isub hx hb dX9_soft_49 ?_
          refine xt_i (y := nI 0) (by decide +kernel) ?_
          exact xr_i (v := (nI 0)) hx hb hr hlocks hK hS dX9_soft_50 (qI_75, fL, fA, fQ, fG, fJ) ⟨qI_75, (by decide +kernel), rfl⟩ hP hD
      · skip
        refine lv_aload_n hx hb dX9_soft_0 rfl (lv_at hl 0 rfl) ?_
        refine va_get (D := (dC, dI)) (ci := 9) (v := .ref (h 101)) (C := RX9) (T := TX9) (N := 9) hx hb hts hinX9 hown hK hP 0 rfl rfl 0 (by decide) (hts (.fieldLink RX9 12 "MixedWords" "mix" "LMixedWords$Mix;") (by decide +kernel)) (fun _ h9 => h9) rfl dX9_soft_1 ?_
        refine lv_iload_n hx hb dX9_soft_4 rfl (lv_at hl 1 rfl) ?_
        refine xj_i (wc := (wD_32 h cs fI fL fA fQ fG fJ)) (wr := [(h 100, .inr (9, [.ref (h 101), .ref (h 102), .ref (h 103), .ref (h 104), .ref (h 105), .ref (h 106), .ref (h 107), .ref (h 108), .ref (h 109)])), (h 102, .inr (0, [.ref (h 101), .ref (h 140), .ref (h 141), .ref (h 142), .ref (h 143), .int (fI 144), .int (fI 145), .int (fI 146)])), (h 140, .inl (cs 0, 40, .inl (fA 140))), (h 141, .inl (cs 0, 40, .inl (fA 141))), (h 142, .inl (cs 0, 40, .inl (fA 142))), (h 143, .inl (cs 0, 40, .inl (fA 143))), (h 103, .inr (7, [.ref (h 150), .int (fI 151)])), (h 150, .inl (cs 2, 90, .inl (fA 150))), (h 104, .inr (4, [.ref (h 103), .ref (h 160), .int (fI 166), .int (fI 167), .int (fI 168), .int (fI 169)])), (h 160, .inl (cs 3, 5, .inr (.inr (.inr (.inr (fun i => if i < 5 then some (h (i + 161)) else none)))))), (h 161, .inl (cs 0, 4, .inl ((fG 1) 0))), (h 162, .inl (cs 0, 4, .inl ((fG 1) 1))), (h 163, .inl (cs 0, 4, .inl ((fG 1) 2))), (h 164, .inl (cs 0, 4, .inl ((fG 1) 3))), (h 165, .inl (cs 0, 4, .inl ((fG 1) 4))), (h 105, .inr (8, [.ref (h 101), .ref (h 170), .ref (h 171), .ref (h 172), .int (fI 173), .int (fI 174)])), (h 170, .inl (cs 0, 256, .inl (fA 170))), (h 171, .inl (cs 0, 256, .inl (fA 171))), (h 172, .inl (cs 0, 256, .inl (fA 172))), (h 106, .inr (2, [.ref (h 180), .ref (h 185), .ref (h 186), .ref (h 187), .long (fL 188)])), (h 180, .inl (cs 4, 4, .inr (.inr (.inr (.inr (fun i => if i < 4 then some (h (i + 181)) else none)))))), (h 181, .inl (cs 1, 4, .inr (.inl ((fJ 0) 0)))), (h 182, .inl (cs 1, 4, .inr (.inl ((fJ 0) 1)))), (h 183, .inl (cs 1, 4, .inr (.inl ((fJ 0) 2)))), (h 184, .inl (cs 1, 4, .inr (.inl ((fJ 0) 3)))), (h 185, .inl (cs 1, 4, .inr (.inl (fQ 185)))), (h 186, .inl (cs 0, 4, .inl (fA 186))), (h 187, .inl (cs 1, 4, .inr (.inl (fQ 187)))), (h 107, .inr (6, [.ref (h 101), .ref (h 190), .ref (h 191), .ref (h 192)])), (h 190, .inl (cs 0, 5, .inl (fA 190))), (h 191, .inl (cs 0, 4, .inl (fA 191))), (h 192, .inl (cs 0, 4, .inl (fA 192))), (h 108, .inr (1, [.ref (h 101), .ref (h 200), .ref (h 206), .ref (h 211), .int (fI 212), .int (fI 213)])), (h 200, .inl (cs 3, 5, .inr (.inr (.inr (.inr (fun i => if i < 5 then some (h (i + 201)) else none)))))), (h 201, .inl (cs 0, 4, .inl ((fG 2) 0))), (h 202, .inl (cs 0, 4, .inl ((fG 2) 1))), (h 203, .inl (cs 0, 4, .inl ((fG 2) 2))), (h 204, .inl (cs 0, 4, .inl ((fG 2) 3))), (h 205, .inl (cs 0, 4, .inl ((fG 2) 4))), (h 206, .inl (cs 3, 4, .inr (.inr (.inr (.inr (fun i => if i < 4 then some (h (i + 207)) else none)))))), (h 207, .inl (cs 0, 4, .inl ((fG 3) 0))), (h 208, .inl (cs 0, 4, .inl ((fG 3) 1))), (h 209, .inl (cs 0, 4, .inl ((fG 3) 2))), (h 210, .inl (cs 0, 4, .inl ((fG 3) 3))), (h 211, .inl (cs 0, 5, .inl (fA 211))), (h 109, .inl (cs 5, 4, .inr (.inr (.inr (.inr (fun i => if i < 4 then some (h (i + 110)) else none)))))), (h 110, .inr (5, [.int (fI 220), .int (fI 224), .ref (h 228)])), (h 228, .inl (cs 1, 25, .inr (.inl (fQ 228)))), (h 111, .inr (5, [.int (fI 221), .int (fI 225), .ref (h 229)])), (h 229, .inl (cs 1, 25, .inr (.inl (fQ 229)))), (h 112, .inr (5, [.int (fI 222), .int (fI 226), .ref (h 230)])), (h 230, .inl (cs 1, 25, .inr (.inl (fQ 230)))), (h 113, .inr (5, [.int (fI 223), .int (fI 227), .ref (h 231)])), (h 231, .inl (cs 1, 25, .inr (.inl (fQ 231))))]) hP hD hS hA [1, 2, 3, 4, 5, 6, 7, 8] [0, 9, 10, 11, 12, 13, 14, 15, 16, 17, 18, 19, 20, 21, 22, 23, 24, 25, 26, 27, 28, 29, 30, 31, 32, 33, 34, 35, 36, 37, 38, 39, 40, 41, 42, 43, 44, 45, 46, 47, 48, 49, 50, 51, 52, 53, 54, 55, 56, 57, 58, 59, 60, 61] rfl rfl (by decide) (by decide) (va_runV (As := [.int (nI 0)]) (rest := []) ⟨hx, hb, hml, hown, hts⟩ (a_X3_hasColumn_89 l dC dI h cs H.size fI fL fA fQ fG fJ ) (cwV 1 hts gX9_soft_X3_hasColumn rfl rfl rfl (by decide +kernel) ⟨Nat.le_of_ble_eq_true rfl, Nat.le_of_ble_eq_true rfl⟩) (xpV (wc := (wD_32 h cs fI fL fA fQ fG fJ)) hP hD hK hN [1, 2, 3, 4, 5, 6, 7, 8] rfl (by decide) 1 (ci := 3) rfl rfl _) rfl rfl hl.1 rfl (lv_room (Nat.le_of_ble_eq_true rfl)) dX9_soft_5 ⟨Nat.zero_le _, Nat.zero_le _⟩) (fun r_14 u_13 H locs hw hP hD hS => ?_)
        obtain ⟨hf_15, rfl⟩ := hw
        have hP : va_P (dC, dI) vwCl (wAll h cs fI fL fA fQ fG fJ) H := xP_sub hP [0, 54, 55, 56, 57, 58, 59, 60, 61, 1, 2, 3, 4, 5, 6, 7, 8, 9, 10, 11, 12, 13, 14, 15, 16, 17, 18, 19, 20, 21, 22, 23, 24, 25, 26, 27, 28, 29, 30, 31, 32, 33, 34, 35, 36, 37, 38, 39, 40, 41, 42, 43, 44, 45, 46, 47, 48, 49, 50, 51, 52, 53] rfl
        have hD : va_D A0 (wAll h cs fI fL fA fQ fG fJ) := hD.sub [0, 54, 55, 56, 57, 58, 59, 60, 61, 1, 2, 3, 4, 5, 6, 7, 8, 9, 10, 11, 12, 13, 14, 15, 16, 17, 18, 19, 20, 21, 22, 23, 24, 25, 26, 27, 28, 29, 30, 31, 32, 33, 34, 35, 36, 37, 38, 39, 40, 41, 42, 43, 44, 45, 46, 47, 48, 49, 50, 51, 52, 53] (by decide) rfl
        obtain rfl := hf_15
        refine lv_if_eq (tgt := 26) hx hb dX9_soft_8 (by decide) (fun c9 => False.elim (by revert c9; decide +kernel)) (fun _ => ?_)
        refine lv_iload_n hx hb dX9_soft_11 rfl (lv_at hl 2 rfl) ?_
        refine lv_if_lt (tgt := 26) hx hb dX9_soft_12 (by decide) (fun c_12_15 => ?_) (fun c_12_15 => ?_)
        · skip
          have t_t_16 : y.toInt < 0 := zc_tlt (K := 0) (by decide +kernel) c_12_15
          refine lv_ldc (v := (-100000001)) hx hb hown (hts (.constant RX9 169 (-100000001)) (by decide +kernel)) dX9_soft_26 ?_
          exact xr_i (v := (-100000001 : Int32)) hx hb hr hlocks hK hS dX9_soft_28 (fI, fL, fA, fQ, fG, fJ) ⟨fI, (by unfold an_soft; rw [if_neg (by omega)]), rfl⟩ hP hD
        · skip
          have t_f_17 : 0 ≤ y.toInt := zc_flt (K := 0) (by decide +kernel) c_12_15
          refine lv_iload_n hx hb dX9_soft_15 rfl (lv_at hl 2 rfl) ?_
          refine lv_aload_n hx hb dX9_soft_16 rfl (lv_at hl 0 rfl) ?_
          refine va_get (D := (dC, dI)) (ci := 9) (v := .ref (h 101)) (C := RX9) (T := TX9) (N := 9) hx hb hts hinX9 hown hK hP 0 rfl rfl 0 (by decide) (hts (.fieldLink RX9 12 "MixedWords" "mix" "LMixedWords$Mix;") (by decide +kernel)) (fun _ h9 => h9) rfl dX9_soft_17 ?_
          refine xj_i (wc := (wD_32 h cs fI fL fA fQ fG fJ)) (wr := [(h 100, .inr (9, [.ref (h 101), .ref (h 102), .ref (h 103), .ref (h 104), .ref (h 105), .ref (h 106), .ref (h 107), .ref (h 108), .ref (h 109)])), (h 102, .inr (0, [.ref (h 101), .ref (h 140), .ref (h 141), .ref (h 142), .ref (h 143), .int (fI 144), .int (fI 145), .int (fI 146)])), (h 140, .inl (cs 0, 40, .inl (fA 140))), (h 141, .inl (cs 0, 40, .inl (fA 141))), (h 142, .inl (cs 0, 40, .inl (fA 142))), (h 143, .inl (cs 0, 40, .inl (fA 143))), (h 103, .inr (7, [.ref (h 150), .int (fI 151)])), (h 150, .inl (cs 2, 90, .inl (fA 150))), (h 104, .inr (4, [.ref (h 103), .ref (h 160), .int (fI 166), .int (fI 167), .int (fI 168), .int (fI 169)])), (h 160, .inl (cs 3, 5, .inr (.inr (.inr (.inr (fun i => if i < 5 then some (h (i + 161)) else none)))))), (h 161, .inl (cs 0, 4, .inl ((fG 1) 0))), (h 162, .inl (cs 0, 4, .inl ((fG 1) 1))), (h 163, .inl (cs 0, 4, .inl ((fG 1) 2))), (h 164, .inl (cs 0, 4, .inl ((fG 1) 3))), (h 165, .inl (cs 0, 4, .inl ((fG 1) 4))), (h 105, .inr (8, [.ref (h 101), .ref (h 170), .ref (h 171), .ref (h 172), .int (fI 173), .int (fI 174)])), (h 170, .inl (cs 0, 256, .inl (fA 170))), (h 171, .inl (cs 0, 256, .inl (fA 171))), (h 172, .inl (cs 0, 256, .inl (fA 172))), (h 106, .inr (2, [.ref (h 180), .ref (h 185), .ref (h 186), .ref (h 187), .long (fL 188)])), (h 180, .inl (cs 4, 4, .inr (.inr (.inr (.inr (fun i => if i < 4 then some (h (i + 181)) else none)))))), (h 181, .inl (cs 1, 4, .inr (.inl ((fJ 0) 0)))), (h 182, .inl (cs 1, 4, .inr (.inl ((fJ 0) 1)))), (h 183, .inl (cs 1, 4, .inr (.inl ((fJ 0) 2)))), (h 184, .inl (cs 1, 4, .inr (.inl ((fJ 0) 3)))), (h 185, .inl (cs 1, 4, .inr (.inl (fQ 185)))), (h 186, .inl (cs 0, 4, .inl (fA 186))), (h 187, .inl (cs 1, 4, .inr (.inl (fQ 187)))), (h 107, .inr (6, [.ref (h 101), .ref (h 190), .ref (h 191), .ref (h 192)])), (h 190, .inl (cs 0, 5, .inl (fA 190))), (h 191, .inl (cs 0, 4, .inl (fA 191))), (h 192, .inl (cs 0, 4, .inl (fA 192))), (h 108, .inr (1, [.ref (h 101), .ref (h 200), .ref (h 206), .ref (h 211), .int (fI 212), .int (fI 213)])), (h 200, .inl (cs 3, 5, .inr (.inr (.inr (.inr (fun i => if i < 5 then some (h (i + 201)) else none)))))), (h 201, .inl (cs 0, 4, .inl ((fG 2) 0))), (h 202, .inl (cs 0, 4, .inl ((fG 2) 1))), (h 203, .inl (cs 0, 4, .inl ((fG 2) 2))), (h 204, .inl (cs 0, 4, .inl ((fG 2) 3))), (h 205, .inl (cs 0, 4, .inl ((fG 2) 4))), (h 206, .inl (cs 3, 4, .inr (.inr (.inr (.inr (fun i => if i < 4 then some (h (i + 207)) else none)))))), (h 207, .inl (cs 0, 4, .inl ((fG 3) 0))), (h 208, .inl (cs 0, 4, .inl ((fG 3) 1))), (h 209, .inl (cs 0, 4, .inl ((fG 3) 2))), (h 210, .inl (cs 0, 4, .inl ((fG 3) 3))), (h 211, .inl (cs 0, 5, .inl (fA 211))), (h 109, .inl (cs 5, 4, .inr (.inr (.inr (.inr (fun i => if i < 4 then some (h (i + 110)) else none)))))), (h 110, .inr (5, [.int (fI 220), .int (fI 224), .ref (h 228)])), (h 228, .inl (cs 1, 25, .inr (.inl (fQ 228)))), (h 111, .inr (5, [.int (fI 221), .int (fI 225), .ref (h 229)])), (h 229, .inl (cs 1, 25, .inr (.inl (fQ 229)))), (h 112, .inr (5, [.int (fI 222), .int (fI 226), .ref (h 230)])), (h 230, .inl (cs 1, 25, .inr (.inl (fQ 230)))), (h 113, .inr (5, [.int (fI 223), .int (fI 227), .ref (h 231)])), (h 231, .inl (cs 1, 25, .inr (.inl (fQ 231))))]) hP hD hS hA [1, 2, 3, 4, 5, 6, 7, 8] [0, 9, 10, 11, 12, 13, 14, 15, 16, 17, 18, 19, 20, 21, 22, 23, 24, 25, 26, 27, 28, 29, 30, 31, 32, 33, 34, 35, 36, 37, 38, 39, 40, 41, 42, 43, 44, 45, 46, 47, 48, 49, 50, 51, 52, 53, 54, 55, 56, 57, 58, 59, 60, 61] rfl rfl (by decide) (by decide) (va_runV (As := []) (rest := [.int y]) ⟨hx, hb, hml, hown, hts⟩ (a_X3_bitsOfLetter_59 l dC dI h cs H.size fI fL fA fQ fG fJ ) (cwV 0 hts gX9_soft_X3_bitsOfLetter rfl rfl rfl (by decide +kernel) ⟨Nat.le_of_ble_eq_true rfl, Nat.le_of_ble_eq_true rfl⟩) (xpV (wc := (wD_32 h cs fI fL fA fQ fG fJ)) hP hD hK hN [1, 2, 3, 4, 5, 6, 7, 8] rfl (by decide) 1 (ci := 3) rfl rfl _) rfl rfl hl.1 rfl (lv_room (Nat.le_of_ble_eq_true rfl)) dX9_soft_20 ⟨Nat.zero_le _, Nat.zero_le _⟩) (fun r_20 u_19 H locs hw hP hD hS => ?_)
          obtain ⟨hf_21, rfl⟩ := hw
          have hP : va_P (dC, dI) vwCl (wAll h cs fI fL fA fQ fG fJ) H := xP_sub hP [0, 54, 55, 56, 57, 58, 59, 60, 61, 1, 2, 3, 4, 5, 6, 7, 8, 9, 10, 11, 12, 13, 14, 15, 16, 17, 18, 19, 20, 21, 22, 23, 24, 25, 26, 27, 28, 29, 30, 31, 32, 33, 34, 35, 36, 37, 38, 39, 40, 41, 42, 43, 44, 45, 46, 47, 48, 49, 50, 51, 52, 53] rfl
          have hD : va_D A0 (wAll h cs fI fL fA fQ fG fJ) := hD.sub [0, 54, 55, 56, 57, 58, 59, 60, 61, 1, 2, 3, 4, 5, 6, 7, 8, 9, 10, 11, 12, 13, 14, 15, 16, 17, 18, 19, 20, 21, 22, 23, 24, 25, 26, 27, 28, 29, 30, 31, 32, 33, 34, 35, 36, 37, 38, 39, 40, 41, 42, 43, 44, 45, 46, 47, 48, 49, 50, 51, 52, 53] (by decide) rfl
          obtain rfl := hf_21
          refine lv_icmp_lt (tgt := 29) hx hb dX9_soft_23 (by decide) (fun c_23_21 => ?_) (fun c_23_21 => ?_)
          · skip
            have t_t_22 : y.toInt < 1 := zc_tlt (K := nI 1) (by decide +kernel) c_23_21
            exact absurd t_t_22 (by omega)
          · skip
            have t_f_23 : 1 ≤ y.toInt := zc_flt (K := nI 1) (by decide +kernel) c_23_21
            refine lv_ldc (v := (-100000001)) hx hb hown (hts (.constant RX9 169 (-100000001)) (by decide +kernel)) dX9_soft_26 ?_
            exact xr_i (v := (-100000001 : Int32)) hx hb hr hlocks hK hS dX9_soft_28 (fI, fL, fA, fQ, fG, fJ) ⟨fI, (by unfold an_soft; rw [if_neg (by omega)]), rfl⟩ hP hD
    · skip
      rcases splR y 0 0 (by decide) with ⟨i_y, h_y, g_y, rfl⟩ | hz_y
      · skip
        rcases (show i_y = 0 by omega) with rfl
        · skip
          refine lv_aload_n hx hb dX9_soft_0 rfl (lv_at hl 0 rfl) ?_
          refine va_get (D := (dC, dI)) (ci := 9) (v := .ref (h 101)) (C := RX9) (T := TX9) (N := 9) hx hb hts hinX9 hown hK hP 0 rfl rfl 0 (by decide) (hts (.fieldLink RX9 12 "MixedWords" "mix" "LMixedWords$Mix;") (by decide +kernel)) (fun _ h9 => h9) rfl dX9_soft_1 ?_
          refine lv_iload_n hx hb dX9_soft_4 rfl (lv_at hl 1 rfl) ?_
          refine xj_i (wc := (wD_32 h cs fI fL fA fQ fG fJ)) (wr := [(h 100, .inr (9, [.ref (h 101), .ref (h 102), .ref (h 103), .ref (h 104), .ref (h 105), .ref (h 106), .ref (h 107), .ref (h 108), .ref (h 109)])), (h 102, .inr (0, [.ref (h 101), .ref (h 140), .ref (h 141), .ref (h 142), .ref (h 143), .int (fI 144), .int (fI 145), .int (fI 146)])), (h 140, .inl (cs 0, 40, .inl (fA 140))), (h 141, .inl (cs 0, 40, .inl (fA 141))), (h 142, .inl (cs 0, 40, .inl (fA 142))), (h 143, .inl (cs 0, 40, .inl (fA 143))), (h 103, .inr (7, [.ref (h 150), .int (fI 151)])), (h 150, .inl (cs 2, 90, .inl (fA 150))), (h 104, .inr (4, [.ref (h 103), .ref (h 160), .int (fI 166), .int (fI 167), .int (fI 168), .int (fI 169)])), (h 160, .inl (cs 3, 5, .inr (.inr (.inr (.inr (fun i => if i < 5 then some (h (i + 161)) else none)))))), (h 161, .inl (cs 0, 4, .inl ((fG 1) 0))), (h 162, .inl (cs 0, 4, .inl ((fG 1) 1))), (h 163, .inl (cs 0, 4, .inl ((fG 1) 2))), (h 164, .inl (cs 0, 4, .inl ((fG 1) 3))), (h 165, .inl (cs 0, 4, .inl ((fG 1) 4))), (h 105, .inr (8, [.ref (h 101), .ref (h 170), .ref (h 171), .ref (h 172), .int (fI 173), .int (fI 174)])), (h 170, .inl (cs 0, 256, .inl (fA 170))), (h 171, .inl (cs 0, 256, .inl (fA 171))), (h 172, .inl (cs 0, 256, .inl (fA 172))), (h 106, .inr (2, [.ref (h 180), .ref (h 185), .ref (h 186), .ref (h 187), .long (fL 188)])), (h 180, .inl (cs 4, 4, .inr (.inr (.inr (.inr (fun i => if i < 4 then some (h (i + 181)) else none)))))), (h 181, .inl (cs 1, 4, .inr (.inl ((fJ 0) 0)))), (h 182, .inl (cs 1, 4, .inr (.inl ((fJ 0) 1)))), (h 183, .inl (cs 1, 4, .inr (.inl ((fJ 0) 2)))), (h 184, .inl (cs 1, 4, .inr (.inl ((fJ 0) 3)))), (h 185, .inl (cs 1, 4, .inr (.inl (fQ 185)))), (h 186, .inl (cs 0, 4, .inl (fA 186))), (h 187, .inl (cs 1, 4, .inr (.inl (fQ 187)))), (h 107, .inr (6, [.ref (h 101), .ref (h 190), .ref (h 191), .ref (h 192)])), (h 190, .inl (cs 0, 5, .inl (fA 190))), (h 191, .inl (cs 0, 4, .inl (fA 191))), (h 192, .inl (cs 0, 4, .inl (fA 192))), (h 108, .inr (1, [.ref (h 101), .ref (h 200), .ref (h 206), .ref (h 211), .int (fI 212), .int (fI 213)])), (h 200, .inl (cs 3, 5, .inr (.inr (.inr (.inr (fun i => if i < 5 then some (h (i + 201)) else none)))))), (h 201, .inl (cs 0, 4, .inl ((fG 2) 0))), (h 202, .inl (cs 0, 4, .inl ((fG 2) 1))), (h 203, .inl (cs 0, 4, .inl ((fG 2) 2))), (h 204, .inl (cs 0, 4, .inl ((fG 2) 3))), (h 205, .inl (cs 0, 4, .inl ((fG 2) 4))), (h 206, .inl (cs 3, 4, .inr (.inr (.inr (.inr (fun i => if i < 4 then some (h (i + 207)) else none)))))), (h 207, .inl (cs 0, 4, .inl ((fG 3) 0))), (h 208, .inl (cs 0, 4, .inl ((fG 3) 1))), (h 209, .inl (cs 0, 4, .inl ((fG 3) 2))), (h 210, .inl (cs 0, 4, .inl ((fG 3) 3))), (h 211, .inl (cs 0, 5, .inl (fA 211))), (h 109, .inl (cs 5, 4, .inr (.inr (.inr (.inr (fun i => if i < 4 then some (h (i + 110)) else none)))))), (h 110, .inr (5, [.int (fI 220), .int (fI 224), .ref (h 228)])), (h 228, .inl (cs 1, 25, .inr (.inl (fQ 228)))), (h 111, .inr (5, [.int (fI 221), .int (fI 225), .ref (h 229)])), (h 229, .inl (cs 1, 25, .inr (.inl (fQ 229)))), (h 112, .inr (5, [.int (fI 222), .int (fI 226), .ref (h 230)])), (h 230, .inl (cs 1, 25, .inr (.inl (fQ 230)))), (h 113, .inr (5, [.int (fI 223), .int (fI 227), .ref (h 231)])), (h 231, .inl (cs 1, 25, .inr (.inl (fQ 231))))]) hP hD hS hA [1, 2, 3, 4, 5, 6, 7, 8] [0, 9, 10, 11, 12, 13, 14, 15, 16, 17, 18, 19, 20, 21, 22, 23, 24, 25, 26, 27, 28, 29, 30, 31, 32, 33, 34, 35, 36, 37, 38, 39, 40, 41, 42, 43, 44, 45, 46, 47, 48, 49, 50, 51, 52, 53, 54, 55, 56, 57, 58, 59, 60, 61] rfl rfl (by decide) (by decide) (va_runV (As := [.int (nI 1)]) (rest := []) ⟨hx, hb, hml, hown, hts⟩ (a_X3_hasColumn_101 l dC dI h cs H.size fI fL fA fQ fG fJ ) (cwV 1 hts gX9_soft_X3_hasColumn rfl rfl rfl (by decide +kernel) ⟨Nat.le_of_ble_eq_true rfl, Nat.le_of_ble_eq_true rfl⟩) (xpV (wc := (wD_32 h cs fI fL fA fQ fG fJ)) hP hD hK hN [1, 2, 3, 4, 5, 6, 7, 8] rfl (by decide) 1 (ci := 3) rfl rfl _) rfl rfl hl.1 rfl (lv_room (Nat.le_of_ble_eq_true rfl)) dX9_soft_5 ⟨Nat.zero_le _, Nat.zero_le _⟩) (fun r_26 u_25 H locs hw hP hD hS => ?_)
          obtain ⟨hf_27, rfl⟩ := hw
          have hP : va_P (dC, dI) vwCl (wAll h cs fI fL fA fQ fG fJ) H := xP_sub hP [0, 54, 55, 56, 57, 58, 59, 60, 61, 1, 2, 3, 4, 5, 6, 7, 8, 9, 10, 11, 12, 13, 14, 15, 16, 17, 18, 19, 20, 21, 22, 23, 24, 25, 26, 27, 28, 29, 30, 31, 32, 33, 34, 35, 36, 37, 38, 39, 40, 41, 42, 43, 44, 45, 46, 47, 48, 49, 50, 51, 52, 53] rfl
          have hD : va_D A0 (wAll h cs fI fL fA fQ fG fJ) := hD.sub [0, 54, 55, 56, 57, 58, 59, 60, 61, 1, 2, 3, 4, 5, 6, 7, 8, 9, 10, 11, 12, 13, 14, 15, 16, 17, 18, 19, 20, 21, 22, 23, 24, 25, 26, 27, 28, 29, 30, 31, 32, 33, 34, 35, 36, 37, 38, 39, 40, 41, 42, 43, 44, 45, 46, 47, 48, 49, 50, 51, 52, 53] (by decide) rfl
          obtain rfl := hf_27
          refine lv_if_eq (tgt := 26) hx hb dX9_soft_8 (by decide) (fun c9 => False.elim (by revert c9; decide +kernel)) (fun _ => ?_)
          refine lv_iload_n hx hb dX9_soft_11 rfl (lv_at hl 2 rfl) ?_
          refine lv_if_lt (tgt := 26) hx hb dX9_soft_12 (by decide) (fun c9 => False.elim (by revert c9; decide +kernel)) (fun _ => ?_)
          refine lv_iload_n hx hb dX9_soft_15 rfl (lv_at hl 2 rfl) ?_
          refine lv_aload_n hx hb dX9_soft_16 rfl (lv_at hl 0 rfl) ?_
          refine va_get (D := (dC, dI)) (ci := 9) (v := .ref (h 101)) (C := RX9) (T := TX9) (N := 9) hx hb hts hinX9 hown hK hP 0 rfl rfl 0 (by decide) (hts (.fieldLink RX9 12 "MixedWords" "mix" "LMixedWords$Mix;") (by decide +kernel)) (fun _ h9 => h9) rfl dX9_soft_17 ?_
          refine xj_i (wc := (wD_32 h cs fI fL fA fQ fG fJ)) (wr := [(h 100, .inr (9, [.ref (h 101), .ref (h 102), .ref (h 103), .ref (h 104), .ref (h 105), .ref (h 106), .ref (h 107), .ref (h 108), .ref (h 109)])), (h 102, .inr (0, [.ref (h 101), .ref (h 140), .ref (h 141), .ref (h 142), .ref (h 143), .int (fI 144), .int (fI 145), .int (fI 146)])), (h 140, .inl (cs 0, 40, .inl (fA 140))), (h 141, .inl (cs 0, 40, .inl (fA 141))), (h 142, .inl (cs 0, 40, .inl (fA 142))), (h 143, .inl (cs 0, 40, .inl (fA 143))), (h 103, .inr (7, [.ref (h 150), .int (fI 151)])), (h 150, .inl (cs 2, 90, .inl (fA 150))), (h 104, .inr (4, [.ref (h 103), .ref (h 160), .int (fI 166), .int (fI 167), .int (fI 168), .int (fI 169)])), (h 160, .inl (cs 3, 5, .inr (.inr (.inr (.inr (fun i => if i < 5 then some (h (i + 161)) else none)))))), (h 161, .inl (cs 0, 4, .inl ((fG 1) 0))), (h 162, .inl (cs 0, 4, .inl ((fG 1) 1))), (h 163, .inl (cs 0, 4, .inl ((fG 1) 2))), (h 164, .inl (cs 0, 4, .inl ((fG 1) 3))), (h 165, .inl (cs 0, 4, .inl ((fG 1) 4))), (h 105, .inr (8, [.ref (h 101), .ref (h 170), .ref (h 171), .ref (h 172), .int (fI 173), .int (fI 174)])), (h 170, .inl (cs 0, 256, .inl (fA 170))), (h 171, .inl (cs 0, 256, .inl (fA 171))), (h 172, .inl (cs 0, 256, .inl (fA 172))), (h 106, .inr (2, [.ref (h 180), .ref (h 185), .ref (h 186), .ref (h 187), .long (fL 188)])), (h 180, .inl (cs 4, 4, .inr (.inr (.inr (.inr (fun i => if i < 4 then some (h (i + 181)) else none)))))), (h 181, .inl (cs 1, 4, .inr (.inl ((fJ 0) 0)))), (h 182, .inl (cs 1, 4, .inr (.inl ((fJ 0) 1)))), (h 183, .inl (cs 1, 4, .inr (.inl ((fJ 0) 2)))), (h 184, .inl (cs 1, 4, .inr (.inl ((fJ 0) 3)))), (h 185, .inl (cs 1, 4, .inr (.inl (fQ 185)))), (h 186, .inl (cs 0, 4, .inl (fA 186))), (h 187, .inl (cs 1, 4, .inr (.inl (fQ 187)))), (h 107, .inr (6, [.ref (h 101), .ref (h 190), .ref (h 191), .ref (h 192)])), (h 190, .inl (cs 0, 5, .inl (fA 190))), (h 191, .inl (cs 0, 4, .inl (fA 191))), (h 192, .inl (cs 0, 4, .inl (fA 192))), (h 108, .inr (1, [.ref (h 101), .ref (h 200), .ref (h 206), .ref (h 211), .int (fI 212), .int (fI 213)])), (h 200, .inl (cs 3, 5, .inr (.inr (.inr (.inr (fun i => if i < 5 then some (h (i + 201)) else none)))))), (h 201, .inl (cs 0, 4, .inl ((fG 2) 0))), (h 202, .inl (cs 0, 4, .inl ((fG 2) 1))), (h 203, .inl (cs 0, 4, .inl ((fG 2) 2))), (h 204, .inl (cs 0, 4, .inl ((fG 2) 3))), (h 205, .inl (cs 0, 4, .inl ((fG 2) 4))), (h 206, .inl (cs 3, 4, .inr (.inr (.inr (.inr (fun i => if i < 4 then some (h (i + 207)) else none)))))), (h 207, .inl (cs 0, 4, .inl ((fG 3) 0))), (h 208, .inl (cs 0, 4, .inl ((fG 3) 1))), (h 209, .inl (cs 0, 4, .inl ((fG 3) 2))), (h 210, .inl (cs 0, 4, .inl ((fG 3) 3))), (h 211, .inl (cs 0, 5, .inl (fA 211))), (h 109, .inl (cs 5, 4, .inr (.inr (.inr (.inr (fun i => if i < 4 then some (h (i + 110)) else none)))))), (h 110, .inr (5, [.int (fI 220), .int (fI 224), .ref (h 228)])), (h 228, .inl (cs 1, 25, .inr (.inl (fQ 228)))), (h 111, .inr (5, [.int (fI 221), .int (fI 225), .ref (h 229)])), (h 229, .inl (cs 1, 25, .inr (.inl (fQ 229)))), (h 112, .inr (5, [.int (fI 222), .int (fI 226), .ref (h 230)])), (h 230, .inl (cs 1, 25, .inr (.inl (fQ 230)))), (h 113, .inr (5, [.int (fI 223), .int (fI 227), .ref (h 231)])), (h 231, .inl (cs 1, 25, .inr (.inl (fQ 231))))]) hP hD hS hA [1, 2, 3, 4, 5, 6, 7, 8] [0, 9, 10, 11, 12, 13, 14, 15, 16, 17, 18, 19, 20, 21, 22, 23, 24, 25, 26, 27, 28, 29, 30, 31, 32, 33, 34, 35, 36, 37, 38, 39, 40, 41, 42, 43, 44, 45, 46, 47, 48, 49, 50, 51, 52, 53, 54, 55, 56, 57, 58, 59, 60, 61] rfl rfl (by decide) (by decide) (va_runV (As := []) (rest := [.int (nI 0)]) ⟨hx, hb, hml, hown, hts⟩ (a_X3_bitsOfLetter_59 l dC dI h cs H.size fI fL fA fQ fG fJ ) (cwV 0 hts gX9_soft_X3_bitsOfLetter rfl rfl rfl (by decide +kernel) ⟨Nat.le_of_ble_eq_true rfl, Nat.le_of_ble_eq_true rfl⟩) (xpV (wc := (wD_32 h cs fI fL fA fQ fG fJ)) hP hD hK hN [1, 2, 3, 4, 5, 6, 7, 8] rfl (by decide) 1 (ci := 3) rfl rfl _) rfl rfl hl.1 rfl (lv_room (Nat.le_of_ble_eq_true rfl)) dX9_soft_20 ⟨Nat.zero_le _, Nat.zero_le _⟩) (fun r_29 u_28 H locs hw hP hD hS => ?_)
          obtain ⟨hf_30, rfl⟩ := hw
          have hP : va_P (dC, dI) vwCl (wAll h cs fI fL fA fQ fG fJ) H := xP_sub hP [0, 54, 55, 56, 57, 58, 59, 60, 61, 1, 2, 3, 4, 5, 6, 7, 8, 9, 10, 11, 12, 13, 14, 15, 16, 17, 18, 19, 20, 21, 22, 23, 24, 25, 26, 27, 28, 29, 30, 31, 32, 33, 34, 35, 36, 37, 38, 39, 40, 41, 42, 43, 44, 45, 46, 47, 48, 49, 50, 51, 52, 53] rfl
          have hD : va_D A0 (wAll h cs fI fL fA fQ fG fJ) := hD.sub [0, 54, 55, 56, 57, 58, 59, 60, 61, 1, 2, 3, 4, 5, 6, 7, 8, 9, 10, 11, 12, 13, 14, 15, 16, 17, 18, 19, 20, 21, 22, 23, 24, 25, 26, 27, 28, 29, 30, 31, 32, 33, 34, 35, 36, 37, 38, 39, 40, 41, 42, 43, 44, 45, 46, 47, 48, 49, 50, 51, 52, 53] (by decide) rfl
          obtain rfl := hf_30
          refine lv_icmp_lt (tgt := 29) hx hb dX9_soft_23 (by decide) (fun _ => ?_) (fun c9 => False.elim (by revert c9; decide +kernel))
          refine lv_aload_n hx hb dX9_soft_29 rfl (lv_at hl 0 rfl) ?_
          refine va_get (D := (dC, dI)) (ci := 9) (v := .ref (h 105)) (C := RX9) (T := TX9) (N := 9) hx hb hts hinX9 hown hK hP 0 rfl rfl 4 (by decide) (hts (.fieldLink RX9 44 "MixedWords" "words" "LMixedWords$Words;") (by decide +kernel)) (fun _ h9 => h9) rfl dX9_soft_30 ?_
          refine lv_iload_n hx hb dX9_soft_33 rfl (lv_at hl 1 rfl) ?_
          refine lv_iload_n hx hb dX9_soft_34 rfl (lv_at hl 2 rfl) ?_
          refine lv_iconst (v := nI 1) hx hb dX9_soft_35 (by decide) ?_
          refine xj_i (wc := (wD_60 h cs fI fL fA fQ fG fJ)) (wr := [(h 100, .inr (9, [.ref (h 101), .ref (h 102), .ref (h 103), .ref (h 104), .ref (h 105), .ref (h 106), .ref (h 107), .ref (h 108), .ref (h 109)])), (h 102, .inr (0, [.ref (h 101), .ref (h 140), .ref (h 141), .ref (h 142), .ref (h 143), .int (fI 144), .int (fI 145), .int (fI 146)])), (h 140, .inl (cs 0, 40, .inl (fA 140))), (h 141, .inl (cs 0, 40, .inl (fA 141))), (h 142, .inl (cs 0, 40, .inl (fA 142))), (h 143, .inl (cs 0, 40, .inl (fA 143))), (h 103, .inr (7, [.ref (h 150), .int (fI 151)])), (h 150, .inl (cs 2, 90, .inl (fA 150))), (h 104, .inr (4, [.ref (h 103), .ref (h 160), .int (fI 166), .int (fI 167), .int (fI 168), .int (fI 169)])), (h 160, .inl (cs 3, 5, .inr (.inr (.inr (.inr (fun i => if i < 5 then some (h (i + 161)) else none)))))), (h 161, .inl (cs 0, 4, .inl ((fG 1) 0))), (h 162, .inl (cs 0, 4, .inl ((fG 1) 1))), (h 163, .inl (cs 0, 4, .inl ((fG 1) 2))), (h 164, .inl (cs 0, 4, .inl ((fG 1) 3))), (h 165, .inl (cs 0, 4, .inl ((fG 1) 4))), (h 106, .inr (2, [.ref (h 180), .ref (h 185), .ref (h 186), .ref (h 187), .long (fL 188)])), (h 180, .inl (cs 4, 4, .inr (.inr (.inr (.inr (fun i => if i < 4 then some (h (i + 181)) else none)))))), (h 181, .inl (cs 1, 4, .inr (.inl ((fJ 0) 0)))), (h 182, .inl (cs 1, 4, .inr (.inl ((fJ 0) 1)))), (h 183, .inl (cs 1, 4, .inr (.inl ((fJ 0) 2)))), (h 184, .inl (cs 1, 4, .inr (.inl ((fJ 0) 3)))), (h 185, .inl (cs 1, 4, .inr (.inl (fQ 185)))), (h 186, .inl (cs 0, 4, .inl (fA 186))), (h 187, .inl (cs 1, 4, .inr (.inl (fQ 187)))), (h 107, .inr (6, [.ref (h 101), .ref (h 190), .ref (h 191), .ref (h 192)])), (h 190, .inl (cs 0, 5, .inl (fA 190))), (h 191, .inl (cs 0, 4, .inl (fA 191))), (h 192, .inl (cs 0, 4, .inl (fA 192))), (h 108, .inr (1, [.ref (h 101), .ref (h 200), .ref (h 206), .ref (h 211), .int (fI 212), .int (fI 213)])), (h 200, .inl (cs 3, 5, .inr (.inr (.inr (.inr (fun i => if i < 5 then some (h (i + 201)) else none)))))), (h 201, .inl (cs 0, 4, .inl ((fG 2) 0))), (h 202, .inl (cs 0, 4, .inl ((fG 2) 1))), (h 203, .inl (cs 0, 4, .inl ((fG 2) 2))), (h 204, .inl (cs 0, 4, .inl ((fG 2) 3))), (h 205, .inl (cs 0, 4, .inl ((fG 2) 4))), (h 206, .inl (cs 3, 4, .inr (.inr (.inr (.inr (fun i => if i < 4 then some (h (i + 207)) else none)))))), (h 207, .inl (cs 0, 4, .inl ((fG 3) 0))), (h 208, .inl (cs 0, 4, .inl ((fG 3) 1))), (h 209, .inl (cs 0, 4, .inl ((fG 3) 2))), (h 210, .inl (cs 0, 4, .inl ((fG 3) 3))), (h 211, .inl (cs 0, 5, .inl (fA 211))), (h 109, .inl (cs 5, 4, .inr (.inr (.inr (.inr (fun i => if i < 4 then some (h (i + 110)) else none)))))), (h 110, .inr (5, [.int (fI 220), .int (fI 224), .ref (h 228)])), (h 228, .inl (cs 1, 25, .inr (.inl (fQ 228)))), (h 111, .inr (5, [.int (fI 221), .int (fI 225), .ref (h 229)])), (h 229, .inl (cs 1, 25, .inr (.inl (fQ 229)))), (h 112, .inr (5, [.int (fI 222), .int (fI 226), .ref (h 230)])), (h 230, .inl (cs 1, 25, .inr (.inl (fQ 230)))), (h 113, .inr (5, [.int (fI 223), .int (fI 227), .ref (h 231)])), (h 231, .inl (cs 1, 25, .inr (.inl (fQ 231))))]) hP hD hS hA [23, 1, 2, 3, 4, 5, 6, 7, 8, 24, 25, 26] [0, 9, 10, 11, 12, 13, 14, 15, 16, 17, 18, 19, 20, 21, 22, 27, 28, 29, 30, 31, 32, 33, 34, 35, 36, 37, 38, 39, 40, 41, 42, 43, 44, 45, 46, 47, 48, 49, 50, 51, 52, 53, 54, 55, 56, 57, 58, 59, 60, 61] rfl rfl (by decide) (by decide) (va_runV (As := [.int (nI 1), .int (nI 0), .int (nI 1)]) (rest := []) ⟨hx, hb, hml, hown, hts⟩ (a_X8_leastWith_102 l dC dI h cs H.size fI fL fA fQ fG fJ ) (cwV 3 hts gX9_soft_X8_leastWith rfl rfl rfl (by decide +kernel) ⟨Nat.le_of_ble_eq_true rfl, Nat.le_of_ble_eq_true rfl⟩) (xpV (wc := (wD_60 h cs fI fL fA fQ fG fJ)) hP hD hK hN [23, 1, 2, 3, 4, 5, 6, 7, 8, 24, 25, 26] rfl (by decide) 23 (ci := 8) rfl rfl _) rfl rfl hl.1 rfl (lv_room (Nat.le_of_ble_eq_true rfl)) dX9_soft_36 ⟨Nat.zero_le _, Nat.zero_le _⟩) (fun r_32 u_31 H locs hw hP hD hS => ?_)
          obtain ⟨hf_33, rfl⟩ := hw
          have hP : va_P (dC, dI) vwCl (wAll h cs qI_75 fL fA fQ fG fJ) H := xP_sub hP [0, 51, 52, 53, 54, 55, 56, 57, 58, 1, 2, 3, 4, 5, 6, 7, 8, 9, 10, 11, 12, 13, 14, 50, 59, 60, 61, 15, 16, 17, 18, 19, 20, 21, 22, 23, 24, 25, 26, 27, 28, 29, 30, 31, 32, 33, 34, 35, 36, 37, 38, 39, 40, 41, 42, 43, 44, 45, 46, 47, 48, 49] rfl
          have hD : va_D A0 (wAll h cs qI_75 fL fA fQ fG fJ) := hD.sub [0, 51, 52, 53, 54, 55, 56, 57, 58, 1, 2, 3, 4, 5, 6, 7, 8, 9, 10, 11, 12, 13, 14, 50, 59, 60, 61, 15, 16, 17, 18, 19, 20, 21, 22, 23, 24, 25, 26, 27, 28, 29, 30, 31, 32, 33, 34, 35, 36, 37, 38, 39, 40, 41, 42, 43, 44, 45, 46, 47, 48, 49] (by decide) rfl
          obtain rfl := hf_33
          refine lv_aload_n hx hb dX9_soft_39 rfl (lv_at hl 0 rfl) ?_
          refine va_get (D := (dC, dI)) (ci := 9) (v := .ref (h 105)) (C := RX9) (T := TX9) (N := 9) hx hb hts hinX9 hown hK hP 0 rfl rfl 4 (by decide) (hts (.fieldLink RX9 44 "MixedWords" "words" "LMixedWords$Words;") (by decide +kernel)) (fun _ h9 => h9) rfl dX9_soft_40 ?_
          refine lv_iload_n hx hb dX9_soft_43 rfl (lv_at hl 1 rfl) ?_
          refine lv_iload_n hx hb dX9_soft_44 rfl (lv_at hl 2 rfl) ?_
          refine lv_iconst (v := nI 0) hx hb dX9_soft_45 (by decide) ?_
          refine xj_i (wc := (wD_60 h cs qI_75 fL fA fQ fG fJ)) (wr := [(h 100, .inr (9, [.ref (h 101), .ref (h 102), .ref (h 103), .ref (h 104), .ref (h 105), .ref (h 106), .ref (h 107), .ref (h 108), .ref (h 109)])), (h 102, .inr (0, [.ref (h 101), .ref (h 140), .ref (h 141), .ref (h 142), .ref (h 143), .int (qI_75 144), .int (qI_75 145), .int (qI_75 146)])), (h 140, .inl (cs 0, 40, .inl (fA 140))), (h 141, .inl (cs 0, 40, .inl (fA 141))), (h 142, .inl (cs 0, 40, .inl (fA 142))), (h 143, .inl (cs 0, 40, .inl (fA 143))), (h 103, .inr (7, [.ref (h 150), .int (qI_75 151)])), (h 150, .inl (cs 2, 90, .inl (fA 150))), (h 104, .inr (4, [.ref (h 103), .ref (h 160), .int (qI_75 166), .int (qI_75 167), .int (qI_75 168), .int (qI_75 169)])), (h 160, .inl (cs 3, 5, .inr (.inr (.inr (.inr (fun i => if i < 5 then some (h (i + 161)) else none)))))), (h 161, .inl (cs 0, 4, .inl ((fG 1) 0))), (h 162, .inl (cs 0, 4, .inl ((fG 1) 1))), (h 163, .inl (cs 0, 4, .inl ((fG 1) 2))), (h 164, .inl (cs 0, 4, .inl ((fG 1) 3))), (h 165, .inl (cs 0, 4, .inl ((fG 1) 4))), (h 106, .inr (2, [.ref (h 180), .ref (h 185), .ref (h 186), .ref (h 187), .long (fL 188)])), (h 180, .inl (cs 4, 4, .inr (.inr (.inr (.inr (fun i => if i < 4 then some (h (i + 181)) else none)))))), (h 181, .inl (cs 1, 4, .inr (.inl ((fJ 0) 0)))), (h 182, .inl (cs 1, 4, .inr (.inl ((fJ 0) 1)))), (h 183, .inl (cs 1, 4, .inr (.inl ((fJ 0) 2)))), (h 184, .inl (cs 1, 4, .inr (.inl ((fJ 0) 3)))), (h 185, .inl (cs 1, 4, .inr (.inl (fQ 185)))), (h 186, .inl (cs 0, 4, .inl (fA 186))), (h 187, .inl (cs 1, 4, .inr (.inl (fQ 187)))), (h 107, .inr (6, [.ref (h 101), .ref (h 190), .ref (h 191), .ref (h 192)])), (h 190, .inl (cs 0, 5, .inl (fA 190))), (h 191, .inl (cs 0, 4, .inl (fA 191))), (h 192, .inl (cs 0, 4, .inl (fA 192))), (h 108, .inr (1, [.ref (h 101), .ref (h 200), .ref (h 206), .ref (h 211), .int (qI_75 212), .int (qI_75 213)])), (h 200, .inl (cs 3, 5, .inr (.inr (.inr (.inr (fun i => if i < 5 then some (h (i + 201)) else none)))))), (h 201, .inl (cs 0, 4, .inl ((fG 2) 0))), (h 202, .inl (cs 0, 4, .inl ((fG 2) 1))), (h 203, .inl (cs 0, 4, .inl ((fG 2) 2))), (h 204, .inl (cs 0, 4, .inl ((fG 2) 3))), (h 205, .inl (cs 0, 4, .inl ((fG 2) 4))), (h 206, .inl (cs 3, 4, .inr (.inr (.inr (.inr (fun i => if i < 4 then some (h (i + 207)) else none)))))), (h 207, .inl (cs 0, 4, .inl ((fG 3) 0))), (h 208, .inl (cs 0, 4, .inl ((fG 3) 1))), (h 209, .inl (cs 0, 4, .inl ((fG 3) 2))), (h 210, .inl (cs 0, 4, .inl ((fG 3) 3))), (h 211, .inl (cs 0, 5, .inl (fA 211))), (h 109, .inl (cs 5, 4, .inr (.inr (.inr (.inr (fun i => if i < 4 then some (h (i + 110)) else none)))))), (h 110, .inr (5, [.int (qI_75 220), .int (qI_75 224), .ref (h 228)])), (h 228, .inl (cs 1, 25, .inr (.inl (fQ 228)))), (h 111, .inr (5, [.int (qI_75 221), .int (qI_75 225), .ref (h 229)])), (h 229, .inl (cs 1, 25, .inr (.inl (fQ 229)))), (h 112, .inr (5, [.int (qI_75 222), .int (qI_75 226), .ref (h 230)])), (h 230, .inl (cs 1, 25, .inr (.inl (fQ 230)))), (h 113, .inr (5, [.int (qI_75 223), .int (qI_75 227), .ref (h 231)])), (h 231, .inl (cs 1, 25, .inr (.inl (fQ 231))))]) hP hD hS hA [23, 1, 2, 3, 4, 5, 6, 7, 8, 24, 25, 26] [0, 9, 10, 11, 12, 13, 14, 15, 16, 17, 18, 19, 20, 21, 22, 27, 28, 29, 30, 31, 32, 33, 34, 35, 36, 37, 38, 39, 40, 41, 42, 43, 44, 45, 46, 47, 48, 49, 50, 51, 52, 53, 54, 55, 56, 57, 58, 59, 60, 61] rfl rfl (by decide) (by decide) (va_runV (As := [.int (nI 1), .int (nI 0), .int (nI 0)]) (rest := [.int (nI 0)]) ⟨hx, hb, hml, hown, hts⟩ (a_X8_leastWith_111 l dC dI h cs H.size qI_75 fL fA fQ fG fJ ) (cwV 3 hts gX9_soft_X8_leastWith rfl rfl rfl (by decide +kernel) ⟨Nat.le_of_ble_eq_true rfl, Nat.le_of_ble_eq_true rfl⟩) (xpV (wc := (wD_60 h cs qI_75 fL fA fQ fG fJ)) hP hD hK hN [23, 1, 2, 3, 4, 5, 6, 7, 8, 24, 25, 26] rfl (by decide) 23 (ci := 8) rfl rfl _) rfl rfl hl.1 rfl (lv_room (Nat.le_of_ble_eq_true rfl)) dX9_soft_46 ⟨Nat.zero_le _, Nat.zero_le _⟩) (fun r_35 u_34 H locs hw hP hD hS => ?_)
          obtain ⟨hf_36, rfl⟩ := hw
          have hP : va_P (dC, dI) vwCl (wAll h cs qI_75 fL fA fQ fG fJ) H := xP_sub hP [0, 51, 52, 53, 54, 55, 56, 57, 58, 1, 2, 3, 4, 5, 6, 7, 8, 9, 10, 11, 12, 13, 14, 50, 59, 60, 61, 15, 16, 17, 18, 19, 20, 21, 22, 23, 24, 25, 26, 27, 28, 29, 30, 31, 32, 33, 34, 35, 36, 37, 38, 39, 40, 41, 42, 43, 44, 45, 46, 47, 48, 49] rfl
          have hD : va_D A0 (wAll h cs qI_75 fL fA fQ fG fJ) := hD.sub [0, 51, 52, 53, 54, 55, 56, 57, 58, 1, 2, 3, 4, 5, 6, 7, 8, 9, 10, 11, 12, 13, 14, 50, 59, 60, 61, 15, 16, 17, 18, 19, 20, 21, 22, 23, 24, 25, 26, 27, 28, 29, 30, 31, 32, 33, 34, 35, 36, 37, 38, 39, 40, 41, 42, 43, 44, 45, 46, 47, 48, 49] (by decide) rfl
          obtain rfl := hf_36
          refine lv_isub hx hb dX9_soft_49 ?_
          refine xt_i (y := nI 0) (by decide +kernel) ?_
          exact xr_i (v := (nI 0)) hx hb hr hlocks hK hS dX9_soft_50 (qI_75, fL, fA, fQ, fG, fJ) ⟨qI_75, (by decide +kernel), rfl⟩ hP hD
      · skip
        refine lv_aload_n hx hb dX9_soft_0 rfl (lv_at hl 0 rfl) ?_
        refine va_get (D := (dC, dI)) (ci := 9) (v := .ref (h 101)) (C := RX9) (T := TX9) (N := 9) hx hb hts hinX9 hown hK hP 0 rfl rfl 0 (by decide) (hts (.fieldLink RX9 12 "MixedWords" "mix" "LMixedWords$Mix;") (by decide +kernel)) (fun _ h9 => h9) rfl dX9_soft_1 ?_
        refine lv_iload_n hx hb dX9_soft_4 rfl (lv_at hl 1 rfl) ?_
        refine xj_i (wc := (wD_32 h cs fI fL fA fQ fG fJ)) (wr := [(h 100, .inr (9, [.ref (h 101), .ref (h 102), .ref (h 103), .ref (h 104), .ref (h 105), .ref (h 106), .ref (h 107), .ref (h 108), .ref (h 109)])), (h 102, .inr (0, [.ref (h 101), .ref (h 140), .ref (h 141), .ref (h 142), .ref (h 143), .int (fI 144), .int (fI 145), .int (fI 146)])), (h 140, .inl (cs 0, 40, .inl (fA 140))), (h 141, .inl (cs 0, 40, .inl (fA 141))), (h 142, .inl (cs 0, 40, .inl (fA 142))), (h 143, .inl (cs 0, 40, .inl (fA 143))), (h 103, .inr (7, [.ref (h 150), .int (fI 151)])), (h 150, .inl (cs 2, 90, .inl (fA 150))), (h 104, .inr (4, [.ref (h 103), .ref (h 160), .int (fI 166), .int (fI 167), .int (fI 168), .int (fI 169)])), (h 160, .inl (cs 3, 5, .inr (.inr (.inr (.inr (fun i => if i < 5 then some (h (i + 161)) else none)))))), (h 161, .inl (cs 0, 4, .inl ((fG 1) 0))), (h 162, .inl (cs 0, 4, .inl ((fG 1) 1))), (h 163, .inl (cs 0, 4, .inl ((fG 1) 2))), (h 164, .inl (cs 0, 4, .inl ((fG 1) 3))), (h 165, .inl (cs 0, 4, .inl ((fG 1) 4))), (h 105, .inr (8, [.ref (h 101), .ref (h 170), .ref (h 171), .ref (h 172), .int (fI 173), .int (fI 174)])), (h 170, .inl (cs 0, 256, .inl (fA 170))), (h 171, .inl (cs 0, 256, .inl (fA 171))), (h 172, .inl (cs 0, 256, .inl (fA 172))), (h 106, .inr (2, [.ref (h 180), .ref (h 185), .ref (h 186), .ref (h 187), .long (fL 188)])), (h 180, .inl (cs 4, 4, .inr (.inr (.inr (.inr (fun i => if i < 4 then some (h (i + 181)) else none)))))), (h 181, .inl (cs 1, 4, .inr (.inl ((fJ 0) 0)))), (h 182, .inl (cs 1, 4, .inr (.inl ((fJ 0) 1)))), (h 183, .inl (cs 1, 4, .inr (.inl ((fJ 0) 2)))), (h 184, .inl (cs 1, 4, .inr (.inl ((fJ 0) 3)))), (h 185, .inl (cs 1, 4, .inr (.inl (fQ 185)))), (h 186, .inl (cs 0, 4, .inl (fA 186))), (h 187, .inl (cs 1, 4, .inr (.inl (fQ 187)))), (h 107, .inr (6, [.ref (h 101), .ref (h 190), .ref (h 191), .ref (h 192)])), (h 190, .inl (cs 0, 5, .inl (fA 190))), (h 191, .inl (cs 0, 4, .inl (fA 191))), (h 192, .inl (cs 0, 4, .inl (fA 192))), (h 108, .inr (1, [.ref (h 101), .ref (h 200), .ref (h 206), .ref (h 211), .int (fI 212), .int (fI 213)])), (h 200, .inl (cs 3, 5, .inr (.inr (.inr (.inr (fun i => if i < 5 then some (h (i + 201)) else none)))))), (h 201, .inl (cs 0, 4, .inl ((fG 2) 0))), (h 202, .inl (cs 0, 4, .inl ((fG 2) 1))), (h 203, .inl (cs 0, 4, .inl ((fG 2) 2))), (h 204, .inl (cs 0, 4, .inl ((fG 2) 3))), (h 205, .inl (cs 0, 4, .inl ((fG 2) 4))), (h 206, .inl (cs 3, 4, .inr (.inr (.inr (.inr (fun i => if i < 4 then some (h (i + 207)) else none)))))), (h 207, .inl (cs 0, 4, .inl ((fG 3) 0))), (h 208, .inl (cs 0, 4, .inl ((fG 3) 1))), (h 209, .inl (cs 0, 4, .inl ((fG 3) 2))), (h 210, .inl (cs 0, 4, .inl ((fG 3) 3))), (h 211, .inl (cs 0, 5, .inl (fA 211))), (h 109, .inl (cs 5, 4, .inr (.inr (.inr (.inr (fun i => if i < 4 then some (h (i + 110)) else none)))))), (h 110, .inr (5, [.int (fI 220), .int (fI 224), .ref (h 228)])), (h 228, .inl (cs 1, 25, .inr (.inl (fQ 228)))), (h 111, .inr (5, [.int (fI 221), .int (fI 225), .ref (h 229)])), (h 229, .inl (cs 1, 25, .inr (.inl (fQ 229)))), (h 112, .inr (5, [.int (fI 222), .int (fI 226), .ref (h 230)])), (h 230, .inl (cs 1, 25, .inr (.inl (fQ 230)))), (h 113, .inr (5, [.int (fI 223), .int (fI 227), .ref (h 231)])), (h 231, .inl (cs 1, 25, .inr (.inl (fQ 231))))]) hP hD hS hA [1, 2, 3, 4, 5, 6, 7, 8] [0, 9, 10, 11, 12, 13, 14, 15, 16, 17, 18, 19, 20, 21, 22, 23, 24, 25, 26, 27, 28, 29, 30, 31, 32, 33, 34, 35, 36, 37, 38, 39, 40, 41, 42, 43, 44, 45, 46, 47, 48, 49, 50, 51, 52, 53, 54, 55, 56, 57, 58, 59, 60, 61] rfl rfl (by decide) (by decide) (va_runV (As := [.int (nI 1)]) (rest := []) ⟨hx, hb, hml, hown, hts⟩ (a_X3_hasColumn_101 l dC dI h cs H.size fI fL fA fQ fG fJ ) (cwV 1 hts gX9_soft_X3_hasColumn rfl rfl rfl (by decide +kernel) ⟨Nat.le_of_ble_eq_true rfl, Nat.le_of_ble_eq_true rfl⟩) (xpV (wc := (wD_32 h cs fI fL fA fQ fG fJ)) hP hD hK hN [1, 2, 3, 4, 5, 6, 7, 8] rfl (by decide) 1 (ci := 3) rfl rfl _) rfl rfl hl.1 rfl (lv_room (Nat.le_of_ble_eq_true rfl)) dX9_soft_5 ⟨Nat.zero_le _, Nat.zero_le _⟩) (fun r_38 u_37 H locs hw hP hD hS => ?_)
        obtain ⟨hf_39, rfl⟩ := hw
        have hP : va_P (dC, dI) vwCl (wAll h cs fI fL fA fQ fG fJ) H := xP_sub hP [0, 54, 55, 56, 57, 58, 59, 60, 61, 1, 2, 3, 4, 5, 6, 7, 8, 9, 10, 11, 12, 13, 14, 15, 16, 17, 18, 19, 20, 21, 22, 23, 24, 25, 26, 27, 28, 29, 30, 31, 32, 33, 34, 35, 36, 37, 38, 39, 40, 41, 42, 43, 44, 45, 46, 47, 48, 49, 50, 51, 52, 53] rfl
        have hD : va_D A0 (wAll h cs fI fL fA fQ fG fJ) := hD.sub [0, 54, 55, 56, 57, 58, 59, 60, 61, 1, 2, 3, 4, 5, 6, 7, 8, 9, 10, 11, 12, 13, 14, 15, 16, 17, 18, 19, 20, 21, 22, 23, 24, 25, 26, 27, 28, 29, 30, 31, 32, 33, 34, 35, 36, 37, 38, 39, 40, 41, 42, 43, 44, 45, 46, 47, 48, 49, 50, 51, 52, 53] (by decide) rfl
        obtain rfl := hf_39
        refine lv_if_eq (tgt := 26) hx hb dX9_soft_8 (by decide) (fun c9 => False.elim (by revert c9; decide +kernel)) (fun _ => ?_)
        refine lv_iload_n hx hb dX9_soft_11 rfl (lv_at hl 2 rfl) ?_
        refine lv_if_lt (tgt := 26) hx hb dX9_soft_12 (by decide) (fun c_12_39 => ?_) (fun c_12_39 => ?_)
        · skip
          have t_t_40 : y.toInt < 0 := zc_tlt (K := 0) (by decide +kernel) c_12_39
          refine lv_ldc (v := (-100000001)) hx hb hown (hts (.constant RX9 169 (-100000001)) (by decide +kernel)) dX9_soft_26 ?_
          exact xr_i (v := (-100000001 : Int32)) hx hb hr hlocks hK hS dX9_soft_28 (fI, fL, fA, fQ, fG, fJ) ⟨fI, (by unfold an_soft; rw [if_neg (by omega)]), rfl⟩ hP hD
        · skip
          have t_f_41 : 0 ≤ y.toInt := zc_flt (K := 0) (by decide +kernel) c_12_39
          refine lv_iload_n hx hb dX9_soft_15 rfl (lv_at hl 2 rfl) ?_
          refine lv_aload_n hx hb dX9_soft_16 rfl (lv_at hl 0 rfl) ?_
          refine va_get (D := (dC, dI)) (ci := 9) (v := .ref (h 101)) (C := RX9) (T := TX9) (N := 9) hx hb hts hinX9 hown hK hP 0 rfl rfl 0 (by decide) (hts (.fieldLink RX9 12 "MixedWords" "mix" "LMixedWords$Mix;") (by decide +kernel)) (fun _ h9 => h9) rfl dX9_soft_17 ?_
          refine xj_i (wc := (wD_32 h cs fI fL fA fQ fG fJ)) (wr := [(h 100, .inr (9, [.ref (h 101), .ref (h 102), .ref (h 103), .ref (h 104), .ref (h 105), .ref (h 106), .ref (h 107), .ref (h 108), .ref (h 109)])), (h 102, .inr (0, [.ref (h 101), .ref (h 140), .ref (h 141), .ref (h 142), .ref (h 143), .int (fI 144), .int (fI 145), .int (fI 146)])), (h 140, .inl (cs 0, 40, .inl (fA 140))), (h 141, .inl (cs 0, 40, .inl (fA 141))), (h 142, .inl (cs 0, 40, .inl (fA 142))), (h 143, .inl (cs 0, 40, .inl (fA 143))), (h 103, .inr (7, [.ref (h 150), .int (fI 151)])), (h 150, .inl (cs 2, 90, .inl (fA 150))), (h 104, .inr (4, [.ref (h 103), .ref (h 160), .int (fI 166), .int (fI 167), .int (fI 168), .int (fI 169)])), (h 160, .inl (cs 3, 5, .inr (.inr (.inr (.inr (fun i => if i < 5 then some (h (i + 161)) else none)))))), (h 161, .inl (cs 0, 4, .inl ((fG 1) 0))), (h 162, .inl (cs 0, 4, .inl ((fG 1) 1))), (h 163, .inl (cs 0, 4, .inl ((fG 1) 2))), (h 164, .inl (cs 0, 4, .inl ((fG 1) 3))), (h 165, .inl (cs 0, 4, .inl ((fG 1) 4))), (h 105, .inr (8, [.ref (h 101), .ref (h 170), .ref (h 171), .ref (h 172), .int (fI 173), .int (fI 174)])), (h 170, .inl (cs 0, 256, .inl (fA 170))), (h 171, .inl (cs 0, 256, .inl (fA 171))), (h 172, .inl (cs 0, 256, .inl (fA 172))), (h 106, .inr (2, [.ref (h 180), .ref (h 185), .ref (h 186), .ref (h 187), .long (fL 188)])), (h 180, .inl (cs 4, 4, .inr (.inr (.inr (.inr (fun i => if i < 4 then some (h (i + 181)) else none)))))), (h 181, .inl (cs 1, 4, .inr (.inl ((fJ 0) 0)))), (h 182, .inl (cs 1, 4, .inr (.inl ((fJ 0) 1)))), (h 183, .inl (cs 1, 4, .inr (.inl ((fJ 0) 2)))), (h 184, .inl (cs 1, 4, .inr (.inl ((fJ 0) 3)))), (h 185, .inl (cs 1, 4, .inr (.inl (fQ 185)))), (h 186, .inl (cs 0, 4, .inl (fA 186))), (h 187, .inl (cs 1, 4, .inr (.inl (fQ 187)))), (h 107, .inr (6, [.ref (h 101), .ref (h 190), .ref (h 191), .ref (h 192)])), (h 190, .inl (cs 0, 5, .inl (fA 190))), (h 191, .inl (cs 0, 4, .inl (fA 191))), (h 192, .inl (cs 0, 4, .inl (fA 192))), (h 108, .inr (1, [.ref (h 101), .ref (h 200), .ref (h 206), .ref (h 211), .int (fI 212), .int (fI 213)])), (h 200, .inl (cs 3, 5, .inr (.inr (.inr (.inr (fun i => if i < 5 then some (h (i + 201)) else none)))))), (h 201, .inl (cs 0, 4, .inl ((fG 2) 0))), (h 202, .inl (cs 0, 4, .inl ((fG 2) 1))), (h 203, .inl (cs 0, 4, .inl ((fG 2) 2))), (h 204, .inl (cs 0, 4, .inl ((fG 2) 3))), (h 205, .inl (cs 0, 4, .inl ((fG 2) 4))), (h 206, .inl (cs 3, 4, .inr (.inr (.inr (.inr (fun i => if i < 4 then some (h (i + 207)) else none)))))), (h 207, .inl (cs 0, 4, .inl ((fG 3) 0))), (h 208, .inl (cs 0, 4, .inl ((fG 3) 1))), (h 209, .inl (cs 0, 4, .inl ((fG 3) 2))), (h 210, .inl (cs 0, 4, .inl ((fG 3) 3))), (h 211, .inl (cs 0, 5, .inl (fA 211))), (h 109, .inl (cs 5, 4, .inr (.inr (.inr (.inr (fun i => if i < 4 then some (h (i + 110)) else none)))))), (h 110, .inr (5, [.int (fI 220), .int (fI 224), .ref (h 228)])), (h 228, .inl (cs 1, 25, .inr (.inl (fQ 228)))), (h 111, .inr (5, [.int (fI 221), .int (fI 225), .ref (h 229)])), (h 229, .inl (cs 1, 25, .inr (.inl (fQ 229)))), (h 112, .inr (5, [.int (fI 222), .int (fI 226), .ref (h 230)])), (h 230, .inl (cs 1, 25, .inr (.inl (fQ 230)))), (h 113, .inr (5, [.int (fI 223), .int (fI 227), .ref (h 231)])), (h 231, .inl (cs 1, 25, .inr (.inl (fQ 231))))]) hP hD hS hA [1, 2, 3, 4, 5, 6, 7, 8] [0, 9, 10, 11, 12, 13, 14, 15, 16, 17, 18, 19, 20, 21, 22, 23, 24, 25, 26, 27, 28, 29, 30, 31, 32, 33, 34, 35, 36, 37, 38, 39, 40, 41, 42, 43, 44, 45, 46, 47, 48, 49, 50, 51, 52, 53, 54, 55, 56, 57, 58, 59, 60, 61] rfl rfl (by decide) (by decide) (va_runV (As := []) (rest := [.int y]) ⟨hx, hb, hml, hown, hts⟩ (a_X3_bitsOfLetter_59 l dC dI h cs H.size fI fL fA fQ fG fJ ) (cwV 0 hts gX9_soft_X3_bitsOfLetter rfl rfl rfl (by decide +kernel) ⟨Nat.le_of_ble_eq_true rfl, Nat.le_of_ble_eq_true rfl⟩) (xpV (wc := (wD_32 h cs fI fL fA fQ fG fJ)) hP hD hK hN [1, 2, 3, 4, 5, 6, 7, 8] rfl (by decide) 1 (ci := 3) rfl rfl _) rfl rfl hl.1 rfl (lv_room (Nat.le_of_ble_eq_true rfl)) dX9_soft_20 ⟨Nat.zero_le _, Nat.zero_le _⟩) (fun r_44 u_43 H locs hw hP hD hS => ?_)
          obtain ⟨hf_45, rfl⟩ := hw
          have hP : va_P (dC, dI) vwCl (wAll h cs fI fL fA fQ fG fJ) H := xP_sub hP [0, 54, 55, 56, 57, 58, 59, 60, 61, 1, 2, 3, 4, 5, 6, 7, 8, 9, 10, 11, 12, 13, 14, 15, 16, 17, 18, 19, 20, 21, 22, 23, 24, 25, 26, 27, 28, 29, 30, 31, 32, 33, 34, 35, 36, 37, 38, 39, 40, 41, 42, 43, 44, 45, 46, 47, 48, 49, 50, 51, 52, 53] rfl
          have hD : va_D A0 (wAll h cs fI fL fA fQ fG fJ) := hD.sub [0, 54, 55, 56, 57, 58, 59, 60, 61, 1, 2, 3, 4, 5, 6, 7, 8, 9, 10, 11, 12, 13, 14, 15, 16, 17, 18, 19, 20, 21, 22, 23, 24, 25, 26, 27, 28, 29, 30, 31, 32, 33, 34, 35, 36, 37, 38, 39, 40, 41, 42, 43, 44, 45, 46, 47, 48, 49, 50, 51, 52, 53] (by decide) rfl
          obtain rfl := hf_45
          refine lv_icmp_lt (tgt := 29) hx hb dX9_soft_23 (by decide) (fun c_23_45 => ?_) (fun c_23_45 => ?_)
          · skip
            have t_t_46 : y.toInt < 1 := zc_tlt (K := nI 1) (by decide +kernel) c_23_45
            exact absurd t_t_46 (by omega)
          · skip
            have t_f_47 : 1 ≤ y.toInt := zc_flt (K := nI 1) (by decide +kernel) c_23_45
            refine lv_ldc (v := (-100000001)) hx hb hown (hts (.constant RX9 169 (-100000001)) (by decide +kernel)) dX9_soft_26 ?_
            exact xr_i (v := (-100000001 : Int32)) hx hb hr hlocks hK hS dX9_soft_28 (fI, fL, fA, fQ, fG, fJ) ⟨fI, (by unfold an_soft; rw [if_neg (by omega)]), rfl⟩ hP hD
  · skip
    refine lv_aload_n hx hb dX9_soft_0 rfl (lv_at hl 0 rfl) ?_
    refine va_get (D := (dC, dI)) (ci := 9) (v := .ref (h 101)) (C := RX9) (T := TX9) (N := 9) hx hb hts hinX9 hown hK hP 0 rfl rfl 0 (by decide) (hts (.fieldLink RX9 12 "MixedWords" "mix" "LMixedWords$Mix;") (by decide +kernel)) (fun _ h9 => h9) rfl dX9_soft_1 ?_
    refine lv_iload_n hx hb dX9_soft_4 rfl (lv_at hl 1 rfl) ?_
    refine xj_i (wc := (wMix h cs fI fL fA fQ fG fJ)) (wr := [(h 100, .inr (9, [.ref (h 101), .ref (h 102), .ref (h 103), .ref (h 104), .ref (h 105), .ref (h 106), .ref (h 107), .ref (h 108), .ref (h 109)])), (h 102, .inr (0, [.ref (h 101), .ref (h 140), .ref (h 141), .ref (h 142), .ref (h 143), .int (fI 144), .int (fI 145), .int (fI 146)])), (h 140, .inl (cs 0, 40, .inl (fA 140))), (h 141, .inl (cs 0, 40, .inl (fA 141))), (h 142, .inl (cs 0, 40, .inl (fA 142))), (h 143, .inl (cs 0, 40, .inl (fA 143))), (h 103, .inr (7, [.ref (h 150), .int (fI 151)])), (h 150, .inl (cs 2, 90, .inl (fA 150))), (h 104, .inr (4, [.ref (h 103), .ref (h 160), .int (fI 166), .int (fI 167), .int (fI 168), .int (fI 169)])), (h 160, .inl (cs 3, 5, .inr (.inr (.inr (.inr (fun i => if i < 5 then some (h (i + 161)) else none)))))), (h 161, .inl (cs 0, 4, .inl ((fG 1) 0))), (h 162, .inl (cs 0, 4, .inl ((fG 1) 1))), (h 163, .inl (cs 0, 4, .inl ((fG 1) 2))), (h 164, .inl (cs 0, 4, .inl ((fG 1) 3))), (h 165, .inl (cs 0, 4, .inl ((fG 1) 4))), (h 105, .inr (8, [.ref (h 101), .ref (h 170), .ref (h 171), .ref (h 172), .int (fI 173), .int (fI 174)])), (h 170, .inl (cs 0, 256, .inl (fA 170))), (h 171, .inl (cs 0, 256, .inl (fA 171))), (h 172, .inl (cs 0, 256, .inl (fA 172))), (h 106, .inr (2, [.ref (h 180), .ref (h 185), .ref (h 186), .ref (h 187), .long (fL 188)])), (h 180, .inl (cs 4, 4, .inr (.inr (.inr (.inr (fun i => if i < 4 then some (h (i + 181)) else none)))))), (h 181, .inl (cs 1, 4, .inr (.inl ((fJ 0) 0)))), (h 182, .inl (cs 1, 4, .inr (.inl ((fJ 0) 1)))), (h 183, .inl (cs 1, 4, .inr (.inl ((fJ 0) 2)))), (h 184, .inl (cs 1, 4, .inr (.inl ((fJ 0) 3)))), (h 185, .inl (cs 1, 4, .inr (.inl (fQ 185)))), (h 186, .inl (cs 0, 4, .inl (fA 186))), (h 187, .inl (cs 1, 4, .inr (.inl (fQ 187)))), (h 107, .inr (6, [.ref (h 101), .ref (h 190), .ref (h 191), .ref (h 192)])), (h 190, .inl (cs 0, 5, .inl (fA 190))), (h 191, .inl (cs 0, 4, .inl (fA 191))), (h 192, .inl (cs 0, 4, .inl (fA 192))), (h 108, .inr (1, [.ref (h 101), .ref (h 200), .ref (h 206), .ref (h 211), .int (fI 212), .int (fI 213)])), (h 200, .inl (cs 3, 5, .inr (.inr (.inr (.inr (fun i => if i < 5 then some (h (i + 201)) else none)))))), (h 201, .inl (cs 0, 4, .inl ((fG 2) 0))), (h 202, .inl (cs 0, 4, .inl ((fG 2) 1))), (h 203, .inl (cs 0, 4, .inl ((fG 2) 2))), (h 204, .inl (cs 0, 4, .inl ((fG 2) 3))), (h 205, .inl (cs 0, 4, .inl ((fG 2) 4))), (h 206, .inl (cs 3, 4, .inr (.inr (.inr (.inr (fun i => if i < 4 then some (h (i + 207)) else none)))))), (h 207, .inl (cs 0, 4, .inl ((fG 3) 0))), (h 208, .inl (cs 0, 4, .inl ((fG 3) 1))), (h 209, .inl (cs 0, 4, .inl ((fG 3) 2))), (h 210, .inl (cs 0, 4, .inl ((fG 3) 3))), (h 211, .inl (cs 0, 5, .inl (fA 211))), (h 109, .inl (cs 5, 4, .inr (.inr (.inr (.inr (fun i => if i < 4 then some (h (i + 110)) else none)))))), (h 110, .inr (5, [.int (fI 220), .int (fI 224), .ref (h 228)])), (h 228, .inl (cs 1, 25, .inr (.inl (fQ 228)))), (h 111, .inr (5, [.int (fI 221), .int (fI 225), .ref (h 229)])), (h 229, .inl (cs 1, 25, .inr (.inl (fQ 229)))), (h 112, .inr (5, [.int (fI 222), .int (fI 226), .ref (h 230)])), (h 230, .inl (cs 1, 25, .inr (.inl (fQ 230)))), (h 113, .inr (5, [.int (fI 223), .int (fI 227), .ref (h 231)])), (h 231, .inl (cs 1, 25, .inr (.inl (fQ 231))))]) hP hD hS hA [1, 2, 3, 4, 5, 6, 7, 8] [0, 9, 10, 11, 12, 13, 14, 15, 16, 17, 18, 19, 20, 21, 22, 23, 24, 25, 26, 27, 28, 29, 30, 31, 32, 33, 34, 35, 36, 37, 38, 39, 40, 41, 42, 43, 44, 45, 46, 47, 48, 49, 50, 51, 52, 53, 54, 55, 56, 57, 58, 59, 60, 61] rfl rfl (by decide) (by decide) (va_runV (As := [.int x]) (rest := []) ⟨hx, hb, hml, hown, hts⟩ (k_X3_hasColumn l dC dI h cs H.size fI fL fA fQ fG fJ x 2 (by decide +kernel) (by first | assumption | omega) (by first | assumption | omega)) (cwV 1 hts gX9_soft_X3_hasColumn rfl rfl rfl (by decide +kernel) ⟨Nat.le_of_ble_eq_true rfl, Nat.le_of_ble_eq_true rfl⟩) (xpV (wc := (wMix h cs fI fL fA fQ fG fJ)) hP hD hK hN [1, 2, 3, 4, 5, 6, 7, 8] rfl (by decide) 1 (ci := 3) rfl rfl _) rfl rfl hl.1 rfl (lv_room (Nat.le_of_ble_eq_true rfl)) dX9_soft_5 ⟨Nat.zero_le _, Nat.zero_le _⟩) (fun r_50 u_49 H locs hw hP hD hS => ?_)
    obtain ⟨hf_51, rfl⟩ := hw
    have hP : va_P (dC, dI) vwCl (wAll h cs fI fL fA fQ fG fJ) H := xP_sub hP [0, 54, 55, 56, 57, 58, 59, 60, 61, 1, 2, 3, 4, 5, 6, 7, 8, 9, 10, 11, 12, 13, 14, 15, 16, 17, 18, 19, 20, 21, 22, 23, 24, 25, 26, 27, 28, 29, 30, 31, 32, 33, 34, 35, 36, 37, 38, 39, 40, 41, 42, 43, 44, 45, 46, 47, 48, 49, 50, 51, 52, 53] rfl
    have hD : va_D A0 (wAll h cs fI fL fA fQ fG fJ) := hD.sub [0, 54, 55, 56, 57, 58, 59, 60, 61, 1, 2, 3, 4, 5, 6, 7, 8, 9, 10, 11, 12, 13, 14, 15, 16, 17, 18, 19, 20, 21, 22, 23, 24, 25, 26, 27, 28, 29, 30, 31, 32, 33, 34, 35, 36, 37, 38, 39, 40, 41, 42, 43, 44, 45, 46, 47, 48, 49, 50, 51, 52, 53] (by decide) rfl
    rcases hf_51 with ⟨rfl, i_52, hh_53, ee_54⟩ | ⟨rfl, -⟩
    · skip
      exact absurd (by rw [ee_54, nI_toInt (by omega)]; omega) hz_x
    · skip
      refine lv_if_eq (tgt := 26) hx hb dX9_soft_8 (by decide) (fun _ => ?_) (fun c9 => False.elim (by revert c9; decide +kernel))
      refine lv_ldc (v := (-100000001)) hx hb hown (hts (.constant RX9 169 (-100000001)) (by decide +kernel)) dX9_soft_26 ?_
      exact xr_i (v := (-100000001 : Int32)) hx hb hr hlocks hK hS dX9_soft_28 (fI, fL, fA, fQ, fG, fJ) ⟨fI, (by unfold an_soft; rw [if_neg (by omega)]), rfl⟩ hP hD
