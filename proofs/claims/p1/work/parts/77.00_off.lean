set_option maxHeartbeats 4000000 in
set_option maxRecDepth 100000 in
theorem a_X3_bitsOfLetter_59 (l : Launch) (dC : Nat → ClassId) (dI : Nat → Nat → Nat) (h : Nat → Nat) (cs : Nat → ClassId) (sz : Nat) (I : Nat → Int32) (L : Nat → Int64) (A : Nat → Nat → Int32) (Q : Nat → Nat → Int64) (G : Nat → Nat → Nat → Int32) (J : Nat → Nat → Nat → Int64) : Met l yX3_bitsOfLetter wsX3_bitsOfLetter ({ frames := 0, cells := 0, slots := 0, locals := 0 }) (va_Pc [.ref (h 101)] (xPre (dC, dI) (wD_32 h cs fI fL fA fQ fG fJ) (tysA cs) sz)) (va_Qi (fun (r : Int32) (u : CS) => (r = nI 1) ∧ u = (fI, fL, fA, fQ, fG, fJ)) (xB (dC, dI) (tysA cs) (va_A (wD_32 h cs fI fL fA fQ fG fJ) sz) (fun u : CS => wD_32 h cs u.1 u.2.1 u.2.2.1 u.2.2.2.1 u.2.2.2.2.1 u.2.2.2.2.2)) (va_A (wD_32 h cs fI fL fA fQ fG fJ) sz)) 0 0 (va_A (wD_32 h cs fI fL fA fQ fG fJ) sz) := by
  refine Met.ofW (cc := cX3_bitsOfLetter) (maxL := 1) (ret := (some .int)) (by decide) rfl ?_
  intro p e s m args below meth c s₁ B hml hv
  obtain ⟨rfl, hsz, hP, hK, hD0, hN⟩ := hv
  have hx := B.exec
  have hb := B.bytes
  have hr := B.returns
  have hts := atoms_spec (ws := wsX3_bitsOfLetter) B.pre
  have hown : s.vm.findClass RX3 = some m.cls := findClass_of_methodNamed B.named
  have hlocks := B.notSynchronized
  subst hsz
  have hD := hD0.self (sz := s.heap.size)
  generalize hAe : va_A (wD_32 h cs fI fL fA fQ fG fJ) s.heap.size = A0 at hD ⊢
  have hA : ∀ q : Nat, s.heap.size ≤ q → A0 q := fun q h => by rw [← hAe]; exact Or.inr h
  have hl := lv_entry ([.ref (h 101)]) (n := 1) (Nat.le_of_ble_eq_true rfl)
  rw [lg_entry_eq]
  generalize (lg_sl ([.ref (h 101)]) ++ List.replicate (1 - (lg_sl ([.ref (h 101)])).length) Slot.unset).toArray = ls at hl ⊢
  have hl : lv_has ls 1 [(0, .ref (h 101))] := hl
  generalize hH : s.heap = H at hP ⊢
  have hS : va_S A0 s.heap H [] := by rw [← hH]; exact va_S.rf
  have hinX3 : ∀ w ∈ wsX30, w ∈ wsX3_bitsOfLetter := by decide +kernel
  refine lv_aload_n hx hb dX3_bitsOfLetter_0 rfl (lv_at hl 0 rfl) ?_
  refine va_get (D := (dC, dI)) (ci := 3) (v := .int (fI 122)) (C := RX3) (T := TX3) (N := 6) hx hb hts hinX3 hown hK hP 0 rfl rfl 2 (by decide) (hts (.fieldLink RX3 18 "MixedWords$Mix" "letterCount" "I") (by decide +kernel)) (fun _ h9 => h9) rfl dX3_bitsOfLetter_1 ?_
  refine xt_i (y := nI 2) (by decide +kernel) ?_
  refine lv_iconst (v := nI 4) hx hb dX3_bitsOfLetter_4 (by decide) ?_
  refine lv_icmp_ne (tgt := 12) hx hb dX3_bitsOfLetter_5 (by decide) (fun _ => ?_) (fun c9 => False.elim (by revert c9; decide +kernel))
  refine lv_iconst (v := nI 1) hx hb dX3_bitsOfLetter_12 (by decide) ?_
  exact xr_i (v := (nI 1)) hx hb hr hlocks hK hS dX3_bitsOfLetter_13 (fI, fL, fA, fQ, fG, fJ) ⟨rfl, rfl⟩ hP hD
set_option maxHeartbeats 4000000 in
set_option maxRecDepth 100000 in
theorem a_X3_wordCount_58 (l : Launch) (dC : Nat → ClassId) (dI : Nat → Nat → Nat) (h : Nat → Nat) (cs : Nat → ClassId) (sz : Nat) (I : Nat → Int32) (L : Nat → Int64) (A : Nat → Nat → Int32) (Q : Nat → Nat → Int64) (G : Nat → Nat → Nat → Int32) (J : Nat → Nat → Nat → Int64) : Met l yX3_wordCount wsX3_wordCount ({ frames := 1, cells := 0, slots := 0, locals := 20 }) (va_Pc [.ref (h 101)] (xPre (dC, dI) (wD_32 h cs fI fL fA fQ fG fJ) (tysA cs) sz)) (va_Qi (fun (r : Int32) (u : CS) => (r = nI 4) ∧ u = (fI, fL, fA, fQ, fG, fJ)) (xB (dC, dI) (tysA cs) (va_A (wD_32 h cs fI fL fA fQ fG fJ) sz) (fun u : CS => wD_32 h cs u.1 u.2.1 u.2.2.1 u.2.2.2.1 u.2.2.2.2.1 u.2.2.2.2.2)) (va_A (wD_32 h cs fI fL fA fQ fG fJ) sz)) 0 0 (va_A (wD_32 h cs fI fL fA fQ fG fJ) sz) := by
  refine Met.ofW (cc := cX3_wordCount) (maxL := 1) (ret := (some .int)) (by decide) rfl ?_
  intro p e s m args below meth c s₁ B hml hv
  obtain ⟨rfl, hsz, hP, hK, hD0, hN⟩ := hv
  have hx := B.exec
  have hb := B.bytes
  have hr := B.returns
  have hts := atoms_spec (ws := wsX3_wordCount) B.pre
  have hown : s.vm.findClass RX3 = some m.cls := findClass_of_methodNamed B.named
  have hlocks := B.notSynchronized
  subst hsz
  have hD := hD0.self (sz := s.heap.size)
  generalize hAe : va_A (wD_32 h cs fI fL fA fQ fG fJ) s.heap.size = A0 at hD ⊢
  have hA : ∀ q : Nat, s.heap.size ≤ q → A0 q := fun q h => by rw [← hAe]; exact Or.inr h
  have hl := lv_entry ([.ref (h 101)]) (n := 1) (Nat.le_of_ble_eq_true rfl)
  rw [lg_entry_eq]
  generalize (lg_sl ([.ref (h 101)]) ++ List.replicate (1 - (lg_sl ([.ref (h 101)])).length) Slot.unset).toArray = ls at hl ⊢
  have hl : lv_has ls 1 [(0, .ref (h 101))] := hl
  generalize hH : s.heap = H at hP ⊢
  have hS : va_S A0 s.heap H [] := by rw [← hH]; exact va_S.rf
  have hinX3 : ∀ w ∈ wsX30, w ∈ wsX3_wordCount := by decide +kernel
  refine lv_iconst (v := nI 1) hx hb dX3_wordCount_0 (by decide) ?_
  refine lv_aload_n hx hb dX3_wordCount_1 rfl (lv_at hl 0 rfl) ?_
  refine xj_i (wc := (wD_32 h cs fI fL fA fQ fG fJ)) (wr := ([] : va_W)) hP hD hS hA [0, 1, 2, 3, 4, 5, 6, 7] [] rfl rfl (by decide) (by decide) (va_runV (As := []) (rest := [.int (nI 1)]) ⟨hx, hb, hml, hown, hts⟩ (a_X3_bitsOfLetter_59 l dC dI h cs H.size fI fL fA fQ fG fJ ) (cwV 0 hts gX3_wordCount_X3_bitsOfLetter rfl rfl rfl (by decide +kernel) ⟨Nat.le_of_ble_eq_true rfl, Nat.le_of_ble_eq_true rfl⟩) (xpV (wc := (wD_32 h cs fI fL fA fQ fG fJ)) hP hD hK hN [0, 1, 2, 3, 4, 5, 6, 7] rfl (by decide) 0 (ci := 3) rfl rfl _) rfl rfl hl.1 rfl (lv_room (Nat.le_of_ble_eq_true rfl)) dX3_wordCount_2 ⟨Nat.zero_le _, Nat.zero_le _⟩) (fun r_2 u_1 H locs hw hP hD hS => ?_)
  obtain ⟨hf_3, rfl⟩ := hw
  have hP : va_P (dC, dI) vwCl (wD_32 h cs fI fL fA fQ fG fJ) H := hP
  have hD : va_D A0 (wD_32 h cs fI fL fA fQ fG fJ) := hD
  obtain rfl := hf_3
  refine lv_aload_n hx hb dX3_wordCount_5 rfl (lv_at hl 0 rfl) ?_
  refine va_get (D := (dC, dI)) (ci := 3) (v := .int (fI 121)) (C := RX3) (T := TX3) (N := 6) hx hb hts hinX3 hown hK hP 0 rfl rfl 1 (by decide) (hts (.fieldLink RX3 15 "MixedWords$Mix" "width" "I") (by decide +kernel)) (fun _ h9 => h9) rfl dX3_wordCount_6 ?_
  refine xt_i (y := nI 2) (by decide +kernel) ?_
  refine lv_imul hx hb dX3_wordCount_9 ?_
  refine xt_i (y := nI 2) (by decide +kernel) ?_
  refine lv_ishl hx hb dX3_wordCount_10 ?_
  refine xt_i (y := nI 4) (by decide +kernel) ?_
  exact xr_i (v := (nI 4)) hx hb hr hlocks hK hS dX3_wordCount_11 (fI, fL, fA, fQ, fG, fJ) ⟨rfl, rfl⟩ hP hD
def wD_60 (h : Nat → Nat) (cs : Nat → ClassId) (I : Nat → Int32) (L : Nat → Int64) (A : Nat → Nat → Int32) (Q : Nat → Nat → Int64) (G : Nat → Nat → Nat → Int32) (J : Nat → Nat → Nat → Int64) : va_W := [(h 105, .inr (8, [.ref (h 101), .ref (h 170), .ref (h 171), .ref (h 172), .int (I 173), .int (I 174)])), (h 101, .inr (3, [.int (I 120), .int (I 121), .int (I 122), .int (I 123), .ref (h 130), .ref (h 136)])), (h 130, .inl (cs 3, 5, .inr (.inr (.inr (.inr (fun i => if i < 5 then some (h (i + 131)) else none)))))), (h 131, .inl (cs 0, 4, .inl ((G 0) 0))), (h 132, .inl (cs 0, 4, .inl ((G 0) 1))), (h 133, .inl (cs 0, 4, .inl ((G 0) 2))), (h 134, .inl (cs 0, 4, .inl ((G 0) 3))), (h 135, .inl (cs 0, 4, .inl ((G 0) 4))), (h 136, .inl (cs 0, 5, .inl (A 136))), (h 170, .inl (cs 0, 256, .inl (A 170))), (h 171, .inl (cs 0, 256, .inl (A 171))), (h 172, .inl (cs 0, 256, .inl (A 172)))]
set_option maxHeartbeats 4000000 in
set_option maxRecDepth 100000 in
theorem a_X8_indexOf_62 (l : Launch) (dC : Nat → ClassId) (dI : Nat → Nat → Nat) (h : Nat → Nat) (cs : Nat → ClassId) (sz : Nat) (I : Nat → Int32) (L : Nat → Int64) (A : Nat → Nat → Int32) (Q : Nat → Nat → Int64) (G : Nat → Nat → Nat → Int32) (J : Nat → Nat → Nat → Int64) : Met l yX8_indexOf wsX8_indexOf ({ frames := 1, cells := 0, slots := 0, locals := 20 }) (va_Pc [.ref (h 105), .int (nI 0), .int (nI 0)] (xPre (dC, dI) (wD_60 h cs fI fL fA fQ fG fJ) (tysA cs) sz)) (va_Qi (fun (r : Int32) (u : CS) => (r = nI 0) ∧ u = (fI, fL, fA, fQ, fG, fJ)) (xB (dC, dI) (tysA cs) (va_A (wD_60 h cs fI fL fA fQ fG fJ) sz) (fun u : CS => wD_60 h cs u.1 u.2.1 u.2.2.1 u.2.2.2.1 u.2.2.2.2.1 u.2.2.2.2.2)) (va_A (wD_60 h cs fI fL fA fQ fG fJ) sz)) 0 0 (va_A (wD_60 h cs fI fL fA fQ fG fJ) sz) := by
  refine Met.ofW (cc := cX8_indexOf) (maxL := 3) (ret := (some .int)) (by decide) rfl ?_
  intro p e s m args below meth c s₁ B hml hv
  obtain ⟨rfl, hsz, hP, hK, hD0, hN⟩ := hv
  have hx := B.exec
  have hb := B.bytes
  have hr := B.returns
  have hts := atoms_spec (ws := wsX8_indexOf) B.pre
  have hown : s.vm.findClass RX8 = some m.cls := findClass_of_methodNamed B.named
  have hlocks := B.notSynchronized
  subst hsz
  have hD := hD0.self (sz := s.heap.size)
  generalize hAe : va_A (wD_60 h cs fI fL fA fQ fG fJ) s.heap.size = A0 at hD ⊢
  have hA : ∀ q : Nat, s.heap.size ≤ q → A0 q := fun q h => by rw [← hAe]; exact Or.inr h
  have hl := lv_entry ([.ref (h 105), .int (nI 0), .int (nI 0)]) (n := 3) (Nat.le_of_ble_eq_true rfl)
  rw [lg_entry_eq]
  generalize (lg_sl ([.ref (h 105), .int (nI 0), .int (nI 0)]) ++ List.replicate (3 - (lg_sl ([.ref (h 105), .int (nI 0), .int (nI 0)])).length) Slot.unset).toArray = ls at hl ⊢
  have hl : lv_has ls 3 [(0, .ref (h 105)), (1, .int (nI 0)), (2, .int (nI 0))] := hl
  generalize hH : s.heap = H at hP ⊢
  have hS : va_S A0 s.heap H [] := by rw [← hH]; exact va_S.rf
  have hinX8 : ∀ w ∈ wsX80, w ∈ wsX8_indexOf := by decide +kernel
  have hinX3 : ∀ w ∈ wsX30, w ∈ wsX8_indexOf := by decide +kernel
  refine lv_iload_n hx hb dX8_indexOf_0 rfl (lv_at hl 1 rfl) ?_
  refine lv_aload_n hx hb dX8_indexOf_1 rfl (lv_at hl 0 rfl) ?_
  refine va_get (D := (dC, dI)) (ci := 8) (v := .ref (h 101)) (C := RX8) (T := TX8) (N := 6) hx hb hts hinX8 hown hK hP 0 rfl rfl 0 (by decide) (hts (.fieldLink RX8 28 "MixedWords$Words" "mix" "LMixedWords$Mix;") (by decide +kernel)) (fun _ h9 => h9) rfl dX8_indexOf_2 ?_
  refine xj_i (wc := (wD_32 h cs fI fL fA fQ fG fJ)) (wr := [(h 105, .inr (8, [.ref (h 101), .ref (h 170), .ref (h 171), .ref (h 172), .int (fI 173), .int (fI 174)])), (h 170, .inl (cs 0, 256, .inl (fA 170))), (h 171, .inl (cs 0, 256, .inl (fA 171))), (h 172, .inl (cs 0, 256, .inl (fA 172)))]) hP hD hS hA [1, 2, 3, 4, 5, 6, 7, 8] [0, 9, 10, 11] rfl rfl (by decide) (by decide) (va_runV (As := []) (rest := [.int (nI 0)]) ⟨hx, hb, hml, hown, hts⟩ (a_X3_bitsOfLetter_59 l dC dI h cs H.size fI fL fA fQ fG fJ ) (cwV 0 hts gX8_indexOf_X3_bitsOfLetter rfl rfl rfl (by decide +kernel) ⟨Nat.le_of_ble_eq_true rfl, Nat.le_of_ble_eq_true rfl⟩) (xpV (wc := (wD_32 h cs fI fL fA fQ fG fJ)) hP hD hK hN [1, 2, 3, 4, 5, 6, 7, 8] rfl (by decide) 1 (ci := 3) rfl rfl _) rfl rfl hl.1 rfl (lv_room (Nat.le_of_ble_eq_true rfl)) dX8_indexOf_5 ⟨Nat.zero_le _, Nat.zero_le _⟩) (fun r_2 u_1 H locs hw hP hD hS => ?_)
  obtain ⟨hf_3, rfl⟩ := hw
  have hP : va_P (dC, dI) vwCl (wD_60 h cs fI fL fA fQ fG fJ) H := xP_sub hP [0, 4, 5, 6, 7, 8, 9, 10, 11, 1, 2, 3] rfl
  have hD : va_D A0 (wD_60 h cs fI fL fA fQ fG fJ) := hD.sub [0, 4, 5, 6, 7, 8, 9, 10, 11, 1, 2, 3] (by decide) rfl
  obtain rfl := hf_3
  refine lv_aload_n hx hb dX8_indexOf_8 rfl (lv_at hl 0 rfl) ?_
  refine va_get (D := (dC, dI)) (ci := 8) (v := .ref (h 101)) (C := RX8) (T := TX8) (N := 6) hx hb hts hinX8 hown hK hP 0 rfl rfl 0 (by decide) (hts (.fieldLink RX8 28 "MixedWords$Words" "mix" "LMixedWords$Mix;") (by decide +kernel)) (fun _ h9 => h9) rfl dX8_indexOf_9 ?_
  refine va_get (D := (dC, dI)) (ci := 3) (v := .int (fI 121)) (C := RX3) (T := TX3) (N := 6) hx hb hts hinX3 hown hK hP 1 rfl rfl 1 (by decide) (hts (.fieldLink RX8 40 "MixedWords$Mix" "width" "I") (by decide +kernel)) (fun _ h9 => h9) rfl dX8_indexOf_12 ?_
  refine xt_i (y := nI 2) (by decide +kernel) ?_
  refine lv_iconst (v := nI 1) hx hb dX8_indexOf_15 (by decide) ?_
  refine lv_isub hx hb dX8_indexOf_16 ?_
  refine xt_i (y := nI 1) (by decide +kernel) ?_
  refine lv_iload_n hx hb dX8_indexOf_17 rfl (lv_at hl 2 rfl) ?_
  refine lv_isub hx hb dX8_indexOf_18 ?_
  refine xt_i (y := nI 1) (by decide +kernel) ?_
  refine lv_imul hx hb dX8_indexOf_19 ?_
  refine xt_i (y := nI 1) (by decide +kernel) ?_
  refine lv_ishr hx hb dX8_indexOf_20 ?_
  refine xt_i (y := nI 0) (by decide +kernel) ?_
  refine lv_aload_n hx hb dX8_indexOf_21 rfl (lv_at hl 0 rfl) ?_
  refine va_get (D := (dC, dI)) (ci := 8) (v := .ref (h 101)) (C := RX8) (T := TX8) (N := 6) hx hb hts hinX8 hown hK hP 0 rfl rfl 0 (by decide) (hts (.fieldLink RX8 28 "MixedWords$Words" "mix" "LMixedWords$Mix;") (by decide +kernel)) (fun _ h9 => h9) rfl dX8_indexOf_22 ?_
  refine va_get (D := (dC, dI)) (ci := 3) (v := .int (fI 122)) (C := RX3) (T := TX3) (N := 6) hx hb hts hinX3 hown hK hP 1 rfl rfl 2 (by decide) (hts (.fieldLink RX8 51 "MixedWords$Mix" "letterCount" "I") (by decide +kernel)) (fun _ h9 => h9) rfl dX8_indexOf_25 ?_
  refine xt_i (y := nI 2) (by decide +kernel) ?_
  refine lv_iconst (v := nI 1) hx hb dX8_indexOf_28 (by decide) ?_
  refine lv_isub hx hb dX8_indexOf_29 ?_
  refine xt_i (y := nI 1) (by decide +kernel) ?_
  refine lv_iand hx hb dX8_indexOf_30 ?_
  refine xt_i (y := nI 0) (by decide +kernel) ?_
  exact xr_i (v := (nI 0)) hx hb hr hlocks hK hS dX8_indexOf_31 (fI, fL, fA, fQ, fG, fJ) ⟨rfl, rfl⟩ hP hD
set_option maxHeartbeats 4000000 in
set_option maxRecDepth 100000 in
theorem a_X8_indexOf_63 (l : Launch) (dC : Nat → ClassId) (dI : Nat → Nat → Nat) (h : Nat → Nat) (cs : Nat → ClassId) (sz : Nat) (I : Nat → Int32) (L : Nat → Int64) (A : Nat → Nat → Int32) (Q : Nat → Nat → Int64) (G : Nat → Nat → Nat → Int32) (J : Nat → Nat → Nat → Int64) : Met l yX8_indexOf wsX8_indexOf ({ frames := 1, cells := 0, slots := 0, locals := 20 }) (va_Pc [.ref (h 105), .int (nI 0), .int (nI 1)] (xPre (dC, dI) (wD_60 h cs fI fL fA fQ fG fJ) (tysA cs) sz)) (va_Qi (fun (r : Int32) (u : CS) => (r = nI 0) ∧ u = (fI, fL, fA, fQ, fG, fJ)) (xB (dC, dI) (tysA cs) (va_A (wD_60 h cs fI fL fA fQ fG fJ) sz) (fun u : CS => wD_60 h cs u.1 u.2.1 u.2.2.1 u.2.2.2.1 u.2.2.2.2.1 u.2.2.2.2.2)) (va_A (wD_60 h cs fI fL fA fQ fG fJ) sz)) 0 0 (va_A (wD_60 h cs fI fL fA fQ fG fJ) sz) := by
  refine Met.ofW (cc := cX8_indexOf) (maxL := 3) (ret := (some .int)) (by decide) rfl ?_
  intro p e s m args below meth c s₁ B hml hv
  obtain ⟨rfl, hsz, hP, hK, hD0, hN⟩ := hv
  have hx := B.exec
  have hb := B.bytes
  have hr := B.returns
  have hts := atoms_spec (ws := wsX8_indexOf) B.pre
  have hown : s.vm.findClass RX8 = some m.cls := findClass_of_methodNamed B.named
  have hlocks := B.notSynchronized
  subst hsz
  have hD := hD0.self (sz := s.heap.size)
  generalize hAe : va_A (wD_60 h cs fI fL fA fQ fG fJ) s.heap.size = A0 at hD ⊢
  have hA : ∀ q : Nat, s.heap.size ≤ q → A0 q := fun q h => by rw [← hAe]; exact Or.inr h
  have hl := lv_entry ([.ref (h 105), .int (nI 0), .int (nI 1)]) (n := 3) (Nat.le_of_ble_eq_true rfl)
  rw [lg_entry_eq]
  generalize (lg_sl ([.ref (h 105), .int (nI 0), .int (nI 1)]) ++ List.replicate (3 - (lg_sl ([.ref (h 105), .int (nI 0), .int (nI 1)])).length) Slot.unset).toArray = ls at hl ⊢
  have hl : lv_has ls 3 [(0, .ref (h 105)), (1, .int (nI 0)), (2, .int (nI 1))] := hl
  generalize hH : s.heap = H at hP ⊢
  have hS : va_S A0 s.heap H [] := by rw [← hH]; exact va_S.rf
  have hinX8 : ∀ w ∈ wsX80, w ∈ wsX8_indexOf := by decide +kernel
  have hinX3 : ∀ w ∈ wsX30, w ∈ wsX8_indexOf := by decide +kernel
  refine lv_iload_n hx hb dX8_indexOf_0 rfl (lv_at hl 1 rfl) ?_
  refine lv_aload_n hx hb dX8_indexOf_1 rfl (lv_at hl 0 rfl) ?_
  refine va_get (D := (dC, dI)) (ci := 8) (v := .ref (h 101)) (C := RX8) (T := TX8) (N := 6) hx hb hts hinX8 hown hK hP 0 rfl rfl 0 (by decide) (hts (.fieldLink RX8 28 "MixedWords$Words" "mix" "LMixedWords$Mix;") (by decide +kernel)) (fun _ h9 => h9) rfl dX8_indexOf_2 ?_
  refine xj_i (wc := (wD_32 h cs fI fL fA fQ fG fJ)) (wr := [(h 105, .inr (8, [.ref (h 101), .ref (h 170), .ref (h 171), .ref (h 172), .int (fI 173), .int (fI 174)])), (h 170, .inl (cs 0, 256, .inl (fA 170))), (h 171, .inl (cs 0, 256, .inl (fA 171))), (h 172, .inl (cs 0, 256, .inl (fA 172)))]) hP hD hS hA [1, 2, 3, 4, 5, 6, 7, 8] [0, 9, 10, 11] rfl rfl (by decide) (by decide) (va_runV (As := []) (rest := [.int (nI 0)]) ⟨hx, hb, hml, hown, hts⟩ (a_X3_bitsOfLetter_59 l dC dI h cs H.size fI fL fA fQ fG fJ ) (cwV 0 hts gX8_indexOf_X3_bitsOfLetter rfl rfl rfl (by decide +kernel) ⟨Nat.le_of_ble_eq_true rfl, Nat.le_of_ble_eq_true rfl⟩) (xpV (wc := (wD_32 h cs fI fL fA fQ fG fJ)) hP hD hK hN [1, 2, 3, 4, 5, 6, 7, 8] rfl (by decide) 1 (ci := 3) rfl rfl _) rfl rfl hl.1 rfl (lv_room (Nat.le_of_ble_eq_true rfl)) dX8_indexOf_5 ⟨Nat.zero_le _, Nat.zero_le _⟩) (fun r_2 u_1 H locs hw hP hD hS => ?_)
  obtain ⟨hf_3, rfl⟩ := hw
  have hP : va_P (dC, dI) vwCl (wD_60 h cs fI fL fA fQ fG fJ) H := xP_sub hP [0, 4, 5, 6, 7, 8, 9, 10, 11, 1, 2, 3] rfl
  have hD : va_D A0 (wD_60 h cs fI fL fA fQ fG fJ) := hD.sub [0, 4, 5, 6, 7, 8, 9, 10, 11, 1, 2, 3] (by decide) rfl
  obtain rfl := hf_3
  refine lv_aload_n hx hb dX8_indexOf_8 rfl (lv_at hl 0 rfl) ?_
  refine va_get (D := (dC, dI)) (ci := 8) (v := .ref (h 101)) (C := RX8) (T := TX8) (N := 6) hx hb hts hinX8 hown hK hP 0 rfl rfl 0 (by decide) (hts (.fieldLink RX8 28 "MixedWords$Words" "mix" "LMixedWords$Mix;") (by decide +kernel)) (fun _ h9 => h9) rfl dX8_indexOf_9 ?_
  refine va_get (D := (dC, dI)) (ci := 3) (v := .int (fI 121)) (C := RX3) (T := TX3) (N := 6) hx hb hts hinX3 hown hK hP 1 rfl rfl 1 (by decide) (hts (.fieldLink RX8 40 "MixedWords$Mix" "width" "I") (by decide +kernel)) (fun _ h9 => h9) rfl dX8_indexOf_12 ?_
  refine xt_i (y := nI 2) (by decide +kernel) ?_
  refine lv_iconst (v := nI 1) hx hb dX8_indexOf_15 (by decide) ?_
  refine lv_isub hx hb dX8_indexOf_16 ?_
  refine xt_i (y := nI 1) (by decide +kernel) ?_
  refine lv_iload_n hx hb dX8_indexOf_17 rfl (lv_at hl 2 rfl) ?_
  refine lv_isub hx hb dX8_indexOf_18 ?_
  refine xt_i (y := nI 0) (by decide +kernel) ?_
  refine lv_imul hx hb dX8_indexOf_19 ?_
  refine xt_i (y := nI 0) (by decide +kernel) ?_
  refine lv_ishr hx hb dX8_indexOf_20 ?_
  refine xt_i (y := nI 0) (by decide +kernel) ?_
  refine lv_aload_n hx hb dX8_indexOf_21 rfl (lv_at hl 0 rfl) ?_
  refine va_get (D := (dC, dI)) (ci := 8) (v := .ref (h 101)) (C := RX8) (T := TX8) (N := 6) hx hb hts hinX8 hown hK hP 0 rfl rfl 0 (by decide) (hts (.fieldLink RX8 28 "MixedWords$Words" "mix" "LMixedWords$Mix;") (by decide +kernel)) (fun _ h9 => h9) rfl dX8_indexOf_22 ?_
  refine va_get (D := (dC, dI)) (ci := 3) (v := .int (fI 122)) (C := RX3) (T := TX3) (N := 6) hx hb hts hinX3 hown hK hP 1 rfl rfl 2 (by decide) (hts (.fieldLink RX8 51 "MixedWords$Mix" "letterCount" "I") (by decide +kernel)) (fun _ h9 => h9) rfl dX8_indexOf_25 ?_
  refine xt_i (y := nI 2) (by decide +kernel) ?_
  refine lv_iconst (v := nI 1) hx hb dX8_indexOf_28 (by decide) ?_
  refine lv_isub hx hb dX8_indexOf_29 ?_
  refine xt_i (y := nI 1) (by decide +kernel) ?_
  refine lv_iand hx hb dX8_indexOf_30 ?_
  refine xt_i (y := nI 0) (by decide +kernel) ?_
  exact xr_i (v := (nI 0)) hx hb hr hlocks hK hS dX8_indexOf_31 (fI, fL, fA, fQ, fG, fJ) ⟨rfl, rfl⟩ hP hD
set_option maxHeartbeats 4000000 in
set_option maxRecDepth 100000 in
theorem a_X8_offOf_61 (l : Launch) (dC : Nat → ClassId) (dI : Nat → Nat → Nat) (h : Nat → Nat) (cs : Nat → ClassId) (sz : Nat) (I : Nat → Int32) (L : Nat → Int64) (A : Nat → Nat → Int32) (Q : Nat → Nat → Int64) (G : Nat → Nat → Nat → Int32) (J : Nat → Nat → Nat → Int64) : Met l yX8_offOf wsX8_offOf ({ frames := 2, cells := 0, slots := 0, locals := 42 }) (va_Pc [.ref (h 105), .int (nI 0)] (xPre (dC, dI) (wD_60 h cs fI fL fA fQ fG fJ) (tysA cs) sz)) (va_Qi (fun (r : Int32) (u : CS) => (r = nI 0) ∧ u = (fI, fL, fA, fQ, fG, fJ)) (xB (dC, dI) (tysA cs) (va_A (wD_60 h cs fI fL fA fQ fG fJ) sz) (fun u : CS => wD_60 h cs u.1 u.2.1 u.2.2.1 u.2.2.2.1 u.2.2.2.2.1 u.2.2.2.2.2)) (va_A (wD_60 h cs fI fL fA fQ fG fJ) sz)) 0 0 (va_A (wD_60 h cs fI fL fA fQ fG fJ) sz) := by
  refine Met.ofW (cc := cX8_offOf) (maxL := 6) (ret := (some .int)) (by decide) rfl ?_
  intro p e s m args below meth c s₁ B hml hv
  obtain ⟨rfl, hsz, hP, hK, hD0, hN⟩ := hv
  have hx := B.exec
  have hb := B.bytes
  have hr := B.returns
  have hts := atoms_spec (ws := wsX8_offOf) B.pre
  have hown : s.vm.findClass RX8 = some m.cls := findClass_of_methodNamed B.named
  have hlocks := B.notSynchronized
  subst hsz
  have hD := hD0.self (sz := s.heap.size)
  generalize hAe : va_A (wD_60 h cs fI fL fA fQ fG fJ) s.heap.size = A0 at hD ⊢
  have hA : ∀ q : Nat, s.heap.size ≤ q → A0 q := fun q h => by rw [← hAe]; exact Or.inr h
  have hl := lv_entry ([.ref (h 105), .int (nI 0)]) (n := 6) (Nat.le_of_ble_eq_true rfl)
  rw [lg_entry_eq]
  generalize (lg_sl ([.ref (h 105), .int (nI 0)]) ++ List.replicate (6 - (lg_sl ([.ref (h 105), .int (nI 0)])).length) Slot.unset).toArray = ls at hl ⊢
  have hl : lv_has ls 6 [(0, .ref (h 105)), (1, .int (nI 0))] := hl
  generalize hH : s.heap = H at hP ⊢
  have hS : va_S A0 s.heap H [] := by rw [← hH]; exact va_S.rf
  have hinX8 : ∀ w ∈ wsX80, w ∈ wsX8_offOf := by decide +kernel
  have hinX3 : ∀ w ∈ wsX30, w ∈ wsX8_offOf := by decide +kernel
  refine lv_iconst (v := nI 0) hx hb dX8_offOf_0 (by decide) ?_
  refine lv_istore_n (lv' := [(2, .int (nI 0)), (0, .ref (h 105)), (1, .int (nI 0))]) hx hb dX8_offOf_1 rfl hl (by decide) rfl (fun ls hl => ?_)
  refine lv_iconst (v := nI 0) hx hb dX8_offOf_2 (by decide) ?_
  refine lv_istore_n (lv' := [(3, .int (nI 0)), (2, .int (nI 0)), (0, .ref (h 105)), (1, .int (nI 0))]) hx hb dX8_offOf_3 rfl hl (by decide) rfl (fun ls hl => ?_)
  refine lv_iload_n hx hb dX8_offOf_4 rfl (lv_at hl 0 rfl) ?_
  refine lv_aload_n hx hb dX8_offOf_5 rfl (lv_at hl 2 rfl) ?_
  refine va_get (D := (dC, dI)) (ci := 8) (v := .ref (h 101)) (C := RX8) (T := TX8) (N := 6) hx hb hts hinX8 hown hK hP 0 rfl rfl 0 (by decide) (hts (.fieldLink RX8 28 "MixedWords$Words" "mix" "LMixedWords$Mix;") (by decide +kernel)) (fun _ h9 => h9) rfl dX8_offOf_6 ?_
  refine va_get (D := (dC, dI)) (ci := 3) (v := .int (fI 120)) (C := RX3) (T := TX3) (N := 6) hx hb hts hinX3 hown hK hP 1 rfl rfl 0 (by decide) (hts (.fieldLink RX8 32 "MixedWords$Mix" "height" "I") (by decide +kernel)) (fun _ h9 => h9) rfl dX8_offOf_9 ?_
  refine xt_i (y := nI 2) (by decide +kernel) ?_
  refine lv_icmp_ge (tgt := 98) hx hb dX8_offOf_12 (by decide) (fun c9 => False.elim (by revert c9; decide +kernel)) (fun _ => ?_)
  refine lv_aload_n hx hb dX8_offOf_15 rfl (lv_at hl 2 rfl) ?_
  refine va_get (D := (dC, dI)) (ci := 8) (v := .ref (h 101)) (C := RX8) (T := TX8) (N := 6) hx hb hts hinX8 hown hK hP 0 rfl rfl 0 (by decide) (hts (.fieldLink RX8 28 "MixedWords$Words" "mix" "LMixedWords$Mix;") (by decide +kernel)) (fun _ h9 => h9) rfl dX8_offOf_16 ?_
  refine va_get (D := (dC, dI)) (ci := 3) (v := .ref (h 136)) (C := RX3) (T := TX3) (N := 6) hx hb hts hinX3 hown hK hP 1 rfl rfl 5 (by decide) (hts (.fieldLink RX8 37 "MixedWords$Mix" "heard" "[I") (by decide +kernel)) (fun _ h9 => h9) rfl dX8_offOf_19 ?_
  refine lv_iload_n hx hb dX8_offOf_22 rfl (lv_at hl 0 rfl) ?_
  refine xa_iald hx hb hK hP 8 0 rfl rfl (by omega) (by decide) dX8_offOf_23 ?_
  refine xt_i (y := nI 0) (by decide +kernel) ?_
  refine lv_istore (lv' := [(4, .int (nI 0)), (3, .int (nI 0)), (2, .int (nI 0)), (0, .ref (h 105)), (1, .int (nI 0))]) hx hb dX8_offOf_24 hl (by decide) rfl (fun ls hl => ?_)
  refine lv_iconst (v := nI 0) hx hb dX8_offOf_26 (by decide) ?_
  refine lv_istore (lv' := [(5, .int (nI 0)), (4, .int (nI 0)), (3, .int (nI 0)), (2, .int (nI 0)), (0, .ref (h 105)), (1, .int (nI 0))]) hx hb dX8_offOf_27 hl (by decide) rfl (fun ls hl => ?_)
  refine lv_iload hx hb dX8_offOf_29 (lv_at hl 0 rfl) ?_
  refine lv_aload_n hx hb dX8_offOf_31 rfl (lv_at hl 4 rfl) ?_
  refine va_get (D := (dC, dI)) (ci := 8) (v := .ref (h 101)) (C := RX8) (T := TX8) (N := 6) hx hb hts hinX8 hown hK hP 0 rfl rfl 0 (by decide) (hts (.fieldLink RX8 28 "MixedWords$Words" "mix" "LMixedWords$Mix;") (by decide +kernel)) (fun _ h9 => h9) rfl dX8_offOf_32 ?_
  refine va_get (D := (dC, dI)) (ci := 3) (v := .int (fI 121)) (C := RX3) (T := TX3) (N := 6) hx hb hts hinX3 hown hK hP 1 rfl rfl 1 (by decide) (hts (.fieldLink RX8 40 "MixedWords$Mix" "width" "I") (by decide +kernel)) (fun _ h9 => h9) rfl dX8_offOf_35 ?_
  refine xt_i (y := nI 2) (by decide +kernel) ?_
  refine lv_icmp_ge (tgt := 84) hx hb dX8_offOf_38 (by decide) (fun c9 => False.elim (by revert c9; decide +kernel)) (fun _ => ?_)
  refine lv_iload hx hb dX8_offOf_41 (lv_at hl 1 rfl) ?_
  refine lv_aload_n hx hb dX8_offOf_43 rfl (lv_at hl 4 rfl) ?_
  refine va_get (D := (dC, dI)) (ci := 8) (v := .ref (h 101)) (C := RX8) (T := TX8) (N := 6) hx hb hts hinX8 hown hK hP 0 rfl rfl 0 (by decide) (hts (.fieldLink RX8 28 "MixedWords$Words" "mix" "LMixedWords$Mix;") (by decide +kernel)) (fun _ h9 => h9) rfl dX8_offOf_44 ?_
  refine va_get (D := (dC, dI)) (ci := 3) (v := .ref (h 130)) (C := RX3) (T := TX3) (N := 6) hx hb hts hinX3 hown hK hP 1 rfl rfl 4 (by decide) (hts (.fieldLink RX8 43 "MixedWords$Mix" "cells" "[[I") (by decide +kernel)) (fun _ h9 => h9) rfl dX8_offOf_47 ?_
  refine lv_iload_n hx hb dX8_offOf_50 rfl (lv_at hl 2 rfl) ?_
  refine xa_aald (b := h 131) hx hb hK hP 2 3 rfl rfl rfl (by omega) (by decide) (if_pos (by omega)) dX8_offOf_51 ?_
  refine lv_iload hx hb dX8_offOf_52 (lv_at hl 0 rfl) ?_
  refine xa_iald hx hb hK hP 3 0 rfl rfl (by omega) (by decide) dX8_offOf_54 ?_
  refine xt_i (y := nI 0) (by decide +kernel) ?_
  refine lv_iconst (v := nI 2) hx hb dX8_offOf_55 (by decide) ?_
  refine lv_aload_n hx hb dX8_offOf_56 rfl (lv_at hl 4 rfl) ?_
  refine lv_iload_n hx hb dX8_offOf_57 rfl (lv_at hl 5 rfl) ?_
  refine lv_iload hx hb dX8_offOf_58 (lv_at hl 0 rfl) ?_
  refine xj_i (wc := (wD_60 h cs fI fL fA fQ fG fJ)) (wr := ([] : va_W)) hP hD hS hA [0, 1, 2, 3, 4, 5, 6, 7, 8, 9, 10, 11] [] rfl rfl (by decide) (by decide) (va_runV (As := [.int (nI 0), .int (nI 0)]) (rest := [.int (nI 2), .int (nI 0), .int (nI 0)]) ⟨hx, hb, hml, hown, hts⟩ (a_X8_indexOf_62 l dC dI h cs H.size fI fL fA fQ fG fJ ) (cwV 2 hts gX8_offOf_X8_indexOf rfl rfl rfl (by decide +kernel) ⟨Nat.le_of_ble_eq_true rfl, Nat.le_of_ble_eq_true rfl⟩) (xpV (wc := (wD_60 h cs fI fL fA fQ fG fJ)) hP hD hK hN [0, 1, 2, 3, 4, 5, 6, 7, 8, 9, 10, 11] rfl (by decide) 0 (ci := 8) rfl rfl _) rfl rfl hl.1 rfl (lv_room (Nat.le_of_ble_eq_true rfl)) dX8_offOf_60 ⟨Nat.zero_le _, Nat.zero_le _⟩) (fun r_2 u_1 H locs hw hP hD hS => ?_)
  obtain ⟨hf_3, rfl⟩ := hw
  have hP : va_P (dC, dI) vwCl (wD_60 h cs fI fL fA fQ fG fJ) H := hP
  have hD : va_D A0 (wD_60 h cs fI fL fA fQ fG fJ) := hD
  obtain rfl := hf_3
  refine lv_imul hx hb dX8_offOf_63 ?_
  refine xt_i (y := nI 0) (by decide +kernel) ?_
  refine lv_aload_n hx hb dX8_offOf_64 rfl (lv_at hl 4 rfl) ?_
  refine va_get (D := (dC, dI)) (ci := 8) (v := .ref (h 101)) (C := RX8) (T := TX8) (N := 6) hx hb hts hinX8 hown hK hP 0 rfl rfl 0 (by decide) (hts (.fieldLink RX8 28 "MixedWords$Words" "mix" "LMixedWords$Mix;") (by decide +kernel)) (fun _ h9 => h9) rfl dX8_offOf_65 ?_
  refine va_get (D := (dC, dI)) (ci := 3) (v := .int (fI 122)) (C := RX3) (T := TX3) (N := 6) hx hb hts hinX3 hown hK hP 1 rfl rfl 2 (by decide) (hts (.fieldLink RX8 51 "MixedWords$Mix" "letterCount" "I") (by decide +kernel)) (fun _ h9 => h9) rfl dX8_offOf_68 ?_
  refine xt_i (y := nI 2) (by decide +kernel) ?_
  refine lv_isub hx hb dX8_offOf_71 ?_
  refine xt_i (y := (-2 : Int32)) (by decide +kernel) ?_
  refine lv_iconst (v := nI 1) hx hb dX8_offOf_72 (by decide) ?_
  refine lv_iadd hx hb dX8_offOf_73 ?_
  refine xt_i (y := (-1 : Int32)) (by decide +kernel) ?_
  refine lv_imul hx hb dX8_offOf_74 ?_
  refine xt_i (y := nI 0) (by decide +kernel) ?_
  refine lv_isub hx hb dX8_offOf_75 ?_
  refine xt_i (y := nI 0) (by decide +kernel) ?_
  refine lv_istore (lv' := [(4, .int (nI 0)), (5, .int (nI 0)), (3, .int (nI 0)), (2, .int (nI 0)), (0, .ref (h 105)), (1, .int (nI 0))]) hx hb dX8_offOf_76 hl (by decide) rfl (fun ls hl => ?_)
  refine lv_iinc (v := nI 1) (lv' := [(5, .int (nI 1)), (4, .int (nI 0)), (3, .int (nI 0)), (2, .int (nI 0)), (0, .ref (h 105)), (1, .int (nI 0))]) hx hb dX8_offOf_78 hl (k := 1) rfl (by decide +kernel) (by decide) rfl (fun ls hl => ?_)
  refine lv_goto (tgt := 29) hx hb dX8_offOf_81 (by decide) ?_
  refine lv_iload hx hb dX8_offOf_29 (lv_at hl 0 rfl) ?_
  refine lv_aload_n hx hb dX8_offOf_31 rfl (lv_at hl 4 rfl) ?_
  refine va_get (D := (dC, dI)) (ci := 8) (v := .ref (h 101)) (C := RX8) (T := TX8) (N := 6) hx hb hts hinX8 hown hK hP 0 rfl rfl 0 (by decide) (hts (.fieldLink RX8 28 "MixedWords$Words" "mix" "LMixedWords$Mix;") (by decide +kernel)) (fun _ h9 => h9) rfl dX8_offOf_32 ?_
  refine va_get (D := (dC, dI)) (ci := 3) (v := .int (fI 121)) (C := RX3) (T := TX3) (N := 6) hx hb hts hinX3 hown hK hP 1 rfl rfl 1 (by decide) (hts (.fieldLink RX8 40 "MixedWords$Mix" "width" "I") (by decide +kernel)) (fun _ h9 => h9) rfl dX8_offOf_35 ?_
  refine xt_i (y := nI 2) (by decide +kernel) ?_
  refine lv_icmp_ge (tgt := 84) hx hb dX8_offOf_38 (by decide) (fun c9 => False.elim (by revert c9; decide +kernel)) (fun _ => ?_)
  refine lv_iload hx hb dX8_offOf_41 (lv_at hl 1 rfl) ?_
  refine lv_aload_n hx hb dX8_offOf_43 rfl (lv_at hl 4 rfl) ?_
  refine va_get (D := (dC, dI)) (ci := 8) (v := .ref (h 101)) (C := RX8) (T := TX8) (N := 6) hx hb hts hinX8 hown hK hP 0 rfl rfl 0 (by decide) (hts (.fieldLink RX8 28 "MixedWords$Words" "mix" "LMixedWords$Mix;") (by decide +kernel)) (fun _ h9 => h9) rfl dX8_offOf_44 ?_
  refine va_get (D := (dC, dI)) (ci := 3) (v := .ref (h 130)) (C := RX3) (T := TX3) (N := 6) hx hb hts hinX3 hown hK hP 1 rfl rfl 4 (by decide) (hts (.fieldLink RX8 43 "MixedWords$Mix" "cells" "[[I") (by decide +kernel)) (fun _ h9 => h9) rfl dX8_offOf_47 ?_
  refine lv_iload_n hx hb dX8_offOf_50 rfl (lv_at hl 2 rfl) ?_
  refine xa_aald (b := h 131) hx hb hK hP 2 3 rfl rfl rfl (by omega) (by decide) (if_pos (by omega)) dX8_offOf_51 ?_
  refine lv_iload hx hb dX8_offOf_52 (lv_at hl 0 rfl) ?_
  refine xa_iald hx hb hK hP 3 0 rfl rfl (by omega) (by decide) dX8_offOf_54 ?_
  refine xt_i (y := nI 0) (by decide +kernel) ?_
  refine lv_iconst (v := nI 2) hx hb dX8_offOf_55 (by decide) ?_
  refine lv_aload_n hx hb dX8_offOf_56 rfl (lv_at hl 4 rfl) ?_
  refine lv_iload_n hx hb dX8_offOf_57 rfl (lv_at hl 5 rfl) ?_
  refine lv_iload hx hb dX8_offOf_58 (lv_at hl 0 rfl) ?_
  refine xj_i (wc := (wD_60 h cs fI fL fA fQ fG fJ)) (wr := ([] : va_W)) hP hD hS hA [0, 1, 2, 3, 4, 5, 6, 7, 8, 9, 10, 11] [] rfl rfl (by decide) (by decide) (va_runV (As := [.int (nI 0), .int (nI 1)]) (rest := [.int (nI 2), .int (nI 0), .int (nI 0)]) ⟨hx, hb, hml, hown, hts⟩ (a_X8_indexOf_63 l dC dI h cs H.size fI fL fA fQ fG fJ ) (cwV 2 hts gX8_offOf_X8_indexOf rfl rfl rfl (by decide +kernel) ⟨Nat.le_of_ble_eq_true rfl, Nat.le_of_ble_eq_true rfl⟩) (xpV (wc := (wD_60 h cs fI fL fA fQ fG fJ)) hP hD hK hN [0, 1, 2, 3, 4, 5, 6, 7, 8, 9, 10, 11] rfl (by decide) 0 (ci := 8) rfl rfl _) rfl rfl hl.1 rfl (lv_room (Nat.le_of_ble_eq_true rfl)) dX8_offOf_60 ⟨Nat.zero_le _, Nat.zero_le _⟩) (fun r_5 u_4 H locs hw hP hD hS => ?_)
  obtain ⟨hf_6, rfl⟩ := hw
  have hP : va_P (dC, dI) vwCl (wD_60 h cs fI fL fA fQ fG fJ) H := hP
  have hD : va_D A0 (wD_60 h cs fI fL fA fQ fG fJ) := hD
  obtain rfl := hf_6
  refine lv_imul hx hb dX8_offOf_63 ?_
  refine xt_i (y := nI 0) (by decide +kernel) ?_
  refine lv_aload_n hx hb dX8_offOf_64 rfl (lv_at hl 4 rfl) ?_
  refine va_get (D := (dC, dI)) (ci := 8) (v := .ref (h 101)) (C := RX8) (T := TX8) (N := 6) hx hb hts hinX8 hown hK hP 0 rfl rfl 0 (by decide) (hts (.fieldLink RX8 28 "MixedWords$Words" "mix" "LMixedWords$Mix;") (by decide +kernel)) (fun _ h9 => h9) rfl dX8_offOf_65 ?_
  refine va_get (D := (dC, dI)) (ci := 3) (v := .int (fI 122)) (C := RX3) (T := TX3) (N := 6) hx hb hts hinX3 hown hK hP 1 rfl rfl 2 (by decide) (hts (.fieldLink RX8 51 "MixedWords$Mix" "letterCount" "I") (by decide +kernel)) (fun _ h9 => h9) rfl dX8_offOf_68 ?_
  refine xt_i (y := nI 2) (by decide +kernel) ?_
  refine lv_isub hx hb dX8_offOf_71 ?_
  refine xt_i (y := (-2 : Int32)) (by decide +kernel) ?_
  refine lv_iconst (v := nI 1) hx hb dX8_offOf_72 (by decide) ?_
  refine lv_iadd hx hb dX8_offOf_73 ?_
  refine xt_i (y := (-1 : Int32)) (by decide +kernel) ?_
  refine lv_imul hx hb dX8_offOf_74 ?_
  refine xt_i (y := nI 0) (by decide +kernel) ?_
  refine lv_isub hx hb dX8_offOf_75 ?_
  refine xt_i (y := nI 0) (by decide +kernel) ?_
  refine lv_istore (lv' := [(4, .int (nI 0)), (5, .int (nI 1)), (3, .int (nI 0)), (2, .int (nI 0)), (0, .ref (h 105)), (1, .int (nI 0))]) hx hb dX8_offOf_76 hl (by decide) rfl (fun ls hl => ?_)
  refine lv_iinc (v := nI 2) (lv' := [(5, .int (nI 2)), (4, .int (nI 0)), (3, .int (nI 0)), (2, .int (nI 0)), (0, .ref (h 105)), (1, .int (nI 0))]) hx hb dX8_offOf_78 hl (k := 1) rfl (by decide +kernel) (by decide) rfl (fun ls hl => ?_)
  refine lv_goto (tgt := 29) hx hb dX8_offOf_81 (by decide) ?_
  refine lv_iload hx hb dX8_offOf_29 (lv_at hl 0 rfl) ?_
  refine lv_aload_n hx hb dX8_offOf_31 rfl (lv_at hl 4 rfl) ?_
  refine va_get (D := (dC, dI)) (ci := 8) (v := .ref (h 101)) (C := RX8) (T := TX8) (N := 6) hx hb hts hinX8 hown hK hP 0 rfl rfl 0 (by decide) (hts (.fieldLink RX8 28 "MixedWords$Words" "mix" "LMixedWords$Mix;") (by decide +kernel)) (fun _ h9 => h9) rfl dX8_offOf_32 ?_
  refine va_get (D := (dC, dI)) (ci := 3) (v := .int (fI 121)) (C := RX3) (T := TX3) (N := 6) hx hb hts hinX3 hown hK hP 1 rfl rfl 1 (by decide) (hts (.fieldLink RX8 40 "MixedWords$Mix" "width" "I") (by decide +kernel)) (fun _ h9 => h9) rfl dX8_offOf_35 ?_
  refine xt_i (y := nI 2) (by decide +kernel) ?_
  refine lv_icmp_ge (tgt := 84) hx hb dX8_offOf_38 (by decide) (fun _ => ?_) (fun c9 => False.elim (by revert c9; decide +kernel))
  refine lv_iload_n hx hb dX8_offOf_84 rfl (lv_at hl 3 rfl) ?_
  refine lv_iload hx hb dX8_offOf_85 (lv_at hl 1 rfl) ?_
  refine lv_iload hx hb dX8_offOf_87 (lv_at hl 1 rfl) ?_
  refine lv_imul hx hb dX8_offOf_89 ?_
  refine xt_i (y := nI 0) (by decide +kernel) ?_
  refine lv_iadd hx hb dX8_offOf_90 ?_
  refine xt_i (y := nI 0) (by decide +kernel) ?_
  refine lv_istore_n (lv' := [(2, .int (nI 0)), (5, .int (nI 2)), (4, .int (nI 0)), (3, .int (nI 0)), (0, .ref (h 105)), (1, .int (nI 0))]) hx hb dX8_offOf_91 rfl hl (by decide) rfl (fun ls hl => ?_)
  refine lv_iinc (v := nI 1) (lv' := [(3, .int (nI 1)), (2, .int (nI 0)), (5, .int (nI 2)), (4, .int (nI 0)), (0, .ref (h 105)), (1, .int (nI 0))]) hx hb dX8_offOf_92 hl (k := 3) rfl (by decide +kernel) (by decide) rfl (fun ls hl => ?_)
  refine lv_goto (tgt := 4) hx hb dX8_offOf_95 (by decide) ?_
  refine lv_iload_n hx hb dX8_offOf_4 rfl (lv_at hl 0 rfl) ?_
  refine lv_aload_n hx hb dX8_offOf_5 rfl (lv_at hl 4 rfl) ?_
  refine va_get (D := (dC, dI)) (ci := 8) (v := .ref (h 101)) (C := RX8) (T := TX8) (N := 6) hx hb hts hinX8 hown hK hP 0 rfl rfl 0 (by decide) (hts (.fieldLink RX8 28 "MixedWords$Words" "mix" "LMixedWords$Mix;") (by decide +kernel)) (fun _ h9 => h9) rfl dX8_offOf_6 ?_
  refine va_get (D := (dC, dI)) (ci := 3) (v := .int (fI 120)) (C := RX3) (T := TX3) (N := 6) hx hb hts hinX3 hown hK hP 1 rfl rfl 0 (by decide) (hts (.fieldLink RX8 32 "MixedWords$Mix" "height" "I") (by decide +kernel)) (fun _ h9 => h9) rfl dX8_offOf_9 ?_
  refine xt_i (y := nI 2) (by decide +kernel) ?_
  refine lv_icmp_ge (tgt := 98) hx hb dX8_offOf_12 (by decide) (fun c9 => False.elim (by revert c9; decide +kernel)) (fun _ => ?_)
  refine lv_aload_n hx hb dX8_offOf_15 rfl (lv_at hl 4 rfl) ?_
  refine va_get (D := (dC, dI)) (ci := 8) (v := .ref (h 101)) (C := RX8) (T := TX8) (N := 6) hx hb hts hinX8 hown hK hP 0 rfl rfl 0 (by decide) (hts (.fieldLink RX8 28 "MixedWords$Words" "mix" "LMixedWords$Mix;") (by decide +kernel)) (fun _ h9 => h9) rfl dX8_offOf_16 ?_
  refine va_get (D := (dC, dI)) (ci := 3) (v := .ref (h 136)) (C := RX3) (T := TX3) (N := 6) hx hb hts hinX3 hown hK hP 1 rfl rfl 5 (by decide) (hts (.fieldLink RX8 37 "MixedWords$Mix" "heard" "[I") (by decide +kernel)) (fun _ h9 => h9) rfl dX8_offOf_19 ?_
  refine lv_iload_n hx hb dX8_offOf_22 rfl (lv_at hl 0 rfl) ?_
  refine xa_iald hx hb hK hP 8 0 rfl rfl (by omega) (by decide) dX8_offOf_23 ?_
  refine xt_i (y := nI 0) (by decide +kernel) ?_
  refine lv_istore (lv' := [(4, .int (nI 0)), (3, .int (nI 1)), (2, .int (nI 0)), (5, .int (nI 2)), (0, .ref (h 105)), (1, .int (nI 0))]) hx hb dX8_offOf_24 hl (by decide) rfl (fun ls hl => ?_)
  refine lv_iconst (v := nI 0) hx hb dX8_offOf_26 (by decide) ?_
  refine lv_istore (lv' := [(5, .int (nI 0)), (4, .int (nI 0)), (3, .int (nI 1)), (2, .int (nI 0)), (0, .ref (h 105)), (1, .int (nI 0))]) hx hb dX8_offOf_27 hl (by decide) rfl (fun ls hl => ?_)
  refine lv_iload hx hb dX8_offOf_29 (lv_at hl 0 rfl) ?_
  refine lv_aload_n hx hb dX8_offOf_31 rfl (lv_at hl 4 rfl) ?_
  refine va_get (D := (dC, dI)) (ci := 8) (v := .ref (h 101)) (C := RX8) (T := TX8) (N := 6) hx hb hts hinX8 hown hK hP 0 rfl rfl 0 (by decide) (hts (.fieldLink RX8 28 "MixedWords$Words" "mix" "LMixedWords$Mix;") (by decide +kernel)) (fun _ h9 => h9) rfl dX8_offOf_32 ?_
  refine va_get (D := (dC, dI)) (ci := 3) (v := .int (fI 121)) (C := RX3) (T := TX3) (N := 6) hx hb hts hinX3 hown hK hP 1 rfl rfl 1 (by decide) (hts (.fieldLink RX8 40 "MixedWords$Mix" "width" "I") (by decide +kernel)) (fun _ h9 => h9) rfl dX8_offOf_35 ?_
  refine xt_i (y := nI 2) (by decide +kernel) ?_
  refine lv_icmp_ge (tgt := 84) hx hb dX8_offOf_38 (by decide) (fun c9 => False.elim (by revert c9; decide +kernel)) (fun _ => ?_)
  refine lv_iload hx hb dX8_offOf_41 (lv_at hl 1 rfl) ?_
  refine lv_aload_n hx hb dX8_offOf_43 rfl (lv_at hl 4 rfl) ?_
  refine va_get (D := (dC, dI)) (ci := 8) (v := .ref (h 101)) (C := RX8) (T := TX8) (N := 6) hx hb hts hinX8 hown hK hP 0 rfl rfl 0 (by decide) (hts (.fieldLink RX8 28 "MixedWords$Words" "mix" "LMixedWords$Mix;") (by decide +kernel)) (fun _ h9 => h9) rfl dX8_offOf_44 ?_
  refine va_get (D := (dC, dI)) (ci := 3) (v := .ref (h 130)) (C := RX3) (T := TX3) (N := 6) hx hb hts hinX3 hown hK hP 1 rfl rfl 4 (by decide) (hts (.fieldLink RX8 43 "MixedWords$Mix" "cells" "[[I") (by decide +kernel)) (fun _ h9 => h9) rfl dX8_offOf_47 ?_
  refine lv_iload_n hx hb dX8_offOf_50 rfl (lv_at hl 2 rfl) ?_
  refine xa_aald (b := h 132) hx hb hK hP 2 3 rfl rfl rfl (by omega) (by decide) (if_pos (by omega)) dX8_offOf_51 ?_
  refine lv_iload hx hb dX8_offOf_52 (lv_at hl 0 rfl) ?_
  refine xa_iald hx hb hK hP 4 0 rfl rfl (by omega) (by decide) dX8_offOf_54 ?_
  refine xt_i (y := nI 0) (by decide +kernel) ?_
  refine lv_iconst (v := nI 2) hx hb dX8_offOf_55 (by decide) ?_
  refine lv_aload_n hx hb dX8_offOf_56 rfl (lv_at hl 4 rfl) ?_
  refine lv_iload_n hx hb dX8_offOf_57 rfl (lv_at hl 5 rfl) ?_
  refine lv_iload hx hb dX8_offOf_58 (lv_at hl 0 rfl) ?_
  refine xj_i (wc := (wD_60 h cs fI fL fA fQ fG fJ)) (wr := ([] : va_W)) hP hD hS hA [0, 1, 2, 3, 4, 5, 6, 7, 8, 9, 10, 11] [] rfl rfl (by decide) (by decide) (va_runV (As := [.int (nI 0), .int (nI 0)]) (rest := [.int (nI 2), .int (nI 0), .int (nI 0)]) ⟨hx, hb, hml, hown, hts⟩ (a_X8_indexOf_62 l dC dI h cs H.size fI fL fA fQ fG fJ ) (cwV 2 hts gX8_offOf_X8_indexOf rfl rfl rfl (by decide +kernel) ⟨Nat.le_of_ble_eq_true rfl, Nat.le_of_ble_eq_true rfl⟩) (xpV (wc := (wD_60 h cs fI fL fA fQ fG fJ)) hP hD hK hN [0, 1, 2, 3, 4, 5, 6, 7, 8, 9, 10, 11] rfl (by decide) 0 (ci := 8) rfl rfl _) rfl rfl hl.1 rfl (lv_room (Nat.le_of_ble_eq_true rfl)) dX8_offOf_60 ⟨Nat.zero_le _, Nat.zero_le _⟩) (fun r_8 u_7 H locs hw hP hD hS => ?_)
  obtain ⟨hf_9, rfl⟩ := hw
  have hP : va_P (dC, dI) vwCl (wD_60 h cs fI fL fA fQ fG fJ) H := hP
  have hD : va_D A0 (wD_60 h cs fI fL fA fQ fG fJ) := hD
  obtain rfl := hf_9
  refine lv_imul hx hb dX8_offOf_63 ?_
  refine xt_i (y := nI 0) (by decide +kernel) ?_
  refine lv_aload_n hx hb dX8_offOf_64 rfl (lv_at hl 4 rfl) ?_
  refine va_get (D := (dC, dI)) (ci := 8) (v := .ref (h 101)) (C := RX8) (T := TX8) (N := 6) hx hb hts hinX8 hown hK hP 0 rfl rfl 0 (by decide) (hts (.fieldLink RX8 28 "MixedWords$Words" "mix" "LMixedWords$Mix;") (by decide +kernel)) (fun _ h9 => h9) rfl dX8_offOf_65 ?_
  refine va_get (D := (dC, dI)) (ci := 3) (v := .int (fI 122)) (C := RX3) (T := TX3) (N := 6) hx hb hts hinX3 hown hK hP 1 rfl rfl 2 (by decide) (hts (.fieldLink RX8 51 "MixedWords$Mix" "letterCount" "I") (by decide +kernel)) (fun _ h9 => h9) rfl dX8_offOf_68 ?_
  refine xt_i (y := nI 2) (by decide +kernel) ?_
  refine lv_isub hx hb dX8_offOf_71 ?_
  refine xt_i (y := (-2 : Int32)) (by decide +kernel) ?_
  refine lv_iconst (v := nI 1) hx hb dX8_offOf_72 (by decide) ?_
  refine lv_iadd hx hb dX8_offOf_73 ?_
  refine xt_i (y := (-1 : Int32)) (by decide +kernel) ?_
  refine lv_imul hx hb dX8_offOf_74 ?_
  refine xt_i (y := nI 0) (by decide +kernel) ?_
  refine lv_isub hx hb dX8_offOf_75 ?_
  refine xt_i (y := nI 0) (by decide +kernel) ?_
  refine lv_istore (lv' := [(4, .int (nI 0)), (5, .int (nI 0)), (3, .int (nI 1)), (2, .int (nI 0)), (0, .ref (h 105)), (1, .int (nI 0))]) hx hb dX8_offOf_76 hl (by decide) rfl (fun ls hl => ?_)
  refine lv_iinc (v := nI 1) (lv' := [(5, .int (nI 1)), (4, .int (nI 0)), (3, .int (nI 1)), (2, .int (nI 0)), (0, .ref (h 105)), (1, .int (nI 0))]) hx hb dX8_offOf_78 hl (k := 1) rfl (by decide +kernel) (by decide) rfl (fun ls hl => ?_)
  refine lv_goto (tgt := 29) hx hb dX8_offOf_81 (by decide) ?_
  refine lv_iload hx hb dX8_offOf_29 (lv_at hl 0 rfl) ?_
  refine lv_aload_n hx hb dX8_offOf_31 rfl (lv_at hl 4 rfl) ?_
  refine va_get (D := (dC, dI)) (ci := 8) (v := .ref (h 101)) (C := RX8) (T := TX8) (N := 6) hx hb hts hinX8 hown hK hP 0 rfl rfl 0 (by decide) (hts (.fieldLink RX8 28 "MixedWords$Words" "mix" "LMixedWords$Mix;") (by decide +kernel)) (fun _ h9 => h9) rfl dX8_offOf_32 ?_
  refine va_get (D := (dC, dI)) (ci := 3) (v := .int (fI 121)) (C := RX3) (T := TX3) (N := 6) hx hb hts hinX3 hown hK hP 1 rfl rfl 1 (by decide) (hts (.fieldLink RX8 40 "MixedWords$Mix" "width" "I") (by decide +kernel)) (fun _ h9 => h9) rfl dX8_offOf_35 ?_
  refine xt_i (y := nI 2) (by decide +kernel) ?_
  refine lv_icmp_ge (tgt := 84) hx hb dX8_offOf_38 (by decide) (fun c9 => False.elim (by revert c9; decide +kernel)) (fun _ => ?_)
  refine lv_iload hx hb dX8_offOf_41 (lv_at hl 1 rfl) ?_
  refine lv_aload_n hx hb dX8_offOf_43 rfl (lv_at hl 4 rfl) ?_
  refine va_get (D := (dC, dI)) (ci := 8) (v := .ref (h 101)) (C := RX8) (T := TX8) (N := 6) hx hb hts hinX8 hown hK hP 0 rfl rfl 0 (by decide) (hts (.fieldLink RX8 28 "MixedWords$Words" "mix" "LMixedWords$Mix;") (by decide +kernel)) (fun _ h9 => h9) rfl dX8_offOf_44 ?_
  refine va_get (D := (dC, dI)) (ci := 3) (v := .ref (h 130)) (C := RX3) (T := TX3) (N := 6) hx hb hts hinX3 hown hK hP 1 rfl rfl 4 (by decide) (hts (.fieldLink RX8 43 "MixedWords$Mix" "cells" "[[I") (by decide +kernel)) (fun _ h9 => h9) rfl dX8_offOf_47 ?_
  refine lv_iload_n hx hb dX8_offOf_50 rfl (lv_at hl 2 rfl) ?_
  refine xa_aald (b := h 132) hx hb hK hP 2 3 rfl rfl rfl (by omega) (by decide) (if_pos (by omega)) dX8_offOf_51 ?_
  refine lv_iload hx hb dX8_offOf_52 (lv_at hl 0 rfl) ?_
  refine xa_iald hx hb hK hP 4 0 rfl rfl (by omega) (by decide) dX8_offOf_54 ?_
  refine xt_i (y := nI 0) (by decide +kernel) ?_
  refine lv_iconst (v := nI 2) hx hb dX8_offOf_55 (by decide) ?_
  refine lv_aload_n hx hb dX8_offOf_56 rfl (lv_at hl 4 rfl) ?_
  refine lv_iload_n hx hb dX8_offOf_57 rfl (lv_at hl 5 rfl) ?_
  refine lv_iload hx hb dX8_offOf_58 (lv_at hl 0 rfl) ?_
  refine xj_i (wc := (wD_60 h cs fI fL fA fQ fG fJ)) (wr := ([] : va_W)) hP hD hS hA [0, 1, 2, 3, 4, 5, 6, 7, 8, 9, 10, 11] [] rfl rfl (by decide) (by decide) (va_runV (As := [.int (nI 0), .int (nI 1)]) (rest := [.int (nI 2), .int (nI 0), .int (nI 0)]) ⟨hx, hb, hml, hown, hts⟩ (a_X8_indexOf_63 l dC dI h cs H.size fI fL fA fQ fG fJ ) (cwV 2 hts gX8_offOf_X8_indexOf rfl rfl rfl (by decide +kernel) ⟨Nat.le_of_ble_eq_true rfl, Nat.le_of_ble_eq_true rfl⟩) (xpV (wc := (wD_60 h cs fI fL fA fQ fG fJ)) hP hD hK hN [0, 1, 2, 3, 4, 5, 6, 7, 8, 9, 10, 11] rfl (by decide) 0 (ci := 8) rfl rfl _) rfl rfl hl.1 rfl (lv_room (Nat.le_of_ble_eq_true rfl)) dX8_offOf_60 ⟨Nat.zero_le _, Nat.zero_le _⟩) (fun r_11 u_10 H locs hw hP hD hS => ?_)
  obtain ⟨hf_12, rfl⟩ := hw
  have hP : va_P (dC, dI) vwCl (wD_60 h cs fI fL fA fQ fG fJ) H := hP
  have hD : va_D A0 (wD_60 h cs fI fL fA fQ fG fJ) := hD
  obtain rfl := hf_12
  refine lv_imul hx hb dX8_offOf_63 ?_
  refine xt_i (y := nI 0) (by decide +kernel) ?_
  refine lv_aload_n hx hb dX8_offOf_64 rfl (lv_at hl 4 rfl) ?_
  refine va_get (D := (dC, dI)) (ci := 8) (v := .ref (h 101)) (C := RX8) (T := TX8) (N := 6) hx hb hts hinX8 hown hK hP 0 rfl rfl 0 (by decide) (hts (.fieldLink RX8 28 "MixedWords$Words" "mix" "LMixedWords$Mix;") (by decide +kernel)) (fun _ h9 => h9) rfl dX8_offOf_65 ?_
  refine va_get (D := (dC, dI)) (ci := 3) (v := .int (fI 122)) (C := RX3) (T := TX3) (N := 6) hx hb hts hinX3 hown hK hP 1 rfl rfl 2 (by decide) (hts (.fieldLink RX8 51 "MixedWords$Mix" "letterCount" "I") (by decide +kernel)) (fun _ h9 => h9) rfl dX8_offOf_68 ?_
  refine xt_i (y := nI 2) (by decide +kernel) ?_
  refine lv_isub hx hb dX8_offOf_71 ?_
  refine xt_i (y := (-2 : Int32)) (by decide +kernel) ?_
  refine lv_iconst (v := nI 1) hx hb dX8_offOf_72 (by decide) ?_
  refine lv_iadd hx hb dX8_offOf_73 ?_
  refine xt_i (y := (-1 : Int32)) (by decide +kernel) ?_
  refine lv_imul hx hb dX8_offOf_74 ?_
  refine xt_i (y := nI 0) (by decide +kernel) ?_
  refine lv_isub hx hb dX8_offOf_75 ?_
  refine xt_i (y := nI 0) (by decide +kernel) ?_
  refine lv_istore (lv' := [(4, .int (nI 0)), (5, .int (nI 1)), (3, .int (nI 1)), (2, .int (nI 0)), (0, .ref (h 105)), (1, .int (nI 0))]) hx hb dX8_offOf_76 hl (by decide) rfl (fun ls hl => ?_)
  refine lv_iinc (v := nI 2) (lv' := [(5, .int (nI 2)), (4, .int (nI 0)), (3, .int (nI 1)), (2, .int (nI 0)), (0, .ref (h 105)), (1, .int (nI 0))]) hx hb dX8_offOf_78 hl (k := 1) rfl (by decide +kernel) (by decide) rfl (fun ls hl => ?_)
  refine lv_goto (tgt := 29) hx hb dX8_offOf_81 (by decide) ?_
  refine lv_iload hx hb dX8_offOf_29 (lv_at hl 0 rfl) ?_
  refine lv_aload_n hx hb dX8_offOf_31 rfl (lv_at hl 4 rfl) ?_
  refine va_get (D := (dC, dI)) (ci := 8) (v := .ref (h 101)) (C := RX8) (T := TX8) (N := 6) hx hb hts hinX8 hown hK hP 0 rfl rfl 0 (by decide) (hts (.fieldLink RX8 28 "MixedWords$Words" "mix" "LMixedWords$Mix;") (by decide +kernel)) (fun _ h9 => h9) rfl dX8_offOf_32 ?_
  refine va_get (D := (dC, dI)) (ci := 3) (v := .int (fI 121)) (C := RX3) (T := TX3) (N := 6) hx hb hts hinX3 hown hK hP 1 rfl rfl 1 (by decide) (hts (.fieldLink RX8 40 "MixedWords$Mix" "width" "I") (by decide +kernel)) (fun _ h9 => h9) rfl dX8_offOf_35 ?_
  refine xt_i (y := nI 2) (by decide +kernel) ?_
  refine lv_icmp_ge (tgt := 84) hx hb dX8_offOf_38 (by decide) (fun _ => ?_) (fun c9 => False.elim (by revert c9; decide +kernel))
  refine lv_iload_n hx hb dX8_offOf_84 rfl (lv_at hl 3 rfl) ?_
  refine lv_iload hx hb dX8_offOf_85 (lv_at hl 1 rfl) ?_
  refine lv_iload hx hb dX8_offOf_87 (lv_at hl 1 rfl) ?_
  refine lv_imul hx hb dX8_offOf_89 ?_
  refine xt_i (y := nI 0) (by decide +kernel) ?_
  refine lv_iadd hx hb dX8_offOf_90 ?_
  refine xt_i (y := nI 0) (by decide +kernel) ?_
  refine lv_istore_n (lv' := [(2, .int (nI 0)), (5, .int (nI 2)), (4, .int (nI 0)), (3, .int (nI 1)), (0, .ref (h 105)), (1, .int (nI 0))]) hx hb dX8_offOf_91 rfl hl (by decide) rfl (fun ls hl => ?_)
  refine lv_iinc (v := nI 2) (lv' := [(3, .int (nI 2)), (2, .int (nI 0)), (5, .int (nI 2)), (4, .int (nI 0)), (0, .ref (h 105)), (1, .int (nI 0))]) hx hb dX8_offOf_92 hl (k := 3) rfl (by decide +kernel) (by decide) rfl (fun ls hl => ?_)
  refine lv_goto (tgt := 4) hx hb dX8_offOf_95 (by decide) ?_
  refine lv_iload_n hx hb dX8_offOf_4 rfl (lv_at hl 0 rfl) ?_
  refine lv_aload_n hx hb dX8_offOf_5 rfl (lv_at hl 4 rfl) ?_
  refine va_get (D := (dC, dI)) (ci := 8) (v := .ref (h 101)) (C := RX8) (T := TX8) (N := 6) hx hb hts hinX8 hown hK hP 0 rfl rfl 0 (by decide) (hts (.fieldLink RX8 28 "MixedWords$Words" "mix" "LMixedWords$Mix;") (by decide +kernel)) (fun _ h9 => h9) rfl dX8_offOf_6 ?_
  refine va_get (D := (dC, dI)) (ci := 3) (v := .int (fI 120)) (C := RX3) (T := TX3) (N := 6) hx hb hts hinX3 hown hK hP 1 rfl rfl 0 (by decide) (hts (.fieldLink RX8 32 "MixedWords$Mix" "height" "I") (by decide +kernel)) (fun _ h9 => h9) rfl dX8_offOf_9 ?_
  refine xt_i (y := nI 2) (by decide +kernel) ?_
  refine lv_icmp_ge (tgt := 98) hx hb dX8_offOf_12 (by decide) (fun _ => ?_) (fun c9 => False.elim (by revert c9; decide +kernel))
  refine lv_iload_n hx hb dX8_offOf_98 rfl (lv_at hl 1 rfl) ?_
  exact xr_i (v := (nI 0)) hx hb hr hlocks hK hS dX8_offOf_99 (fI, fL, fA, fQ, fG, fJ) ⟨rfl, rfl⟩ hP hD
set_option maxHeartbeats 4000000 in
set_option maxRecDepth 100000 in
theorem a_X8_indexOf_65 (l : Launch) (dC : Nat → ClassId) (dI : Nat → Nat → Nat) (h : Nat → Nat) (cs : Nat → ClassId) (sz : Nat) (I : Nat → Int32) (L : Nat → Int64) (A : Nat → Nat → Int32) (Q : Nat → Nat → Int64) (G : Nat → Nat → Nat → Int32) (J : Nat → Nat → Nat → Int64) : Met l yX8_indexOf wsX8_indexOf ({ frames := 1, cells := 0, slots := 0, locals := 20 }) (va_Pc [.ref (h 105), .int (nI 1), .int (nI 0)] (xPre (dC, dI) (wD_60 h cs fI fL fA fQ fG fJ) (tysA cs) sz)) (va_Qi (fun (r : Int32) (u : CS) => (r = nI 0) ∧ u = (fI, fL, fA, fQ, fG, fJ)) (xB (dC, dI) (tysA cs) (va_A (wD_60 h cs fI fL fA fQ fG fJ) sz) (fun u : CS => wD_60 h cs u.1 u.2.1 u.2.2.1 u.2.2.2.1 u.2.2.2.2.1 u.2.2.2.2.2)) (va_A (wD_60 h cs fI fL fA fQ fG fJ) sz)) 0 0 (va_A (wD_60 h cs fI fL fA fQ fG fJ) sz) := by
  refine Met.ofW (cc := cX8_indexOf) (maxL := 3) (ret := (some .int)) (by decide) rfl ?_
  intro p e s m args below meth c s₁ B hml hv
  obtain ⟨rfl, hsz, hP, hK, hD0, hN⟩ := hv
  have hx := B.exec
  have hb := B.bytes
  have hr := B.returns
  have hts := atoms_spec (ws := wsX8_indexOf) B.pre
  have hown : s.vm.findClass RX8 = some m.cls := findClass_of_methodNamed B.named
  have hlocks := B.notSynchronized
  subst hsz
  have hD := hD0.self (sz := s.heap.size)
  generalize hAe : va_A (wD_60 h cs fI fL fA fQ fG fJ) s.heap.size = A0 at hD ⊢
  have hA : ∀ q : Nat, s.heap.size ≤ q → A0 q := fun q h => by rw [← hAe]; exact Or.inr h
  have hl := lv_entry ([.ref (h 105), .int (nI 1), .int (nI 0)]) (n := 3) (Nat.le_of_ble_eq_true rfl)
  rw [lg_entry_eq]
  generalize (lg_sl ([.ref (h 105), .int (nI 1), .int (nI 0)]) ++ List.replicate (3 - (lg_sl ([.ref (h 105), .int (nI 1), .int (nI 0)])).length) Slot.unset).toArray = ls at hl ⊢
  have hl : lv_has ls 3 [(0, .ref (h 105)), (1, .int (nI 1)), (2, .int (nI 0))] := hl
  generalize hH : s.heap = H at hP ⊢
  have hS : va_S A0 s.heap H [] := by rw [← hH]; exact va_S.rf
  have hinX8 : ∀ w ∈ wsX80, w ∈ wsX8_indexOf := by decide +kernel
  have hinX3 : ∀ w ∈ wsX30, w ∈ wsX8_indexOf := by decide +kernel
  refine lv_iload_n hx hb dX8_indexOf_0 rfl (lv_at hl 1 rfl) ?_
  refine lv_aload_n hx hb dX8_indexOf_1 rfl (lv_at hl 0 rfl) ?_
  refine va_get (D := (dC, dI)) (ci := 8) (v := .ref (h 101)) (C := RX8) (T := TX8) (N := 6) hx hb hts hinX8 hown hK hP 0 rfl rfl 0 (by decide) (hts (.fieldLink RX8 28 "MixedWords$Words" "mix" "LMixedWords$Mix;") (by decide +kernel)) (fun _ h9 => h9) rfl dX8_indexOf_2 ?_
  refine xj_i (wc := (wD_32 h cs fI fL fA fQ fG fJ)) (wr := [(h 105, .inr (8, [.ref (h 101), .ref (h 170), .ref (h 171), .ref (h 172), .int (fI 173), .int (fI 174)])), (h 170, .inl (cs 0, 256, .inl (fA 170))), (h 171, .inl (cs 0, 256, .inl (fA 171))), (h 172, .inl (cs 0, 256, .inl (fA 172)))]) hP hD hS hA [1, 2, 3, 4, 5, 6, 7, 8] [0, 9, 10, 11] rfl rfl (by decide) (by decide) (va_runV (As := []) (rest := [.int (nI 1)]) ⟨hx, hb, hml, hown, hts⟩ (a_X3_bitsOfLetter_59 l dC dI h cs H.size fI fL fA fQ fG fJ ) (cwV 0 hts gX8_indexOf_X3_bitsOfLetter rfl rfl rfl (by decide +kernel) ⟨Nat.le_of_ble_eq_true rfl, Nat.le_of_ble_eq_true rfl⟩) (xpV (wc := (wD_32 h cs fI fL fA fQ fG fJ)) hP hD hK hN [1, 2, 3, 4, 5, 6, 7, 8] rfl (by decide) 1 (ci := 3) rfl rfl _) rfl rfl hl.1 rfl (lv_room (Nat.le_of_ble_eq_true rfl)) dX8_indexOf_5 ⟨Nat.zero_le _, Nat.zero_le _⟩) (fun r_2 u_1 H locs hw hP hD hS => ?_)
  obtain ⟨hf_3, rfl⟩ := hw
  have hP : va_P (dC, dI) vwCl (wD_60 h cs fI fL fA fQ fG fJ) H := xP_sub hP [0, 4, 5, 6, 7, 8, 9, 10, 11, 1, 2, 3] rfl
  have hD : va_D A0 (wD_60 h cs fI fL fA fQ fG fJ) := hD.sub [0, 4, 5, 6, 7, 8, 9, 10, 11, 1, 2, 3] (by decide) rfl
  obtain rfl := hf_3
  refine lv_aload_n hx hb dX8_indexOf_8 rfl (lv_at hl 0 rfl) ?_
  refine va_get (D := (dC, dI)) (ci := 8) (v := .ref (h 101)) (C := RX8) (T := TX8) (N := 6) hx hb hts hinX8 hown hK hP 0 rfl rfl 0 (by decide) (hts (.fieldLink RX8 28 "MixedWords$Words" "mix" "LMixedWords$Mix;") (by decide +kernel)) (fun _ h9 => h9) rfl dX8_indexOf_9 ?_
  refine va_get (D := (dC, dI)) (ci := 3) (v := .int (fI 121)) (C := RX3) (T := TX3) (N := 6) hx hb hts hinX3 hown hK hP 1 rfl rfl 1 (by decide) (hts (.fieldLink RX8 40 "MixedWords$Mix" "width" "I") (by decide +kernel)) (fun _ h9 => h9) rfl dX8_indexOf_12 ?_
  refine xt_i (y := nI 2) (by decide +kernel) ?_
  refine lv_iconst (v := nI 1) hx hb dX8_indexOf_15 (by decide) ?_
  refine lv_isub hx hb dX8_indexOf_16 ?_
  refine xt_i (y := nI 1) (by decide +kernel) ?_
  refine lv_iload_n hx hb dX8_indexOf_17 rfl (lv_at hl 2 rfl) ?_
  refine lv_isub hx hb dX8_indexOf_18 ?_
  refine xt_i (y := nI 1) (by decide +kernel) ?_
  refine lv_imul hx hb dX8_indexOf_19 ?_
  refine xt_i (y := nI 1) (by decide +kernel) ?_
  refine lv_ishr hx hb dX8_indexOf_20 ?_
  refine xt_i (y := nI 0) (by decide +kernel) ?_
  refine lv_aload_n hx hb dX8_indexOf_21 rfl (lv_at hl 0 rfl) ?_
  refine va_get (D := (dC, dI)) (ci := 8) (v := .ref (h 101)) (C := RX8) (T := TX8) (N := 6) hx hb hts hinX8 hown hK hP 0 rfl rfl 0 (by decide) (hts (.fieldLink RX8 28 "MixedWords$Words" "mix" "LMixedWords$Mix;") (by decide +kernel)) (fun _ h9 => h9) rfl dX8_indexOf_22 ?_
  refine va_get (D := (dC, dI)) (ci := 3) (v := .int (fI 122)) (C := RX3) (T := TX3) (N := 6) hx hb hts hinX3 hown hK hP 1 rfl rfl 2 (by decide) (hts (.fieldLink RX8 51 "MixedWords$Mix" "letterCount" "I") (by decide +kernel)) (fun _ h9 => h9) rfl dX8_indexOf_25 ?_
  refine xt_i (y := nI 2) (by decide +kernel) ?_
  refine lv_iconst (v := nI 1) hx hb dX8_indexOf_28 (by decide) ?_
  refine lv_isub hx hb dX8_indexOf_29 ?_
  refine xt_i (y := nI 1) (by decide +kernel) ?_
  refine lv_iand hx hb dX8_indexOf_30 ?_
  refine xt_i (y := nI 0) (by decide +kernel) ?_
  exact xr_i (v := (nI 0)) hx hb hr hlocks hK hS dX8_indexOf_31 (fI, fL, fA, fQ, fG, fJ) ⟨rfl, rfl⟩ hP hD
set_option maxHeartbeats 4000000 in
set_option maxRecDepth 100000 in
theorem a_X8_indexOf_66 (l : Launch) (dC : Nat → ClassId) (dI : Nat → Nat → Nat) (h : Nat → Nat) (cs : Nat → ClassId) (sz : Nat) (I : Nat → Int32) (L : Nat → Int64) (A : Nat → Nat → Int32) (Q : Nat → Nat → Int64) (G : Nat → Nat → Nat → Int32) (J : Nat → Nat → Nat → Int64) : Met l yX8_indexOf wsX8_indexOf ({ frames := 1, cells := 0, slots := 0, locals := 20 }) (va_Pc [.ref (h 105), .int (nI 1), .int (nI 1)] (xPre (dC, dI) (wD_60 h cs fI fL fA fQ fG fJ) (tysA cs) sz)) (va_Qi (fun (r : Int32) (u : CS) => (r = nI 1) ∧ u = (fI, fL, fA, fQ, fG, fJ)) (xB (dC, dI) (tysA cs) (va_A (wD_60 h cs fI fL fA fQ fG fJ) sz) (fun u : CS => wD_60 h cs u.1 u.2.1 u.2.2.1 u.2.2.2.1 u.2.2.2.2.1 u.2.2.2.2.2)) (va_A (wD_60 h cs fI fL fA fQ fG fJ) sz)) 0 0 (va_A (wD_60 h cs fI fL fA fQ fG fJ) sz) := by
  refine Met.ofW (cc := cX8_indexOf) (maxL := 3) (ret := (some .int)) (by decide) rfl ?_
  intro p e s m args below meth c s₁ B hml hv
  obtain ⟨rfl, hsz, hP, hK, hD0, hN⟩ := hv
  have hx := B.exec
  have hb := B.bytes
  have hr := B.returns
  have hts := atoms_spec (ws := wsX8_indexOf) B.pre
  have hown : s.vm.findClass RX8 = some m.cls := findClass_of_methodNamed B.named
  have hlocks := B.notSynchronized
  subst hsz
  have hD := hD0.self (sz := s.heap.size)
  generalize hAe : va_A (wD_60 h cs fI fL fA fQ fG fJ) s.heap.size = A0 at hD ⊢
  have hA : ∀ q : Nat, s.heap.size ≤ q → A0 q := fun q h => by rw [← hAe]; exact Or.inr h
  have hl := lv_entry ([.ref (h 105), .int (nI 1), .int (nI 1)]) (n := 3) (Nat.le_of_ble_eq_true rfl)
  rw [lg_entry_eq]
  generalize (lg_sl ([.ref (h 105), .int (nI 1), .int (nI 1)]) ++ List.replicate (3 - (lg_sl ([.ref (h 105), .int (nI 1), .int (nI 1)])).length) Slot.unset).toArray = ls at hl ⊢
  have hl : lv_has ls 3 [(0, .ref (h 105)), (1, .int (nI 1)), (2, .int (nI 1))] := hl
  generalize hH : s.heap = H at hP ⊢
  have hS : va_S A0 s.heap H [] := by rw [← hH]; exact va_S.rf
  have hinX8 : ∀ w ∈ wsX80, w ∈ wsX8_indexOf := by decide +kernel
  have hinX3 : ∀ w ∈ wsX30, w ∈ wsX8_indexOf := by decide +kernel
  refine lv_iload_n hx hb dX8_indexOf_0 rfl (lv_at hl 1 rfl) ?_
  refine lv_aload_n hx hb dX8_indexOf_1 rfl (lv_at hl 0 rfl) ?_
  refine va_get (D := (dC, dI)) (ci := 8) (v := .ref (h 101)) (C := RX8) (T := TX8) (N := 6) hx hb hts hinX8 hown hK hP 0 rfl rfl 0 (by decide) (hts (.fieldLink RX8 28 "MixedWords$Words" "mix" "LMixedWords$Mix;") (by decide +kernel)) (fun _ h9 => h9) rfl dX8_indexOf_2 ?_
  refine xj_i (wc := (wD_32 h cs fI fL fA fQ fG fJ)) (wr := [(h 105, .inr (8, [.ref (h 101), .ref (h 170), .ref (h 171), .ref (h 172), .int (fI 173), .int (fI 174)])), (h 170, .inl (cs 0, 256, .inl (fA 170))), (h 171, .inl (cs 0, 256, .inl (fA 171))), (h 172, .inl (cs 0, 256, .inl (fA 172)))]) hP hD hS hA [1, 2, 3, 4, 5, 6, 7, 8] [0, 9, 10, 11] rfl rfl (by decide) (by decide) (va_runV (As := []) (rest := [.int (nI 1)]) ⟨hx, hb, hml, hown, hts⟩ (a_X3_bitsOfLetter_59 l dC dI h cs H.size fI fL fA fQ fG fJ ) (cwV 0 hts gX8_indexOf_X3_bitsOfLetter rfl rfl rfl (by decide +kernel) ⟨Nat.le_of_ble_eq_true rfl, Nat.le_of_ble_eq_true rfl⟩) (xpV (wc := (wD_32 h cs fI fL fA fQ fG fJ)) hP hD hK hN [1, 2, 3, 4, 5, 6, 7, 8] rfl (by decide) 1 (ci := 3) rfl rfl _) rfl rfl hl.1 rfl (lv_room (Nat.le_of_ble_eq_true rfl)) dX8_indexOf_5 ⟨Nat.zero_le _, Nat.zero_le _⟩) (fun r_2 u_1 H locs hw hP hD hS => ?_)
  obtain ⟨hf_3, rfl⟩ := hw
  have hP : va_P (dC, dI) vwCl (wD_60 h cs fI fL fA fQ fG fJ) H := xP_sub hP [0, 4, 5, 6, 7, 8, 9, 10, 11, 1, 2, 3] rfl
  have hD : va_D A0 (wD_60 h cs fI fL fA fQ fG fJ) := hD.sub [0, 4, 5, 6, 7, 8, 9, 10, 11, 1, 2, 3] (by decide) rfl
  obtain rfl := hf_3
  refine lv_aload_n hx hb dX8_indexOf_8 rfl (lv_at hl 0 rfl) ?_
  refine va_get (D := (dC, dI)) (ci := 8) (v := .ref (h 101)) (C := RX8) (T := TX8) (N := 6) hx hb hts hinX8 hown hK hP 0 rfl rfl 0 (by decide) (hts (.fieldLink RX8 28 "MixedWords$Words" "mix" "LMixedWords$Mix;") (by decide +kernel)) (fun _ h9 => h9) rfl dX8_indexOf_9 ?_
  refine va_get (D := (dC, dI)) (ci := 3) (v := .int (fI 121)) (C := RX3) (T := TX3) (N := 6) hx hb hts hinX3 hown hK hP 1 rfl rfl 1 (by decide) (hts (.fieldLink RX8 40 "MixedWords$Mix" "width" "I") (by decide +kernel)) (fun _ h9 => h9) rfl dX8_indexOf_12 ?_
  refine xt_i (y := nI 2) (by decide +kernel) ?_
  refine lv_iconst (v := nI 1) hx hb dX8_indexOf_15 (by decide) ?_
  refine lv_isub hx hb dX8_indexOf_16 ?_
  refine xt_i (y := nI 1) (by decide +kernel) ?_
  refine lv_iload_n hx hb dX8_indexOf_17 rfl (lv_at hl 2 rfl) ?_
  refine lv_isub hx hb dX8_indexOf_18 ?_
  refine xt_i (y := nI 0) (by decide +kernel) ?_
  refine lv_imul hx hb dX8_indexOf_19 ?_
  refine xt_i (y := nI 0) (by decide +kernel) ?_
  refine lv_ishr hx hb dX8_indexOf_20 ?_
  refine xt_i (y := nI 1) (by decide +kernel) ?_
  refine lv_aload_n hx hb dX8_indexOf_21 rfl (lv_at hl 0 rfl) ?_
  refine va_get (D := (dC, dI)) (ci := 8) (v := .ref (h 101)) (C := RX8) (T := TX8) (N := 6) hx hb hts hinX8 hown hK hP 0 rfl rfl 0 (by decide) (hts (.fieldLink RX8 28 "MixedWords$Words" "mix" "LMixedWords$Mix;") (by decide +kernel)) (fun _ h9 => h9) rfl dX8_indexOf_22 ?_
  refine va_get (D := (dC, dI)) (ci := 3) (v := .int (fI 122)) (C := RX3) (T := TX3) (N := 6) hx hb hts hinX3 hown hK hP 1 rfl rfl 2 (by decide) (hts (.fieldLink RX8 51 "MixedWords$Mix" "letterCount" "I") (by decide +kernel)) (fun _ h9 => h9) rfl dX8_indexOf_25 ?_
  refine xt_i (y := nI 2) (by decide +kernel) ?_
  refine lv_iconst (v := nI 1) hx hb dX8_indexOf_28 (by decide) ?_
  refine lv_isub hx hb dX8_indexOf_29 ?_
  refine xt_i (y := nI 1) (by decide +kernel) ?_
  refine lv_iand hx hb dX8_indexOf_30 ?_
  refine xt_i (y := nI 1) (by decide +kernel) ?_
  exact xr_i (v := (nI 1)) hx hb hr hlocks hK hS dX8_indexOf_31 (fI, fL, fA, fQ, fG, fJ) ⟨rfl, rfl⟩ hP hD
set_option maxHeartbeats 4000000 in
set_option maxRecDepth 100000 in
theorem a_X8_offOf_64 (l : Launch) (dC : Nat → ClassId) (dI : Nat → Nat → Nat) (h : Nat → Nat) (cs : Nat → ClassId) (sz : Nat) (I : Nat → Int32) (L : Nat → Int64) (A : Nat → Nat → Int32) (Q : Nat → Nat → Int64) (G : Nat → Nat → Nat → Int32) (J : Nat → Nat → Nat → Int64) : Met l yX8_offOf wsX8_offOf ({ frames := 2, cells := 0, slots := 0, locals := 42 }) (va_Pc [.ref (h 105), .int (nI 1)] (xPre (dC, dI) (wD_60 h cs fI fL fA fQ fG fJ) (tysA cs) sz)) (va_Qi (fun (r : Int32) (u : CS) => (r = nI 0) ∧ u = (fI, fL, fA, fQ, fG, fJ)) (xB (dC, dI) (tysA cs) (va_A (wD_60 h cs fI fL fA fQ fG fJ) sz) (fun u : CS => wD_60 h cs u.1 u.2.1 u.2.2.1 u.2.2.2.1 u.2.2.2.2.1 u.2.2.2.2.2)) (va_A (wD_60 h cs fI fL fA fQ fG fJ) sz)) 0 0 (va_A (wD_60 h cs fI fL fA fQ fG fJ) sz) := by
  refine Met.ofW (cc := cX8_offOf) (maxL := 6) (ret := (some .int)) (by decide) rfl ?_
  intro p e s m args below meth c s₁ B hml hv
  obtain ⟨rfl, hsz, hP, hK, hD0, hN⟩ := hv
  have hx := B.exec
  have hb := B.bytes
  have hr := B.returns
  have hts := atoms_spec (ws := wsX8_offOf) B.pre
  have hown : s.vm.findClass RX8 = some m.cls := findClass_of_methodNamed B.named
  have hlocks := B.notSynchronized
  subst hsz
  have hD := hD0.self (sz := s.heap.size)
  generalize hAe : va_A (wD_60 h cs fI fL fA fQ fG fJ) s.heap.size = A0 at hD ⊢
  have hA : ∀ q : Nat, s.heap.size ≤ q → A0 q := fun q h => by rw [← hAe]; exact Or.inr h
  have hl := lv_entry ([.ref (h 105), .int (nI 1)]) (n := 6) (Nat.le_of_ble_eq_true rfl)
  rw [lg_entry_eq]
  generalize (lg_sl ([.ref (h 105), .int (nI 1)]) ++ List.replicate (6 - (lg_sl ([.ref (h 105), .int (nI 1)])).length) Slot.unset).toArray = ls at hl ⊢
  have hl : lv_has ls 6 [(0, .ref (h 105)), (1, .int (nI 1))] := hl
  generalize hH : s.heap = H at hP ⊢
  have hS : va_S A0 s.heap H [] := by rw [← hH]; exact va_S.rf
  have hinX8 : ∀ w ∈ wsX80, w ∈ wsX8_offOf := by decide +kernel
  have hinX3 : ∀ w ∈ wsX30, w ∈ wsX8_offOf := by decide +kernel
  refine lv_iconst (v := nI 0) hx hb dX8_offOf_0 (by decide) ?_
  refine lv_istore_n (lv' := [(2, .int (nI 0)), (0, .ref (h 105)), (1, .int (nI 1))]) hx hb dX8_offOf_1 rfl hl (by decide) rfl (fun ls hl => ?_)
  refine lv_iconst (v := nI 0) hx hb dX8_offOf_2 (by decide) ?_
  refine lv_istore_n (lv' := [(3, .int (nI 0)), (2, .int (nI 0)), (0, .ref (h 105)), (1, .int (nI 1))]) hx hb dX8_offOf_3 rfl hl (by decide) rfl (fun ls hl => ?_)
  refine lv_iload_n hx hb dX8_offOf_4 rfl (lv_at hl 0 rfl) ?_
  refine lv_aload_n hx hb dX8_offOf_5 rfl (lv_at hl 2 rfl) ?_
  refine va_get (D := (dC, dI)) (ci := 8) (v := .ref (h 101)) (C := RX8) (T := TX8) (N := 6) hx hb hts hinX8 hown hK hP 0 rfl rfl 0 (by decide) (hts (.fieldLink RX8 28 "MixedWords$Words" "mix" "LMixedWords$Mix;") (by decide +kernel)) (fun _ h9 => h9) rfl dX8_offOf_6 ?_
  refine va_get (D := (dC, dI)) (ci := 3) (v := .int (fI 120)) (C := RX3) (T := TX3) (N := 6) hx hb hts hinX3 hown hK hP 1 rfl rfl 0 (by decide) (hts (.fieldLink RX8 32 "MixedWords$Mix" "height" "I") (by decide +kernel)) (fun _ h9 => h9) rfl dX8_offOf_9 ?_
  refine xt_i (y := nI 2) (by decide +kernel) ?_
  refine lv_icmp_ge (tgt := 98) hx hb dX8_offOf_12 (by decide) (fun c9 => False.elim (by revert c9; decide +kernel)) (fun _ => ?_)
  refine lv_aload_n hx hb dX8_offOf_15 rfl (lv_at hl 2 rfl) ?_
  refine va_get (D := (dC, dI)) (ci := 8) (v := .ref (h 101)) (C := RX8) (T := TX8) (N := 6) hx hb hts hinX8 hown hK hP 0 rfl rfl 0 (by decide) (hts (.fieldLink RX8 28 "MixedWords$Words" "mix" "LMixedWords$Mix;") (by decide +kernel)) (fun _ h9 => h9) rfl dX8_offOf_16 ?_
  refine va_get (D := (dC, dI)) (ci := 3) (v := .ref (h 136)) (C := RX3) (T := TX3) (N := 6) hx hb hts hinX3 hown hK hP 1 rfl rfl 5 (by decide) (hts (.fieldLink RX8 37 "MixedWords$Mix" "heard" "[I") (by decide +kernel)) (fun _ h9 => h9) rfl dX8_offOf_19 ?_
  refine lv_iload_n hx hb dX8_offOf_22 rfl (lv_at hl 0 rfl) ?_
  refine xa_iald hx hb hK hP 8 0 rfl rfl (by omega) (by decide) dX8_offOf_23 ?_
  refine xt_i (y := nI 0) (by decide +kernel) ?_
  refine lv_istore (lv' := [(4, .int (nI 0)), (3, .int (nI 0)), (2, .int (nI 0)), (0, .ref (h 105)), (1, .int (nI 1))]) hx hb dX8_offOf_24 hl (by decide) rfl (fun ls hl => ?_)
  refine lv_iconst (v := nI 0) hx hb dX8_offOf_26 (by decide) ?_
  refine lv_istore (lv' := [(5, .int (nI 0)), (4, .int (nI 0)), (3, .int (nI 0)), (2, .int (nI 0)), (0, .ref (h 105)), (1, .int (nI 1))]) hx hb dX8_offOf_27 hl (by decide) rfl (fun ls hl => ?_)
  refine lv_iload hx hb dX8_offOf_29 (lv_at hl 0 rfl) ?_
  refine lv_aload_n hx hb dX8_offOf_31 rfl (lv_at hl 4 rfl) ?_
  refine va_get (D := (dC, dI)) (ci := 8) (v := .ref (h 101)) (C := RX8) (T := TX8) (N := 6) hx hb hts hinX8 hown hK hP 0 rfl rfl 0 (by decide) (hts (.fieldLink RX8 28 "MixedWords$Words" "mix" "LMixedWords$Mix;") (by decide +kernel)) (fun _ h9 => h9) rfl dX8_offOf_32 ?_
  refine va_get (D := (dC, dI)) (ci := 3) (v := .int (fI 121)) (C := RX3) (T := TX3) (N := 6) hx hb hts hinX3 hown hK hP 1 rfl rfl 1 (by decide) (hts (.fieldLink RX8 40 "MixedWords$Mix" "width" "I") (by decide +kernel)) (fun _ h9 => h9) rfl dX8_offOf_35 ?_
  refine xt_i (y := nI 2) (by decide +kernel) ?_
  refine lv_icmp_ge (tgt := 84) hx hb dX8_offOf_38 (by decide) (fun c9 => False.elim (by revert c9; decide +kernel)) (fun _ => ?_)
  refine lv_iload hx hb dX8_offOf_41 (lv_at hl 1 rfl) ?_
  refine lv_aload_n hx hb dX8_offOf_43 rfl (lv_at hl 4 rfl) ?_
  refine va_get (D := (dC, dI)) (ci := 8) (v := .ref (h 101)) (C := RX8) (T := TX8) (N := 6) hx hb hts hinX8 hown hK hP 0 rfl rfl 0 (by decide) (hts (.fieldLink RX8 28 "MixedWords$Words" "mix" "LMixedWords$Mix;") (by decide +kernel)) (fun _ h9 => h9) rfl dX8_offOf_44 ?_
  refine va_get (D := (dC, dI)) (ci := 3) (v := .ref (h 130)) (C := RX3) (T := TX3) (N := 6) hx hb hts hinX3 hown hK hP 1 rfl rfl 4 (by decide) (hts (.fieldLink RX8 43 "MixedWords$Mix" "cells" "[[I") (by decide +kernel)) (fun _ h9 => h9) rfl dX8_offOf_47 ?_
  refine lv_iload_n hx hb dX8_offOf_50 rfl (lv_at hl 2 rfl) ?_
  refine xa_aald (b := h 131) hx hb hK hP 2 3 rfl rfl rfl (by omega) (by decide) (if_pos (by omega)) dX8_offOf_51 ?_
  refine lv_iload hx hb dX8_offOf_52 (lv_at hl 0 rfl) ?_
  refine xa_iald hx hb hK hP 3 0 rfl rfl (by omega) (by decide) dX8_offOf_54 ?_
  refine xt_i (y := nI 0) (by decide +kernel) ?_
  refine lv_iconst (v := nI 2) hx hb dX8_offOf_55 (by decide) ?_
  refine lv_aload_n hx hb dX8_offOf_56 rfl (lv_at hl 4 rfl) ?_
  refine lv_iload_n hx hb dX8_offOf_57 rfl (lv_at hl 5 rfl) ?_
  refine lv_iload hx hb dX8_offOf_58 (lv_at hl 0 rfl) ?_
  refine xj_i (wc := (wD_60 h cs fI fL fA fQ fG fJ)) (wr := ([] : va_W)) hP hD hS hA [0, 1, 2, 3, 4, 5, 6, 7, 8, 9, 10, 11] [] rfl rfl (by decide) (by decide) (va_runV (As := [.int (nI 1), .int (nI 0)]) (rest := [.int (nI 2), .int (nI 0), .int (nI 0)]) ⟨hx, hb, hml, hown, hts⟩ (a_X8_indexOf_65 l dC dI h cs H.size fI fL fA fQ fG fJ ) (cwV 2 hts gX8_offOf_X8_indexOf rfl rfl rfl (by decide +kernel) ⟨Nat.le_of_ble_eq_true rfl, Nat.le_of_ble_eq_true rfl⟩) (xpV (wc := (wD_60 h cs fI fL fA fQ fG fJ)) hP hD hK hN [0, 1, 2, 3, 4, 5, 6, 7, 8, 9, 10, 11] rfl (by decide) 0 (ci := 8) rfl rfl _) rfl rfl hl.1 rfl (lv_room (Nat.le_of_ble_eq_true rfl)) dX8_offOf_60 ⟨Nat.zero_le _, Nat.zero_le _⟩) (fun r_2 u_1 H locs hw hP hD hS => ?_)
  obtain ⟨hf_3, rfl⟩ := hw
  have hP : va_P (dC, dI) vwCl (wD_60 h cs fI fL fA fQ fG fJ) H := hP
  have hD : va_D A0 (wD_60 h cs fI fL fA fQ fG fJ) := hD
  obtain rfl := hf_3
  refine lv_imul hx hb dX8_offOf_63 ?_
  refine xt_i (y := nI 0) (by decide +kernel) ?_
  refine lv_aload_n hx hb dX8_offOf_64 rfl (lv_at hl 4 rfl) ?_
  refine va_get (D := (dC, dI)) (ci := 8) (v := .ref (h 101)) (C := RX8) (T := TX8) (N := 6) hx hb hts hinX8 hown hK hP 0 rfl rfl 0 (by decide) (hts (.fieldLink RX8 28 "MixedWords$Words" "mix" "LMixedWords$Mix;") (by decide +kernel)) (fun _ h9 => h9) rfl dX8_offOf_65 ?_
  refine va_get (D := (dC, dI)) (ci := 3) (v := .int (fI 122)) (C := RX3) (T := TX3) (N := 6) hx hb hts hinX3 hown hK hP 1 rfl rfl 2 (by decide) (hts (.fieldLink RX8 51 "MixedWords$Mix" "letterCount" "I") (by decide +kernel)) (fun _ h9 => h9) rfl dX8_offOf_68 ?_
  refine xt_i (y := nI 2) (by decide +kernel) ?_
  refine lv_isub hx hb dX8_offOf_71 ?_
  refine xt_i (y := (-2 : Int32)) (by decide +kernel) ?_
  refine lv_iconst (v := nI 1) hx hb dX8_offOf_72 (by decide) ?_
  refine lv_iadd hx hb dX8_offOf_73 ?_
  refine xt_i (y := (-1 : Int32)) (by decide +kernel) ?_
  refine lv_imul hx hb dX8_offOf_74 ?_
  refine xt_i (y := nI 0) (by decide +kernel) ?_
  refine lv_isub hx hb dX8_offOf_75 ?_
  refine xt_i (y := nI 0) (by decide +kernel) ?_
  refine lv_istore (lv' := [(4, .int (nI 0)), (5, .int (nI 0)), (3, .int (nI 0)), (2, .int (nI 0)), (0, .ref (h 105)), (1, .int (nI 1))]) hx hb dX8_offOf_76 hl (by decide) rfl (fun ls hl => ?_)
  refine lv_iinc (v := nI 1) (lv' := [(5, .int (nI 1)), (4, .int (nI 0)), (3, .int (nI 0)), (2, .int (nI 0)), (0, .ref (h 105)), (1, .int (nI 1))]) hx hb dX8_offOf_78 hl (k := 1) rfl (by decide +kernel) (by decide) rfl (fun ls hl => ?_)
  refine lv_goto (tgt := 29) hx hb dX8_offOf_81 (by decide) ?_
  refine lv_iload hx hb dX8_offOf_29 (lv_at hl 0 rfl) ?_
  refine lv_aload_n hx hb dX8_offOf_31 rfl (lv_at hl 4 rfl) ?_
  refine va_get (D := (dC, dI)) (ci := 8) (v := .ref (h 101)) (C := RX8) (T := TX8) (N := 6) hx hb hts hinX8 hown hK hP 0 rfl rfl 0 (by decide) (hts (.fieldLink RX8 28 "MixedWords$Words" "mix" "LMixedWords$Mix;") (by decide +kernel)) (fun _ h9 => h9) rfl dX8_offOf_32 ?_
  refine va_get (D := (dC, dI)) (ci := 3) (v := .int (fI 121)) (C := RX3) (T := TX3) (N := 6) hx hb hts hinX3 hown hK hP 1 rfl rfl 1 (by decide) (hts (.fieldLink RX8 40 "MixedWords$Mix" "width" "I") (by decide +kernel)) (fun _ h9 => h9) rfl dX8_offOf_35 ?_
  refine xt_i (y := nI 2) (by decide +kernel) ?_
  refine lv_icmp_ge (tgt := 84) hx hb dX8_offOf_38 (by decide) (fun c9 => False.elim (by revert c9; decide +kernel)) (fun _ => ?_)
  refine lv_iload hx hb dX8_offOf_41 (lv_at hl 1 rfl) ?_
  refine lv_aload_n hx hb dX8_offOf_43 rfl (lv_at hl 4 rfl) ?_
  refine va_get (D := (dC, dI)) (ci := 8) (v := .ref (h 101)) (C := RX8) (T := TX8) (N := 6) hx hb hts hinX8 hown hK hP 0 rfl rfl 0 (by decide) (hts (.fieldLink RX8 28 "MixedWords$Words" "mix" "LMixedWords$Mix;") (by decide +kernel)) (fun _ h9 => h9) rfl dX8_offOf_44 ?_
  refine va_get (D := (dC, dI)) (ci := 3) (v := .ref (h 130)) (C := RX3) (T := TX3) (N := 6) hx hb hts hinX3 hown hK hP 1 rfl rfl 4 (by decide) (hts (.fieldLink RX8 43 "MixedWords$Mix" "cells" "[[I") (by decide +kernel)) (fun _ h9 => h9) rfl dX8_offOf_47 ?_
  refine lv_iload_n hx hb dX8_offOf_50 rfl (lv_at hl 2 rfl) ?_
  refine xa_aald (b := h 131) hx hb hK hP 2 3 rfl rfl rfl (by omega) (by decide) (if_pos (by omega)) dX8_offOf_51 ?_
  refine lv_iload hx hb dX8_offOf_52 (lv_at hl 0 rfl) ?_
  refine xa_iald hx hb hK hP 3 0 rfl rfl (by omega) (by decide) dX8_offOf_54 ?_
  refine xt_i (y := nI 0) (by decide +kernel) ?_
  refine lv_iconst (v := nI 2) hx hb dX8_offOf_55 (by decide) ?_
  refine lv_aload_n hx hb dX8_offOf_56 rfl (lv_at hl 4 rfl) ?_
  refine lv_iload_n hx hb dX8_offOf_57 rfl (lv_at hl 5 rfl) ?_
  refine lv_iload hx hb dX8_offOf_58 (lv_at hl 0 rfl) ?_
  refine xj_i (wc := (wD_60 h cs fI fL fA fQ fG fJ)) (wr := ([] : va_W)) hP hD hS hA [0, 1, 2, 3, 4, 5, 6, 7, 8, 9, 10, 11] [] rfl rfl (by decide) (by decide) (va_runV (As := [.int (nI 1), .int (nI 1)]) (rest := [.int (nI 2), .int (nI 0), .int (nI 0)]) ⟨hx, hb, hml, hown, hts⟩ (a_X8_indexOf_66 l dC dI h cs H.size fI fL fA fQ fG fJ ) (cwV 2 hts gX8_offOf_X8_indexOf rfl rfl rfl (by decide +kernel) ⟨Nat.le_of_ble_eq_true rfl, Nat.le_of_ble_eq_true rfl⟩) (xpV (wc := (wD_60 h cs fI fL fA fQ fG fJ)) hP hD hK hN [0, 1, 2, 3, 4, 5, 6, 7, 8, 9, 10, 11] rfl (by decide) 0 (ci := 8) rfl rfl _) rfl rfl hl.1 rfl (lv_room (Nat.le_of_ble_eq_true rfl)) dX8_offOf_60 ⟨Nat.zero_le _, Nat.zero_le _⟩) (fun r_5 u_4 H locs hw hP hD hS => ?_)
  obtain ⟨hf_6, rfl⟩ := hw
  have hP : va_P (dC, dI) vwCl (wD_60 h cs fI fL fA fQ fG fJ) H := hP
  have hD : va_D A0 (wD_60 h cs fI fL fA fQ fG fJ) := hD
  obtain rfl := hf_6
  refine lv_imul hx hb dX8_offOf_63 ?_
  refine xt_i (y := nI 2) (by decide +kernel) ?_
  refine lv_aload_n hx hb dX8_offOf_64 rfl (lv_at hl 4 rfl) ?_
  refine va_get (D := (dC, dI)) (ci := 8) (v := .ref (h 101)) (C := RX8) (T := TX8) (N := 6) hx hb hts hinX8 hown hK hP 0 rfl rfl 0 (by decide) (hts (.fieldLink RX8 28 "MixedWords$Words" "mix" "LMixedWords$Mix;") (by decide +kernel)) (fun _ h9 => h9) rfl dX8_offOf_65 ?_
  refine va_get (D := (dC, dI)) (ci := 3) (v := .int (fI 122)) (C := RX3) (T := TX3) (N := 6) hx hb hts hinX3 hown hK hP 1 rfl rfl 2 (by decide) (hts (.fieldLink RX8 51 "MixedWords$Mix" "letterCount" "I") (by decide +kernel)) (fun _ h9 => h9) rfl dX8_offOf_68 ?_
  refine xt_i (y := nI 2) (by decide +kernel) ?_
  refine lv_isub hx hb dX8_offOf_71 ?_
  refine xt_i (y := nI 0) (by decide +kernel) ?_
  refine lv_iconst (v := nI 1) hx hb dX8_offOf_72 (by decide) ?_
  refine lv_iadd hx hb dX8_offOf_73 ?_
  refine xt_i (y := nI 1) (by decide +kernel) ?_
  refine lv_imul hx hb dX8_offOf_74 ?_
  refine xt_i (y := nI 0) (by decide +kernel) ?_
  refine lv_isub hx hb dX8_offOf_75 ?_
  refine xt_i (y := nI 0) (by decide +kernel) ?_
  refine lv_istore (lv' := [(4, .int (nI 0)), (5, .int (nI 1)), (3, .int (nI 0)), (2, .int (nI 0)), (0, .ref (h 105)), (1, .int (nI 1))]) hx hb dX8_offOf_76 hl (by decide) rfl (fun ls hl => ?_)
  refine lv_iinc (v := nI 2) (lv' := [(5, .int (nI 2)), (4, .int (nI 0)), (3, .int (nI 0)), (2, .int (nI 0)), (0, .ref (h 105)), (1, .int (nI 1))]) hx hb dX8_offOf_78 hl (k := 1) rfl (by decide +kernel) (by decide) rfl (fun ls hl => ?_)
  refine lv_goto (tgt := 29) hx hb dX8_offOf_81 (by decide) ?_
  refine lv_iload hx hb dX8_offOf_29 (lv_at hl 0 rfl) ?_
  refine lv_aload_n hx hb dX8_offOf_31 rfl (lv_at hl 4 rfl) ?_
  refine va_get (D := (dC, dI)) (ci := 8) (v := .ref (h 101)) (C := RX8) (T := TX8) (N := 6) hx hb hts hinX8 hown hK hP 0 rfl rfl 0 (by decide) (hts (.fieldLink RX8 28 "MixedWords$Words" "mix" "LMixedWords$Mix;") (by decide +kernel)) (fun _ h9 => h9) rfl dX8_offOf_32 ?_
  refine va_get (D := (dC, dI)) (ci := 3) (v := .int (fI 121)) (C := RX3) (T := TX3) (N := 6) hx hb hts hinX3 hown hK hP 1 rfl rfl 1 (by decide) (hts (.fieldLink RX8 40 "MixedWords$Mix" "width" "I") (by decide +kernel)) (fun _ h9 => h9) rfl dX8_offOf_35 ?_
  refine xt_i (y := nI 2) (by decide +kernel) ?_
  refine lv_icmp_ge (tgt := 84) hx hb dX8_offOf_38 (by decide) (fun _ => ?_) (fun c9 => False.elim (by revert c9; decide +kernel))
  refine lv_iload_n hx hb dX8_offOf_84 rfl (lv_at hl 3 rfl) ?_
  refine lv_iload hx hb dX8_offOf_85 (lv_at hl 1 rfl) ?_
  refine lv_iload hx hb dX8_offOf_87 (lv_at hl 1 rfl) ?_
  refine lv_imul hx hb dX8_offOf_89 ?_
  refine xt_i (y := nI 0) (by decide +kernel) ?_
  refine lv_iadd hx hb dX8_offOf_90 ?_
  refine xt_i (y := nI 0) (by decide +kernel) ?_
  refine lv_istore_n (lv' := [(2, .int (nI 0)), (5, .int (nI 2)), (4, .int (nI 0)), (3, .int (nI 0)), (0, .ref (h 105)), (1, .int (nI 1))]) hx hb dX8_offOf_91 rfl hl (by decide) rfl (fun ls hl => ?_)
  refine lv_iinc (v := nI 1) (lv' := [(3, .int (nI 1)), (2, .int (nI 0)), (5, .int (nI 2)), (4, .int (nI 0)), (0, .ref (h 105)), (1, .int (nI 1))]) hx hb dX8_offOf_92 hl (k := 3) rfl (by decide +kernel) (by decide) rfl (fun ls hl => ?_)
  refine lv_goto (tgt := 4) hx hb dX8_offOf_95 (by decide) ?_
  refine lv_iload_n hx hb dX8_offOf_4 rfl (lv_at hl 0 rfl) ?_
  refine lv_aload_n hx hb dX8_offOf_5 rfl (lv_at hl 4 rfl) ?_
  refine va_get (D := (dC, dI)) (ci := 8) (v := .ref (h 101)) (C := RX8) (T := TX8) (N := 6) hx hb hts hinX8 hown hK hP 0 rfl rfl 0 (by decide) (hts (.fieldLink RX8 28 "MixedWords$Words" "mix" "LMixedWords$Mix;") (by decide +kernel)) (fun _ h9 => h9) rfl dX8_offOf_6 ?_
  refine va_get (D := (dC, dI)) (ci := 3) (v := .int (fI 120)) (C := RX3) (T := TX3) (N := 6) hx hb hts hinX3 hown hK hP 1 rfl rfl 0 (by decide) (hts (.fieldLink RX8 32 "MixedWords$Mix" "height" "I") (by decide +kernel)) (fun _ h9 => h9) rfl dX8_offOf_9 ?_
  refine xt_i (y := nI 2) (by decide +kernel) ?_
  refine lv_icmp_ge (tgt := 98) hx hb dX8_offOf_12 (by decide) (fun c9 => False.elim (by revert c9; decide +kernel)) (fun _ => ?_)
  refine lv_aload_n hx hb dX8_offOf_15 rfl (lv_at hl 4 rfl) ?_
  refine va_get (D := (dC, dI)) (ci := 8) (v := .ref (h 101)) (C := RX8) (T := TX8) (N := 6) hx hb hts hinX8 hown hK hP 0 rfl rfl 0 (by decide) (hts (.fieldLink RX8 28 "MixedWords$Words" "mix" "LMixedWords$Mix;") (by decide +kernel)) (fun _ h9 => h9) rfl dX8_offOf_16 ?_
  refine va_get (D := (dC, dI)) (ci := 3) (v := .ref (h 136)) (C := RX3) (T := TX3) (N := 6) hx hb hts hinX3 hown hK hP 1 rfl rfl 5 (by decide) (hts (.fieldLink RX8 37 "MixedWords$Mix" "heard" "[I") (by decide +kernel)) (fun _ h9 => h9) rfl dX8_offOf_19 ?_
  refine lv_iload_n hx hb dX8_offOf_22 rfl (lv_at hl 0 rfl) ?_
  refine xa_iald hx hb hK hP 8 0 rfl rfl (by omega) (by decide) dX8_offOf_23 ?_
  refine xt_i (y := nI 0) (by decide +kernel) ?_
  refine lv_istore (lv' := [(4, .int (nI 0)), (3, .int (nI 1)), (2, .int (nI 0)), (5, .int (nI 2)), (0, .ref (h 105)), (1, .int (nI 1))]) hx hb dX8_offOf_24 hl (by decide) rfl (fun ls hl => ?_)
  refine lv_iconst (v := nI 0) hx hb dX8_offOf_26 (by decide) ?_
  refine lv_istore (lv' := [(5, .int (nI 0)), (4, .int (nI 0)), (3, .int (nI 1)), (2, .int (nI 0)), (0, .ref (h 105)), (1, .int (nI 1))]) hx hb dX8_offOf_27 hl (by decide) rfl (fun ls hl => ?_)
  refine lv_iload hx hb dX8_offOf_29 (lv_at hl 0 rfl) ?_
  refine lv_aload_n hx hb dX8_offOf_31 rfl (lv_at hl 4 rfl) ?_
  refine va_get (D := (dC, dI)) (ci := 8) (v := .ref (h 101)) (C := RX8) (T := TX8) (N := 6) hx hb hts hinX8 hown hK hP 0 rfl rfl 0 (by decide) (hts (.fieldLink RX8 28 "MixedWords$Words" "mix" "LMixedWords$Mix;") (by decide +kernel)) (fun _ h9 => h9) rfl dX8_offOf_32 ?_
  refine va_get (D := (dC, dI)) (ci := 3) (v := .int (fI 121)) (C := RX3) (T := TX3) (N := 6) hx hb hts hinX3 hown hK hP 1 rfl rfl 1 (by decide) (hts (.fieldLink RX8 40 "MixedWords$Mix" "width" "I") (by decide +kernel)) (fun _ h9 => h9) rfl dX8_offOf_35 ?_
  refine xt_i (y := nI 2) (by decide +kernel) ?_
  refine lv_icmp_ge (tgt := 84) hx hb dX8_offOf_38 (by decide) (fun c9 => False.elim (by revert c9; decide +kernel)) (fun _ => ?_)
  refine lv_iload hx hb dX8_offOf_41 (lv_at hl 1 rfl) ?_
  refine lv_aload_n hx hb dX8_offOf_43 rfl (lv_at hl 4 rfl) ?_
  refine va_get (D := (dC, dI)) (ci := 8) (v := .ref (h 101)) (C := RX8) (T := TX8) (N := 6) hx hb hts hinX8 hown hK hP 0 rfl rfl 0 (by decide) (hts (.fieldLink RX8 28 "MixedWords$Words" "mix" "LMixedWords$Mix;") (by decide +kernel)) (fun _ h9 => h9) rfl dX8_offOf_44 ?_
  refine va_get (D := (dC, dI)) (ci := 3) (v := .ref (h 130)) (C := RX3) (T := TX3) (N := 6) hx hb hts hinX3 hown hK hP 1 rfl rfl 4 (by decide) (hts (.fieldLink RX8 43 "MixedWords$Mix" "cells" "[[I") (by decide +kernel)) (fun _ h9 => h9) rfl dX8_offOf_47 ?_
  refine lv_iload_n hx hb dX8_offOf_50 rfl (lv_at hl 2 rfl) ?_
  refine xa_aald (b := h 132) hx hb hK hP 2 3 rfl rfl rfl (by omega) (by decide) (if_pos (by omega)) dX8_offOf_51 ?_
  refine lv_iload hx hb dX8_offOf_52 (lv_at hl 0 rfl) ?_
  refine xa_iald hx hb hK hP 4 0 rfl rfl (by omega) (by decide) dX8_offOf_54 ?_
  refine xt_i (y := nI 0) (by decide +kernel) ?_
  refine lv_iconst (v := nI 2) hx hb dX8_offOf_55 (by decide) ?_
  refine lv_aload_n hx hb dX8_offOf_56 rfl (lv_at hl 4 rfl) ?_
  refine lv_iload_n hx hb dX8_offOf_57 rfl (lv_at hl 5 rfl) ?_
  refine lv_iload hx hb dX8_offOf_58 (lv_at hl 0 rfl) ?_
  refine xj_i (wc := (wD_60 h cs fI fL fA fQ fG fJ)) (wr := ([] : va_W)) hP hD hS hA [0, 1, 2, 3, 4, 5, 6, 7, 8, 9, 10, 11] [] rfl rfl (by decide) (by decide) (va_runV (As := [.int (nI 1), .int (nI 0)]) (rest := [.int (nI 2), .int (nI 0), .int (nI 0)]) ⟨hx, hb, hml, hown, hts⟩ (a_X8_indexOf_65 l dC dI h cs H.size fI fL fA fQ fG fJ ) (cwV 2 hts gX8_offOf_X8_indexOf rfl rfl rfl (by decide +kernel) ⟨Nat.le_of_ble_eq_true rfl, Nat.le_of_ble_eq_true rfl⟩) (xpV (wc := (wD_60 h cs fI fL fA fQ fG fJ)) hP hD hK hN [0, 1, 2, 3, 4, 5, 6, 7, 8, 9, 10, 11] rfl (by decide) 0 (ci := 8) rfl rfl _) rfl rfl hl.1 rfl (lv_room (Nat.le_of_ble_eq_true rfl)) dX8_offOf_60 ⟨Nat.zero_le _, Nat.zero_le _⟩) (fun r_8 u_7 H locs hw hP hD hS => ?_)
  obtain ⟨hf_9, rfl⟩ := hw
  have hP : va_P (dC, dI) vwCl (wD_60 h cs fI fL fA fQ fG fJ) H := hP
  have hD : va_D A0 (wD_60 h cs fI fL fA fQ fG fJ) := hD
  obtain rfl := hf_9
  refine lv_imul hx hb dX8_offOf_63 ?_
  refine xt_i (y := nI 0) (by decide +kernel) ?_
  refine lv_aload_n hx hb dX8_offOf_64 rfl (lv_at hl 4 rfl) ?_
  refine va_get (D := (dC, dI)) (ci := 8) (v := .ref (h 101)) (C := RX8) (T := TX8) (N := 6) hx hb hts hinX8 hown hK hP 0 rfl rfl 0 (by decide) (hts (.fieldLink RX8 28 "MixedWords$Words" "mix" "LMixedWords$Mix;") (by decide +kernel)) (fun _ h9 => h9) rfl dX8_offOf_65 ?_
  refine va_get (D := (dC, dI)) (ci := 3) (v := .int (fI 122)) (C := RX3) (T := TX3) (N := 6) hx hb hts hinX3 hown hK hP 1 rfl rfl 2 (by decide) (hts (.fieldLink RX8 51 "MixedWords$Mix" "letterCount" "I") (by decide +kernel)) (fun _ h9 => h9) rfl dX8_offOf_68 ?_
  refine xt_i (y := nI 2) (by decide +kernel) ?_
  refine lv_isub hx hb dX8_offOf_71 ?_
  refine xt_i (y := (-2 : Int32)) (by decide +kernel) ?_
  refine lv_iconst (v := nI 1) hx hb dX8_offOf_72 (by decide) ?_
  refine lv_iadd hx hb dX8_offOf_73 ?_
  refine xt_i (y := (-1 : Int32)) (by decide +kernel) ?_
  refine lv_imul hx hb dX8_offOf_74 ?_
  refine xt_i (y := nI 0) (by decide +kernel) ?_
  refine lv_isub hx hb dX8_offOf_75 ?_
  refine xt_i (y := nI 0) (by decide +kernel) ?_
  refine lv_istore (lv' := [(4, .int (nI 0)), (5, .int (nI 0)), (3, .int (nI 1)), (2, .int (nI 0)), (0, .ref (h 105)), (1, .int (nI 1))]) hx hb dX8_offOf_76 hl (by decide) rfl (fun ls hl => ?_)
  refine lv_iinc (v := nI 1) (lv' := [(5, .int (nI 1)), (4, .int (nI 0)), (3, .int (nI 1)), (2, .int (nI 0)), (0, .ref (h 105)), (1, .int (nI 1))]) hx hb dX8_offOf_78 hl (k := 1) rfl (by decide +kernel) (by decide) rfl (fun ls hl => ?_)
  refine lv_goto (tgt := 29) hx hb dX8_offOf_81 (by decide) ?_
  refine lv_iload hx hb dX8_offOf_29 (lv_at hl 0 rfl) ?_
  refine lv_aload_n hx hb dX8_offOf_31 rfl (lv_at hl 4 rfl) ?_
  refine va_get (D := (dC, dI)) (ci := 8) (v := .ref (h 101)) (C := RX8) (T := TX8) (N := 6) hx hb hts hinX8 hown hK hP 0 rfl rfl 0 (by decide) (hts (.fieldLink RX8 28 "MixedWords$Words" "mix" "LMixedWords$Mix;") (by decide +kernel)) (fun _ h9 => h9) rfl dX8_offOf_32 ?_
  refine va_get (D := (dC, dI)) (ci := 3) (v := .int (fI 121)) (C := RX3) (T := TX3) (N := 6) hx hb hts hinX3 hown hK hP 1 rfl rfl 1 (by decide) (hts (.fieldLink RX8 40 "MixedWords$Mix" "width" "I") (by decide +kernel)) (fun _ h9 => h9) rfl dX8_offOf_35 ?_
  refine xt_i (y := nI 2) (by decide +kernel) ?_
  refine lv_icmp_ge (tgt := 84) hx hb dX8_offOf_38 (by decide) (fun c9 => False.elim (by revert c9; decide +kernel)) (fun _ => ?_)
  refine lv_iload hx hb dX8_offOf_41 (lv_at hl 1 rfl) ?_
  refine lv_aload_n hx hb dX8_offOf_43 rfl (lv_at hl 4 rfl) ?_
  refine va_get (D := (dC, dI)) (ci := 8) (v := .ref (h 101)) (C := RX8) (T := TX8) (N := 6) hx hb hts hinX8 hown hK hP 0 rfl rfl 0 (by decide) (hts (.fieldLink RX8 28 "MixedWords$Words" "mix" "LMixedWords$Mix;") (by decide +kernel)) (fun _ h9 => h9) rfl dX8_offOf_44 ?_
  refine va_get (D := (dC, dI)) (ci := 3) (v := .ref (h 130)) (C := RX3) (T := TX3) (N := 6) hx hb hts hinX3 hown hK hP 1 rfl rfl 4 (by decide) (hts (.fieldLink RX8 43 "MixedWords$Mix" "cells" "[[I") (by decide +kernel)) (fun _ h9 => h9) rfl dX8_offOf_47 ?_
  refine lv_iload_n hx hb dX8_offOf_50 rfl (lv_at hl 2 rfl) ?_
  refine xa_aald (b := h 132) hx hb hK hP 2 3 rfl rfl rfl (by omega) (by decide) (if_pos (by omega)) dX8_offOf_51 ?_
  refine lv_iload hx hb dX8_offOf_52 (lv_at hl 0 rfl) ?_
  refine xa_iald hx hb hK hP 4 0 rfl rfl (by omega) (by decide) dX8_offOf_54 ?_
  refine xt_i (y := nI 0) (by decide +kernel) ?_
  refine lv_iconst (v := nI 2) hx hb dX8_offOf_55 (by decide) ?_
  refine lv_aload_n hx hb dX8_offOf_56 rfl (lv_at hl 4 rfl) ?_
  refine lv_iload_n hx hb dX8_offOf_57 rfl (lv_at hl 5 rfl) ?_
  refine lv_iload hx hb dX8_offOf_58 (lv_at hl 0 rfl) ?_
  refine xj_i (wc := (wD_60 h cs fI fL fA fQ fG fJ)) (wr := ([] : va_W)) hP hD hS hA [0, 1, 2, 3, 4, 5, 6, 7, 8, 9, 10, 11] [] rfl rfl (by decide) (by decide) (va_runV (As := [.int (nI 1), .int (nI 1)]) (rest := [.int (nI 2), .int (nI 0), .int (nI 0)]) ⟨hx, hb, hml, hown, hts⟩ (a_X8_indexOf_66 l dC dI h cs H.size fI fL fA fQ fG fJ ) (cwV 2 hts gX8_offOf_X8_indexOf rfl rfl rfl (by decide +kernel) ⟨Nat.le_of_ble_eq_true rfl, Nat.le_of_ble_eq_true rfl⟩) (xpV (wc := (wD_60 h cs fI fL fA fQ fG fJ)) hP hD hK hN [0, 1, 2, 3, 4, 5, 6, 7, 8, 9, 10, 11] rfl (by decide) 0 (ci := 8) rfl rfl _) rfl rfl hl.1 rfl (lv_room (Nat.le_of_ble_eq_true rfl)) dX8_offOf_60 ⟨Nat.zero_le _, Nat.zero_le _⟩) (fun r_11 u_10 H locs hw hP hD hS => ?_)
  obtain ⟨hf_12, rfl⟩ := hw
  have hP : va_P (dC, dI) vwCl (wD_60 h cs fI fL fA fQ fG fJ) H := hP
  have hD : va_D A0 (wD_60 h cs fI fL fA fQ fG fJ) := hD
  obtain rfl := hf_12
  refine lv_imul hx hb dX8_offOf_63 ?_
  refine xt_i (y := nI 2) (by decide +kernel) ?_
  refine lv_aload_n hx hb dX8_offOf_64 rfl (lv_at hl 4 rfl) ?_
  refine va_get (D := (dC, dI)) (ci := 8) (v := .ref (h 101)) (C := RX8) (T := TX8) (N := 6) hx hb hts hinX8 hown hK hP 0 rfl rfl 0 (by decide) (hts (.fieldLink RX8 28 "MixedWords$Words" "mix" "LMixedWords$Mix;") (by decide +kernel)) (fun _ h9 => h9) rfl dX8_offOf_65 ?_
  refine va_get (D := (dC, dI)) (ci := 3) (v := .int (fI 122)) (C := RX3) (T := TX3) (N := 6) hx hb hts hinX3 hown hK hP 1 rfl rfl 2 (by decide) (hts (.fieldLink RX8 51 "MixedWords$Mix" "letterCount" "I") (by decide +kernel)) (fun _ h9 => h9) rfl dX8_offOf_68 ?_
  refine xt_i (y := nI 2) (by decide +kernel) ?_
  refine lv_isub hx hb dX8_offOf_71 ?_
  refine xt_i (y := nI 0) (by decide +kernel) ?_
  refine lv_iconst (v := nI 1) hx hb dX8_offOf_72 (by decide) ?_
  refine lv_iadd hx hb dX8_offOf_73 ?_
  refine xt_i (y := nI 1) (by decide +kernel) ?_
  refine lv_imul hx hb dX8_offOf_74 ?_
  refine xt_i (y := nI 0) (by decide +kernel) ?_
  refine lv_isub hx hb dX8_offOf_75 ?_
  refine xt_i (y := nI 0) (by decide +kernel) ?_
  refine lv_istore (lv' := [(4, .int (nI 0)), (5, .int (nI 1)), (3, .int (nI 1)), (2, .int (nI 0)), (0, .ref (h 105)), (1, .int (nI 1))]) hx hb dX8_offOf_76 hl (by decide) rfl (fun ls hl => ?_)
  refine lv_iinc (v := nI 2) (lv' := [(5, .int (nI 2)), (4, .int (nI 0)), (3, .int (nI 1)), (2, .int (nI 0)), (0, .ref (h 105)), (1, .int (nI 1))]) hx hb dX8_offOf_78 hl (k := 1) rfl (by decide +kernel) (by decide) rfl (fun ls hl => ?_)
  refine lv_goto (tgt := 29) hx hb dX8_offOf_81 (by decide) ?_
  refine lv_iload hx hb dX8_offOf_29 (lv_at hl 0 rfl) ?_
  refine lv_aload_n hx hb dX8_offOf_31 rfl (lv_at hl 4 rfl) ?_
  refine va_get (D := (dC, dI)) (ci := 8) (v := .ref (h 101)) (C := RX8) (T := TX8) (N := 6) hx hb hts hinX8 hown hK hP 0 rfl rfl 0 (by decide) (hts (.fieldLink RX8 28 "MixedWords$Words" "mix" "LMixedWords$Mix;") (by decide +kernel)) (fun _ h9 => h9) rfl dX8_offOf_32 ?_
  refine va_get (D := (dC, dI)) (ci := 3) (v := .int (fI 121)) (C := RX3) (T := TX3) (N := 6) hx hb hts hinX3 hown hK hP 1 rfl rfl 1 (by decide) (hts (.fieldLink RX8 40 "MixedWords$Mix" "width" "I") (by decide +kernel)) (fun _ h9 => h9) rfl dX8_offOf_35 ?_
  refine xt_i (y := nI 2) (by decide +kernel) ?_
  refine lv_icmp_ge (tgt := 84) hx hb dX8_offOf_38 (by decide) (fun _ => ?_) (fun c9 => False.elim (by revert c9; decide +kernel))
  refine lv_iload_n hx hb dX8_offOf_84 rfl (lv_at hl 3 rfl) ?_
  refine lv_iload hx hb dX8_offOf_85 (lv_at hl 1 rfl) ?_
  refine lv_iload hx hb dX8_offOf_87 (lv_at hl 1 rfl) ?_
  refine lv_imul hx hb dX8_offOf_89 ?_
  refine xt_i (y := nI 0) (by decide +kernel) ?_
  refine lv_iadd hx hb dX8_offOf_90 ?_
  refine xt_i (y := nI 0) (by decide +kernel) ?_
  refine lv_istore_n (lv' := [(2, .int (nI 0)), (5, .int (nI 2)), (4, .int (nI 0)), (3, .int (nI 1)), (0, .ref (h 105)), (1, .int (nI 1))]) hx hb dX8_offOf_91 rfl hl (by decide) rfl (fun ls hl => ?_)
  refine lv_iinc (v := nI 2) (lv' := [(3, .int (nI 2)), (2, .int (nI 0)), (5, .int (nI 2)), (4, .int (nI 0)), (0, .ref (h 105)), (1, .int (nI 1))]) hx hb dX8_offOf_92 hl (k := 3) rfl (by decide +kernel) (by decide) rfl (fun ls hl => ?_)
  refine lv_goto (tgt := 4) hx hb dX8_offOf_95 (by decide) ?_
  refine lv_iload_n hx hb dX8_offOf_4 rfl (lv_at hl 0 rfl) ?_
  refine lv_aload_n hx hb dX8_offOf_5 rfl (lv_at hl 4 rfl) ?_
  refine va_get (D := (dC, dI)) (ci := 8) (v := .ref (h 101)) (C := RX8) (T := TX8) (N := 6) hx hb hts hinX8 hown hK hP 0 rfl rfl 0 (by decide) (hts (.fieldLink RX8 28 "MixedWords$Words" "mix" "LMixedWords$Mix;") (by decide +kernel)) (fun _ h9 => h9) rfl dX8_offOf_6 ?_
  refine va_get (D := (dC, dI)) (ci := 3) (v := .int (fI 120)) (C := RX3) (T := TX3) (N := 6) hx hb hts hinX3 hown hK hP 1 rfl rfl 0 (by decide) (hts (.fieldLink RX8 32 "MixedWords$Mix" "height" "I") (by decide +kernel)) (fun _ h9 => h9) rfl dX8_offOf_9 ?_
  refine xt_i (y := nI 2) (by decide +kernel) ?_
  refine lv_icmp_ge (tgt := 98) hx hb dX8_offOf_12 (by decide) (fun _ => ?_) (fun c9 => False.elim (by revert c9; decide +kernel))
  refine lv_iload_n hx hb dX8_offOf_98 rfl (lv_at hl 1 rfl) ?_
  exact xr_i (v := (nI 0)) hx hb hr hlocks hK hS dX8_offOf_99 (fI, fL, fA, fQ, fG, fJ) ⟨rfl, rfl⟩ hP hD
set_option maxHeartbeats 4000000 in
set_option maxRecDepth 100000 in
theorem a_X8_indexOf_68 (l : Launch) (dC : Nat → ClassId) (dI : Nat → Nat → Nat) (h : Nat → Nat) (cs : Nat → ClassId) (sz : Nat) (I : Nat → Int32) (L : Nat → Int64) (A : Nat → Nat → Int32) (Q : Nat → Nat → Int64) (G : Nat → Nat → Nat → Int32) (J : Nat → Nat → Nat → Int64) : Met l yX8_indexOf wsX8_indexOf ({ frames := 1, cells := 0, slots := 0, locals := 20 }) (va_Pc [.ref (h 105), .int (nI 2), .int (nI 0)] (xPre (dC, dI) (wD_60 h cs fI fL fA fQ fG fJ) (tysA cs) sz)) (va_Qi (fun (r : Int32) (u : CS) => (r = nI 1) ∧ u = (fI, fL, fA, fQ, fG, fJ)) (xB (dC, dI) (tysA cs) (va_A (wD_60 h cs fI fL fA fQ fG fJ) sz) (fun u : CS => wD_60 h cs u.1 u.2.1 u.2.2.1 u.2.2.2.1 u.2.2.2.2.1 u.2.2.2.2.2)) (va_A (wD_60 h cs fI fL fA fQ fG fJ) sz)) 0 0 (va_A (wD_60 h cs fI fL fA fQ fG fJ) sz) := by
  refine Met.ofW (cc := cX8_indexOf) (maxL := 3) (ret := (some .int)) (by decide) rfl ?_
  intro p e s m args below meth c s₁ B hml hv
  obtain ⟨rfl, hsz, hP, hK, hD0, hN⟩ := hv
  have hx := B.exec
  have hb := B.bytes
  have hr := B.returns
  have hts := atoms_spec (ws := wsX8_indexOf) B.pre
  have hown : s.vm.findClass RX8 = some m.cls := findClass_of_methodNamed B.named
  have hlocks := B.notSynchronized
  subst hsz
  have hD := hD0.self (sz := s.heap.size)
  generalize hAe : va_A (wD_60 h cs fI fL fA fQ fG fJ) s.heap.size = A0 at hD ⊢
  have hA : ∀ q : Nat, s.heap.size ≤ q → A0 q := fun q h => by rw [← hAe]; exact Or.inr h
  have hl := lv_entry ([.ref (h 105), .int (nI 2), .int (nI 0)]) (n := 3) (Nat.le_of_ble_eq_true rfl)
  rw [lg_entry_eq]
  generalize (lg_sl ([.ref (h 105), .int (nI 2), .int (nI 0)]) ++ List.replicate (3 - (lg_sl ([.ref (h 105), .int (nI 2), .int (nI 0)])).length) Slot.unset).toArray = ls at hl ⊢
  have hl : lv_has ls 3 [(0, .ref (h 105)), (1, .int (nI 2)), (2, .int (nI 0))] := hl
  generalize hH : s.heap = H at hP ⊢
  have hS : va_S A0 s.heap H [] := by rw [← hH]; exact va_S.rf
  have hinX8 : ∀ w ∈ wsX80, w ∈ wsX8_indexOf := by decide +kernel
  have hinX3 : ∀ w ∈ wsX30, w ∈ wsX8_indexOf := by decide +kernel
  refine lv_iload_n hx hb dX8_indexOf_0 rfl (lv_at hl 1 rfl) ?_
  refine lv_aload_n hx hb dX8_indexOf_1 rfl (lv_at hl 0 rfl) ?_
  refine va_get (D := (dC, dI)) (ci := 8) (v := .ref (h 101)) (C := RX8) (T := TX8) (N := 6) hx hb hts hinX8 hown hK hP 0 rfl rfl 0 (by decide) (hts (.fieldLink RX8 28 "MixedWords$Words" "mix" "LMixedWords$Mix;") (by decide +kernel)) (fun _ h9 => h9) rfl dX8_indexOf_2 ?_
  refine xj_i (wc := (wD_32 h cs fI fL fA fQ fG fJ)) (wr := [(h 105, .inr (8, [.ref (h 101), .ref (h 170), .ref (h 171), .ref (h 172), .int (fI 173), .int (fI 174)])), (h 170, .inl (cs 0, 256, .inl (fA 170))), (h 171, .inl (cs 0, 256, .inl (fA 171))), (h 172, .inl (cs 0, 256, .inl (fA 172)))]) hP hD hS hA [1, 2, 3, 4, 5, 6, 7, 8] [0, 9, 10, 11] rfl rfl (by decide) (by decide) (va_runV (As := []) (rest := [.int (nI 2)]) ⟨hx, hb, hml, hown, hts⟩ (a_X3_bitsOfLetter_59 l dC dI h cs H.size fI fL fA fQ fG fJ ) (cwV 0 hts gX8_indexOf_X3_bitsOfLetter rfl rfl rfl (by decide +kernel) ⟨Nat.le_of_ble_eq_true rfl, Nat.le_of_ble_eq_true rfl⟩) (xpV (wc := (wD_32 h cs fI fL fA fQ fG fJ)) hP hD hK hN [1, 2, 3, 4, 5, 6, 7, 8] rfl (by decide) 1 (ci := 3) rfl rfl _) rfl rfl hl.1 rfl (lv_room (Nat.le_of_ble_eq_true rfl)) dX8_indexOf_5 ⟨Nat.zero_le _, Nat.zero_le _⟩) (fun r_2 u_1 H locs hw hP hD hS => ?_)
  obtain ⟨hf_3, rfl⟩ := hw
  have hP : va_P (dC, dI) vwCl (wD_60 h cs fI fL fA fQ fG fJ) H := xP_sub hP [0, 4, 5, 6, 7, 8, 9, 10, 11, 1, 2, 3] rfl
  have hD : va_D A0 (wD_60 h cs fI fL fA fQ fG fJ) := hD.sub [0, 4, 5, 6, 7, 8, 9, 10, 11, 1, 2, 3] (by decide) rfl
  obtain rfl := hf_3
  refine lv_aload_n hx hb dX8_indexOf_8 rfl (lv_at hl 0 rfl) ?_
  refine va_get (D := (dC, dI)) (ci := 8) (v := .ref (h 101)) (C := RX8) (T := TX8) (N := 6) hx hb hts hinX8 hown hK hP 0 rfl rfl 0 (by decide) (hts (.fieldLink RX8 28 "MixedWords$Words" "mix" "LMixedWords$Mix;") (by decide +kernel)) (fun _ h9 => h9) rfl dX8_indexOf_9 ?_
  refine va_get (D := (dC, dI)) (ci := 3) (v := .int (fI 121)) (C := RX3) (T := TX3) (N := 6) hx hb hts hinX3 hown hK hP 1 rfl rfl 1 (by decide) (hts (.fieldLink RX8 40 "MixedWords$Mix" "width" "I") (by decide +kernel)) (fun _ h9 => h9) rfl dX8_indexOf_12 ?_
  refine xt_i (y := nI 2) (by decide +kernel) ?_
  refine lv_iconst (v := nI 1) hx hb dX8_indexOf_15 (by decide) ?_
  refine lv_isub hx hb dX8_indexOf_16 ?_
  refine xt_i (y := nI 1) (by decide +kernel) ?_
  refine lv_iload_n hx hb dX8_indexOf_17 rfl (lv_at hl 2 rfl) ?_
  refine lv_isub hx hb dX8_indexOf_18 ?_
  refine xt_i (y := nI 1) (by decide +kernel) ?_
  refine lv_imul hx hb dX8_indexOf_19 ?_
  refine xt_i (y := nI 1) (by decide +kernel) ?_
  refine lv_ishr hx hb dX8_indexOf_20 ?_
  refine xt_i (y := nI 1) (by decide +kernel) ?_
  refine lv_aload_n hx hb dX8_indexOf_21 rfl (lv_at hl 0 rfl) ?_
  refine va_get (D := (dC, dI)) (ci := 8) (v := .ref (h 101)) (C := RX8) (T := TX8) (N := 6) hx hb hts hinX8 hown hK hP 0 rfl rfl 0 (by decide) (hts (.fieldLink RX8 28 "MixedWords$Words" "mix" "LMixedWords$Mix;") (by decide +kernel)) (fun _ h9 => h9) rfl dX8_indexOf_22 ?_
  refine va_get (D := (dC, dI)) (ci := 3) (v := .int (fI 122)) (C := RX3) (T := TX3) (N := 6) hx hb hts hinX3 hown hK hP 1 rfl rfl 2 (by decide) (hts (.fieldLink RX8 51 "MixedWords$Mix" "letterCount" "I") (by decide +kernel)) (fun _ h9 => h9) rfl dX8_indexOf_25 ?_
  refine xt_i (y := nI 2) (by decide +kernel) ?_
  refine lv_iconst (v := nI 1) hx hb dX8_indexOf_28 (by decide) ?_
  refine lv_isub hx hb dX8_indexOf_29 ?_
  refine xt_i (y := nI 1) (by decide +kernel) ?_
  refine lv_iand hx hb dX8_indexOf_30 ?_
  refine xt_i (y := nI 1) (by decide +kernel) ?_
  exact xr_i (v := (nI 1)) hx hb hr hlocks hK hS dX8_indexOf_31 (fI, fL, fA, fQ, fG, fJ) ⟨rfl, rfl⟩ hP hD
set_option maxHeartbeats 4000000 in
set_option maxRecDepth 100000 in
theorem a_X8_indexOf_69 (l : Launch) (dC : Nat → ClassId) (dI : Nat → Nat → Nat) (h : Nat → Nat) (cs : Nat → ClassId) (sz : Nat) (I : Nat → Int32) (L : Nat → Int64) (A : Nat → Nat → Int32) (Q : Nat → Nat → Int64) (G : Nat → Nat → Nat → Int32) (J : Nat → Nat → Nat → Int64) : Met l yX8_indexOf wsX8_indexOf ({ frames := 1, cells := 0, slots := 0, locals := 20 }) (va_Pc [.ref (h 105), .int (nI 2), .int (nI 1)] (xPre (dC, dI) (wD_60 h cs fI fL fA fQ fG fJ) (tysA cs) sz)) (va_Qi (fun (r : Int32) (u : CS) => (r = nI 0) ∧ u = (fI, fL, fA, fQ, fG, fJ)) (xB (dC, dI) (tysA cs) (va_A (wD_60 h cs fI fL fA fQ fG fJ) sz) (fun u : CS => wD_60 h cs u.1 u.2.1 u.2.2.1 u.2.2.2.1 u.2.2.2.2.1 u.2.2.2.2.2)) (va_A (wD_60 h cs fI fL fA fQ fG fJ) sz)) 0 0 (va_A (wD_60 h cs fI fL fA fQ fG fJ) sz) := by
  refine Met.ofW (cc := cX8_indexOf) (maxL := 3) (ret := (some .int)) (by decide) rfl ?_
  intro p e s m args below meth c s₁ B hml hv
  obtain ⟨rfl, hsz, hP, hK, hD0, hN⟩ := hv
  have hx := B.exec
  have hb := B.bytes
  have hr := B.returns
  have hts := atoms_spec (ws := wsX8_indexOf) B.pre
  have hown : s.vm.findClass RX8 = some m.cls := findClass_of_methodNamed B.named
  have hlocks := B.notSynchronized
  subst hsz
  have hD := hD0.self (sz := s.heap.size)
  generalize hAe : va_A (wD_60 h cs fI fL fA fQ fG fJ) s.heap.size = A0 at hD ⊢
  have hA : ∀ q : Nat, s.heap.size ≤ q → A0 q := fun q h => by rw [← hAe]; exact Or.inr h
  have hl := lv_entry ([.ref (h 105), .int (nI 2), .int (nI 1)]) (n := 3) (Nat.le_of_ble_eq_true rfl)
  rw [lg_entry_eq]
  generalize (lg_sl ([.ref (h 105), .int (nI 2), .int (nI 1)]) ++ List.replicate (3 - (lg_sl ([.ref (h 105), .int (nI 2), .int (nI 1)])).length) Slot.unset).toArray = ls at hl ⊢
  have hl : lv_has ls 3 [(0, .ref (h 105)), (1, .int (nI 2)), (2, .int (nI 1))] := hl
  generalize hH : s.heap = H at hP ⊢
  have hS : va_S A0 s.heap H [] := by rw [← hH]; exact va_S.rf
  have hinX8 : ∀ w ∈ wsX80, w ∈ wsX8_indexOf := by decide +kernel
  have hinX3 : ∀ w ∈ wsX30, w ∈ wsX8_indexOf := by decide +kernel
  refine lv_iload_n hx hb dX8_indexOf_0 rfl (lv_at hl 1 rfl) ?_
  refine lv_aload_n hx hb dX8_indexOf_1 rfl (lv_at hl 0 rfl) ?_
  refine va_get (D := (dC, dI)) (ci := 8) (v := .ref (h 101)) (C := RX8) (T := TX8) (N := 6) hx hb hts hinX8 hown hK hP 0 rfl rfl 0 (by decide) (hts (.fieldLink RX8 28 "MixedWords$Words" "mix" "LMixedWords$Mix;") (by decide +kernel)) (fun _ h9 => h9) rfl dX8_indexOf_2 ?_
  refine xj_i (wc := (wD_32 h cs fI fL fA fQ fG fJ)) (wr := [(h 105, .inr (8, [.ref (h 101), .ref (h 170), .ref (h 171), .ref (h 172), .int (fI 173), .int (fI 174)])), (h 170, .inl (cs 0, 256, .inl (fA 170))), (h 171, .inl (cs 0, 256, .inl (fA 171))), (h 172, .inl (cs 0, 256, .inl (fA 172)))]) hP hD hS hA [1, 2, 3, 4, 5, 6, 7, 8] [0, 9, 10, 11] rfl rfl (by decide) (by decide) (va_runV (As := []) (rest := [.int (nI 2)]) ⟨hx, hb, hml, hown, hts⟩ (a_X3_bitsOfLetter_59 l dC dI h cs H.size fI fL fA fQ fG fJ ) (cwV 0 hts gX8_indexOf_X3_bitsOfLetter rfl rfl rfl (by decide +kernel) ⟨Nat.le_of_ble_eq_true rfl, Nat.le_of_ble_eq_true rfl⟩) (xpV (wc := (wD_32 h cs fI fL fA fQ fG fJ)) hP hD hK hN [1, 2, 3, 4, 5, 6, 7, 8] rfl (by decide) 1 (ci := 3) rfl rfl _) rfl rfl hl.1 rfl (lv_room (Nat.le_of_ble_eq_true rfl)) dX8_indexOf_5 ⟨Nat.zero_le _, Nat.zero_le _⟩) (fun r_2 u_1 H locs hw hP hD hS => ?_)
  obtain ⟨hf_3, rfl⟩ := hw
  have hP : va_P (dC, dI) vwCl (wD_60 h cs fI fL fA fQ fG fJ) H := xP_sub hP [0, 4, 5, 6, 7, 8, 9, 10, 11, 1, 2, 3] rfl
  have hD : va_D A0 (wD_60 h cs fI fL fA fQ fG fJ) := hD.sub [0, 4, 5, 6, 7, 8, 9, 10, 11, 1, 2, 3] (by decide) rfl
  obtain rfl := hf_3
  refine lv_aload_n hx hb dX8_indexOf_8 rfl (lv_at hl 0 rfl) ?_
  refine va_get (D := (dC, dI)) (ci := 8) (v := .ref (h 101)) (C := RX8) (T := TX8) (N := 6) hx hb hts hinX8 hown hK hP 0 rfl rfl 0 (by decide) (hts (.fieldLink RX8 28 "MixedWords$Words" "mix" "LMixedWords$Mix;") (by decide +kernel)) (fun _ h9 => h9) rfl dX8_indexOf_9 ?_
  refine va_get (D := (dC, dI)) (ci := 3) (v := .int (fI 121)) (C := RX3) (T := TX3) (N := 6) hx hb hts hinX3 hown hK hP 1 rfl rfl 1 (by decide) (hts (.fieldLink RX8 40 "MixedWords$Mix" "width" "I") (by decide +kernel)) (fun _ h9 => h9) rfl dX8_indexOf_12 ?_
  refine xt_i (y := nI 2) (by decide +kernel) ?_
  refine lv_iconst (v := nI 1) hx hb dX8_indexOf_15 (by decide) ?_
  refine lv_isub hx hb dX8_indexOf_16 ?_
  refine xt_i (y := nI 1) (by decide +kernel) ?_
  refine lv_iload_n hx hb dX8_indexOf_17 rfl (lv_at hl 2 rfl) ?_
  refine lv_isub hx hb dX8_indexOf_18 ?_
  refine xt_i (y := nI 0) (by decide +kernel) ?_
  refine lv_imul hx hb dX8_indexOf_19 ?_
  refine xt_i (y := nI 0) (by decide +kernel) ?_
  refine lv_ishr hx hb dX8_indexOf_20 ?_
  refine xt_i (y := nI 2) (by decide +kernel) ?_
  refine lv_aload_n hx hb dX8_indexOf_21 rfl (lv_at hl 0 rfl) ?_
  refine va_get (D := (dC, dI)) (ci := 8) (v := .ref (h 101)) (C := RX8) (T := TX8) (N := 6) hx hb hts hinX8 hown hK hP 0 rfl rfl 0 (by decide) (hts (.fieldLink RX8 28 "MixedWords$Words" "mix" "LMixedWords$Mix;") (by decide +kernel)) (fun _ h9 => h9) rfl dX8_indexOf_22 ?_
  refine va_get (D := (dC, dI)) (ci := 3) (v := .int (fI 122)) (C := RX3) (T := TX3) (N := 6) hx hb hts hinX3 hown hK hP 1 rfl rfl 2 (by decide) (hts (.fieldLink RX8 51 "MixedWords$Mix" "letterCount" "I") (by decide +kernel)) (fun _ h9 => h9) rfl dX8_indexOf_25 ?_
  refine xt_i (y := nI 2) (by decide +kernel) ?_
  refine lv_iconst (v := nI 1) hx hb dX8_indexOf_28 (by decide) ?_
  refine lv_isub hx hb dX8_indexOf_29 ?_
  refine xt_i (y := nI 1) (by decide +kernel) ?_
  refine lv_iand hx hb dX8_indexOf_30 ?_
  refine xt_i (y := nI 0) (by decide +kernel) ?_
  exact xr_i (v := (nI 0)) hx hb hr hlocks hK hS dX8_indexOf_31 (fI, fL, fA, fQ, fG, fJ) ⟨rfl, rfl⟩ hP hD
set_option maxHeartbeats 4000000 in
set_option maxRecDepth 100000 in
theorem a_X8_offOf_67 (l : Launch) (dC : Nat → ClassId) (dI : Nat → Nat → Nat) (h : Nat → Nat) (cs : Nat → ClassId) (sz : Nat) (I : Nat → Int32) (L : Nat → Int64) (A : Nat → Nat → Int32) (Q : Nat → Nat → Int64) (G : Nat → Nat → Nat → Int32) (J : Nat → Nat → Nat → Int64) : Met l yX8_offOf wsX8_offOf ({ frames := 2, cells := 0, slots := 0, locals := 42 }) (va_Pc [.ref (h 105), .int (nI 2)] (xPre (dC, dI) (wD_60 h cs fI fL fA fQ fG fJ) (tysA cs) sz)) (va_Qi (fun (r : Int32) (u : CS) => (r = nI 0) ∧ u = (fI, fL, fA, fQ, fG, fJ)) (xB (dC, dI) (tysA cs) (va_A (wD_60 h cs fI fL fA fQ fG fJ) sz) (fun u : CS => wD_60 h cs u.1 u.2.1 u.2.2.1 u.2.2.2.1 u.2.2.2.2.1 u.2.2.2.2.2)) (va_A (wD_60 h cs fI fL fA fQ fG fJ) sz)) 0 0 (va_A (wD_60 h cs fI fL fA fQ fG fJ) sz) := by
  refine Met.ofW (cc := cX8_offOf) (maxL := 6) (ret := (some .int)) (by decide) rfl ?_
  intro p e s m args below meth c s₁ B hml hv
  obtain ⟨rfl, hsz, hP, hK, hD0, hN⟩ := hv
  have hx := B.exec
  have hb := B.bytes
  have hr := B.returns
  have hts := atoms_spec (ws := wsX8_offOf) B.pre
  have hown : s.vm.findClass RX8 = some m.cls := findClass_of_methodNamed B.named
  have hlocks := B.notSynchronized
  subst hsz
  have hD := hD0.self (sz := s.heap.size)
  generalize hAe : va_A (wD_60 h cs fI fL fA fQ fG fJ) s.heap.size = A0 at hD ⊢
  have hA : ∀ q : Nat, s.heap.size ≤ q → A0 q := fun q h => by rw [← hAe]; exact Or.inr h
  have hl := lv_entry ([.ref (h 105), .int (nI 2)]) (n := 6) (Nat.le_of_ble_eq_true rfl)
  rw [lg_entry_eq]
  generalize (lg_sl ([.ref (h 105), .int (nI 2)]) ++ List.replicate (6 - (lg_sl ([.ref (h 105), .int (nI 2)])).length) Slot.unset).toArray = ls at hl ⊢
  have hl : lv_has ls 6 [(0, .ref (h 105)), (1, .int (nI 2))] := hl
  generalize hH : s.heap = H at hP ⊢
  have hS : va_S A0 s.heap H [] := by rw [← hH]; exact va_S.rf
  have hinX8 : ∀ w ∈ wsX80, w ∈ wsX8_offOf := by decide +kernel
  have hinX3 : ∀ w ∈ wsX30, w ∈ wsX8_offOf := by decide +kernel
  refine lv_iconst (v := nI 0) hx hb dX8_offOf_0 (by decide) ?_
  refine lv_istore_n (lv' := [(2, .int (nI 0)), (0, .ref (h 105)), (1, .int (nI 2))]) hx hb dX8_offOf_1 rfl hl (by decide) rfl (fun ls hl => ?_)
  refine lv_iconst (v := nI 0) hx hb dX8_offOf_2 (by decide) ?_
  refine lv_istore_n (lv' := [(3, .int (nI 0)), (2, .int (nI 0)), (0, .ref (h 105)), (1, .int (nI 2))]) hx hb dX8_offOf_3 rfl hl (by decide) rfl (fun ls hl => ?_)
  refine lv_iload_n hx hb dX8_offOf_4 rfl (lv_at hl 0 rfl) ?_
  refine lv_aload_n hx hb dX8_offOf_5 rfl (lv_at hl 2 rfl) ?_
  refine va_get (D := (dC, dI)) (ci := 8) (v := .ref (h 101)) (C := RX8) (T := TX8) (N := 6) hx hb hts hinX8 hown hK hP 0 rfl rfl 0 (by decide) (hts (.fieldLink RX8 28 "MixedWords$Words" "mix" "LMixedWords$Mix;") (by decide +kernel)) (fun _ h9 => h9) rfl dX8_offOf_6 ?_
  refine va_get (D := (dC, dI)) (ci := 3) (v := .int (fI 120)) (C := RX3) (T := TX3) (N := 6) hx hb hts hinX3 hown hK hP 1 rfl rfl 0 (by decide) (hts (.fieldLink RX8 32 "MixedWords$Mix" "height" "I") (by decide +kernel)) (fun _ h9 => h9) rfl dX8_offOf_9 ?_
  refine xt_i (y := nI 2) (by decide +kernel) ?_
  refine lv_icmp_ge (tgt := 98) hx hb dX8_offOf_12 (by decide) (fun c9 => False.elim (by revert c9; decide +kernel)) (fun _ => ?_)
  refine lv_aload_n hx hb dX8_offOf_15 rfl (lv_at hl 2 rfl) ?_
  refine va_get (D := (dC, dI)) (ci := 8) (v := .ref (h 101)) (C := RX8) (T := TX8) (N := 6) hx hb hts hinX8 hown hK hP 0 rfl rfl 0 (by decide) (hts (.fieldLink RX8 28 "MixedWords$Words" "mix" "LMixedWords$Mix;") (by decide +kernel)) (fun _ h9 => h9) rfl dX8_offOf_16 ?_
  refine va_get (D := (dC, dI)) (ci := 3) (v := .ref (h 136)) (C := RX3) (T := TX3) (N := 6) hx hb hts hinX3 hown hK hP 1 rfl rfl 5 (by decide) (hts (.fieldLink RX8 37 "MixedWords$Mix" "heard" "[I") (by decide +kernel)) (fun _ h9 => h9) rfl dX8_offOf_19 ?_
  refine lv_iload_n hx hb dX8_offOf_22 rfl (lv_at hl 0 rfl) ?_
  refine xa_iald hx hb hK hP 8 0 rfl rfl (by omega) (by decide) dX8_offOf_23 ?_
  refine xt_i (y := nI 0) (by decide +kernel) ?_
  refine lv_istore (lv' := [(4, .int (nI 0)), (3, .int (nI 0)), (2, .int (nI 0)), (0, .ref (h 105)), (1, .int (nI 2))]) hx hb dX8_offOf_24 hl (by decide) rfl (fun ls hl => ?_)
  refine lv_iconst (v := nI 0) hx hb dX8_offOf_26 (by decide) ?_
  refine lv_istore (lv' := [(5, .int (nI 0)), (4, .int (nI 0)), (3, .int (nI 0)), (2, .int (nI 0)), (0, .ref (h 105)), (1, .int (nI 2))]) hx hb dX8_offOf_27 hl (by decide) rfl (fun ls hl => ?_)
  refine lv_iload hx hb dX8_offOf_29 (lv_at hl 0 rfl) ?_
  refine lv_aload_n hx hb dX8_offOf_31 rfl (lv_at hl 4 rfl) ?_
  refine va_get (D := (dC, dI)) (ci := 8) (v := .ref (h 101)) (C := RX8) (T := TX8) (N := 6) hx hb hts hinX8 hown hK hP 0 rfl rfl 0 (by decide) (hts (.fieldLink RX8 28 "MixedWords$Words" "mix" "LMixedWords$Mix;") (by decide +kernel)) (fun _ h9 => h9) rfl dX8_offOf_32 ?_
  refine va_get (D := (dC, dI)) (ci := 3) (v := .int (fI 121)) (C := RX3) (T := TX3) (N := 6) hx hb hts hinX3 hown hK hP 1 rfl rfl 1 (by decide) (hts (.fieldLink RX8 40 "MixedWords$Mix" "width" "I") (by decide +kernel)) (fun _ h9 => h9) rfl dX8_offOf_35 ?_
  refine xt_i (y := nI 2) (by decide +kernel) ?_
  refine lv_icmp_ge (tgt := 84) hx hb dX8_offOf_38 (by decide) (fun c9 => False.elim (by revert c9; decide +kernel)) (fun _ => ?_)
  refine lv_iload hx hb dX8_offOf_41 (lv_at hl 1 rfl) ?_
  refine lv_aload_n hx hb dX8_offOf_43 rfl (lv_at hl 4 rfl) ?_
  refine va_get (D := (dC, dI)) (ci := 8) (v := .ref (h 101)) (C := RX8) (T := TX8) (N := 6) hx hb hts hinX8 hown hK hP 0 rfl rfl 0 (by decide) (hts (.fieldLink RX8 28 "MixedWords$Words" "mix" "LMixedWords$Mix;") (by decide +kernel)) (fun _ h9 => h9) rfl dX8_offOf_44 ?_
  refine va_get (D := (dC, dI)) (ci := 3) (v := .ref (h 130)) (C := RX3) (T := TX3) (N := 6) hx hb hts hinX3 hown hK hP 1 rfl rfl 4 (by decide) (hts (.fieldLink RX8 43 "MixedWords$Mix" "cells" "[[I") (by decide +kernel)) (fun _ h9 => h9) rfl dX8_offOf_47 ?_
  refine lv_iload_n hx hb dX8_offOf_50 rfl (lv_at hl 2 rfl) ?_
  refine xa_aald (b := h 131) hx hb hK hP 2 3 rfl rfl rfl (by omega) (by decide) (if_pos (by omega)) dX8_offOf_51 ?_
  refine lv_iload hx hb dX8_offOf_52 (lv_at hl 0 rfl) ?_
  refine xa_iald hx hb hK hP 3 0 rfl rfl (by omega) (by decide) dX8_offOf_54 ?_
  refine xt_i (y := nI 0) (by decide +kernel) ?_
  refine lv_iconst (v := nI 2) hx hb dX8_offOf_55 (by decide) ?_
  refine lv_aload_n hx hb dX8_offOf_56 rfl (lv_at hl 4 rfl) ?_
  refine lv_iload_n hx hb dX8_offOf_57 rfl (lv_at hl 5 rfl) ?_
  refine lv_iload hx hb dX8_offOf_58 (lv_at hl 0 rfl) ?_
  refine xj_i (wc := (wD_60 h cs fI fL fA fQ fG fJ)) (wr := ([] : va_W)) hP hD hS hA [0, 1, 2, 3, 4, 5, 6, 7, 8, 9, 10, 11] [] rfl rfl (by decide) (by decide) (va_runV (As := [.int (nI 2), .int (nI 0)]) (rest := [.int (nI 2), .int (nI 0), .int (nI 0)]) ⟨hx, hb, hml, hown, hts⟩ (a_X8_indexOf_68 l dC dI h cs H.size fI fL fA fQ fG fJ ) (cwV 2 hts gX8_offOf_X8_indexOf rfl rfl rfl (by decide +kernel) ⟨Nat.le_of_ble_eq_true rfl, Nat.le_of_ble_eq_true rfl⟩) (xpV (wc := (wD_60 h cs fI fL fA fQ fG fJ)) hP hD hK hN [0, 1, 2, 3, 4, 5, 6, 7, 8, 9, 10, 11] rfl (by decide) 0 (ci := 8) rfl rfl _) rfl rfl hl.1 rfl (lv_room (Nat.le_of_ble_eq_true rfl)) dX8_offOf_60 ⟨Nat.zero_le _, Nat.zero_le _⟩) (fun r_2 u_1 H locs hw hP hD hS => ?_)
  obtain ⟨hf_3, rfl⟩ := hw
  have hP : va_P (dC, dI) vwCl (wD_60 h cs fI fL fA fQ fG fJ) H := hP
  have hD : va_D A0 (wD_60 h cs fI fL fA fQ fG fJ) := hD
  obtain rfl := hf_3
  refine lv_imul hx hb dX8_offOf_63 ?_
  refine xt_i (y := nI 2) (by decide +kernel) ?_
  refine lv_aload_n hx hb dX8_offOf_64 rfl (lv_at hl 4 rfl) ?_
  refine va_get (D := (dC, dI)) (ci := 8) (v := .ref (h 101)) (C := RX8) (T := TX8) (N := 6) hx hb hts hinX8 hown hK hP 0 rfl rfl 0 (by decide) (hts (.fieldLink RX8 28 "MixedWords$Words" "mix" "LMixedWords$Mix;") (by decide +kernel)) (fun _ h9 => h9) rfl dX8_offOf_65 ?_
  refine va_get (D := (dC, dI)) (ci := 3) (v := .int (fI 122)) (C := RX3) (T := TX3) (N := 6) hx hb hts hinX3 hown hK hP 1 rfl rfl 2 (by decide) (hts (.fieldLink RX8 51 "MixedWords$Mix" "letterCount" "I") (by decide +kernel)) (fun _ h9 => h9) rfl dX8_offOf_68 ?_
  refine xt_i (y := nI 2) (by decide +kernel) ?_
  refine lv_isub hx hb dX8_offOf_71 ?_
  refine xt_i (y := nI 0) (by decide +kernel) ?_
  refine lv_iconst (v := nI 1) hx hb dX8_offOf_72 (by decide) ?_
  refine lv_iadd hx hb dX8_offOf_73 ?_
  refine xt_i (y := nI 1) (by decide +kernel) ?_
  refine lv_imul hx hb dX8_offOf_74 ?_
  refine xt_i (y := nI 0) (by decide +kernel) ?_
  refine lv_isub hx hb dX8_offOf_75 ?_
  refine xt_i (y := nI 0) (by decide +kernel) ?_
  refine lv_istore (lv' := [(4, .int (nI 0)), (5, .int (nI 0)), (3, .int (nI 0)), (2, .int (nI 0)), (0, .ref (h 105)), (1, .int (nI 2))]) hx hb dX8_offOf_76 hl (by decide) rfl (fun ls hl => ?_)
  refine lv_iinc (v := nI 1) (lv' := [(5, .int (nI 1)), (4, .int (nI 0)), (3, .int (nI 0)), (2, .int (nI 0)), (0, .ref (h 105)), (1, .int (nI 2))]) hx hb dX8_offOf_78 hl (k := 1) rfl (by decide +kernel) (by decide) rfl (fun ls hl => ?_)
  refine lv_goto (tgt := 29) hx hb dX8_offOf_81 (by decide) ?_
  refine lv_iload hx hb dX8_offOf_29 (lv_at hl 0 rfl) ?_
  refine lv_aload_n hx hb dX8_offOf_31 rfl (lv_at hl 4 rfl) ?_
  refine va_get (D := (dC, dI)) (ci := 8) (v := .ref (h 101)) (C := RX8) (T := TX8) (N := 6) hx hb hts hinX8 hown hK hP 0 rfl rfl 0 (by decide) (hts (.fieldLink RX8 28 "MixedWords$Words" "mix" "LMixedWords$Mix;") (by decide +kernel)) (fun _ h9 => h9) rfl dX8_offOf_32 ?_
  refine va_get (D := (dC, dI)) (ci := 3) (v := .int (fI 121)) (C := RX3) (T := TX3) (N := 6) hx hb hts hinX3 hown hK hP 1 rfl rfl 1 (by decide) (hts (.fieldLink RX8 40 "MixedWords$Mix" "width" "I") (by decide +kernel)) (fun _ h9 => h9) rfl dX8_offOf_35 ?_
  refine xt_i (y := nI 2) (by decide +kernel) ?_
  refine lv_icmp_ge (tgt := 84) hx hb dX8_offOf_38 (by decide) (fun c9 => False.elim (by revert c9; decide +kernel)) (fun _ => ?_)
  refine lv_iload hx hb dX8_offOf_41 (lv_at hl 1 rfl) ?_
  refine lv_aload_n hx hb dX8_offOf_43 rfl (lv_at hl 4 rfl) ?_
  refine va_get (D := (dC, dI)) (ci := 8) (v := .ref (h 101)) (C := RX8) (T := TX8) (N := 6) hx hb hts hinX8 hown hK hP 0 rfl rfl 0 (by decide) (hts (.fieldLink RX8 28 "MixedWords$Words" "mix" "LMixedWords$Mix;") (by decide +kernel)) (fun _ h9 => h9) rfl dX8_offOf_44 ?_
  refine va_get (D := (dC, dI)) (ci := 3) (v := .ref (h 130)) (C := RX3) (T := TX3) (N := 6) hx hb hts hinX3 hown hK hP 1 rfl rfl 4 (by decide) (hts (.fieldLink RX8 43 "MixedWords$Mix" "cells" "[[I") (by decide +kernel)) (fun _ h9 => h9) rfl dX8_offOf_47 ?_
  refine lv_iload_n hx hb dX8_offOf_50 rfl (lv_at hl 2 rfl) ?_
  refine xa_aald (b := h 131) hx hb hK hP 2 3 rfl rfl rfl (by omega) (by decide) (if_pos (by omega)) dX8_offOf_51 ?_
  refine lv_iload hx hb dX8_offOf_52 (lv_at hl 0 rfl) ?_
  refine xa_iald hx hb hK hP 3 0 rfl rfl (by omega) (by decide) dX8_offOf_54 ?_
  refine xt_i (y := nI 0) (by decide +kernel) ?_
  refine lv_iconst (v := nI 2) hx hb dX8_offOf_55 (by decide) ?_
  refine lv_aload_n hx hb dX8_offOf_56 rfl (lv_at hl 4 rfl) ?_
  refine lv_iload_n hx hb dX8_offOf_57 rfl (lv_at hl 5 rfl) ?_
  refine lv_iload hx hb dX8_offOf_58 (lv_at hl 0 rfl) ?_
  refine xj_i (wc := (wD_60 h cs fI fL fA fQ fG fJ)) (wr := ([] : va_W)) hP hD hS hA [0, 1, 2, 3, 4, 5, 6, 7, 8, 9, 10, 11] [] rfl rfl (by decide) (by decide) (va_runV (As := [.int (nI 2), .int (nI 1)]) (rest := [.int (nI 2), .int (nI 0), .int (nI 0)]) ⟨hx, hb, hml, hown, hts⟩ (a_X8_indexOf_69 l dC dI h cs H.size fI fL fA fQ fG fJ ) (cwV 2 hts gX8_offOf_X8_indexOf rfl rfl rfl (by decide +kernel) ⟨Nat.le_of_ble_eq_true rfl, Nat.le_of_ble_eq_true rfl⟩) (xpV (wc := (wD_60 h cs fI fL fA fQ fG fJ)) hP hD hK hN [0, 1, 2, 3, 4, 5, 6, 7, 8, 9, 10, 11] rfl (by decide) 0 (ci := 8) rfl rfl _) rfl rfl hl.1 rfl (lv_room (Nat.le_of_ble_eq_true rfl)) dX8_offOf_60 ⟨Nat.zero_le _, Nat.zero_le _⟩) (fun r_5 u_4 H locs hw hP hD hS => ?_)
  obtain ⟨hf_6, rfl⟩ := hw
  have hP : va_P (dC, dI) vwCl (wD_60 h cs fI fL fA fQ fG fJ) H := hP
  have hD : va_D A0 (wD_60 h cs fI fL fA fQ fG fJ) := hD
  obtain rfl := hf_6
  refine lv_imul hx hb dX8_offOf_63 ?_
  refine xt_i (y := nI 0) (by decide +kernel) ?_
  refine lv_aload_n hx hb dX8_offOf_64 rfl (lv_at hl 4 rfl) ?_
  refine va_get (D := (dC, dI)) (ci := 8) (v := .ref (h 101)) (C := RX8) (T := TX8) (N := 6) hx hb hts hinX8 hown hK hP 0 rfl rfl 0 (by decide) (hts (.fieldLink RX8 28 "MixedWords$Words" "mix" "LMixedWords$Mix;") (by decide +kernel)) (fun _ h9 => h9) rfl dX8_offOf_65 ?_
  refine va_get (D := (dC, dI)) (ci := 3) (v := .int (fI 122)) (C := RX3) (T := TX3) (N := 6) hx hb hts hinX3 hown hK hP 1 rfl rfl 2 (by decide) (hts (.fieldLink RX8 51 "MixedWords$Mix" "letterCount" "I") (by decide +kernel)) (fun _ h9 => h9) rfl dX8_offOf_68 ?_
  refine xt_i (y := nI 2) (by decide +kernel) ?_
  refine lv_isub hx hb dX8_offOf_71 ?_
  refine xt_i (y := (-2 : Int32)) (by decide +kernel) ?_
  refine lv_iconst (v := nI 1) hx hb dX8_offOf_72 (by decide) ?_
  refine lv_iadd hx hb dX8_offOf_73 ?_
  refine xt_i (y := (-1 : Int32)) (by decide +kernel) ?_
  refine lv_imul hx hb dX8_offOf_74 ?_
  refine xt_i (y := nI 0) (by decide +kernel) ?_
  refine lv_isub hx hb dX8_offOf_75 ?_
  refine xt_i (y := nI 0) (by decide +kernel) ?_
  refine lv_istore (lv' := [(4, .int (nI 0)), (5, .int (nI 1)), (3, .int (nI 0)), (2, .int (nI 0)), (0, .ref (h 105)), (1, .int (nI 2))]) hx hb dX8_offOf_76 hl (by decide) rfl (fun ls hl => ?_)
  refine lv_iinc (v := nI 2) (lv' := [(5, .int (nI 2)), (4, .int (nI 0)), (3, .int (nI 0)), (2, .int (nI 0)), (0, .ref (h 105)), (1, .int (nI 2))]) hx hb dX8_offOf_78 hl (k := 1) rfl (by decide +kernel) (by decide) rfl (fun ls hl => ?_)
  refine lv_goto (tgt := 29) hx hb dX8_offOf_81 (by decide) ?_
  refine lv_iload hx hb dX8_offOf_29 (lv_at hl 0 rfl) ?_
  refine lv_aload_n hx hb dX8_offOf_31 rfl (lv_at hl 4 rfl) ?_
  refine va_get (D := (dC, dI)) (ci := 8) (v := .ref (h 101)) (C := RX8) (T := TX8) (N := 6) hx hb hts hinX8 hown hK hP 0 rfl rfl 0 (by decide) (hts (.fieldLink RX8 28 "MixedWords$Words" "mix" "LMixedWords$Mix;") (by decide +kernel)) (fun _ h9 => h9) rfl dX8_offOf_32 ?_
  refine va_get (D := (dC, dI)) (ci := 3) (v := .int (fI 121)) (C := RX3) (T := TX3) (N := 6) hx hb hts hinX3 hown hK hP 1 rfl rfl 1 (by decide) (hts (.fieldLink RX8 40 "MixedWords$Mix" "width" "I") (by decide +kernel)) (fun _ h9 => h9) rfl dX8_offOf_35 ?_
  refine xt_i (y := nI 2) (by decide +kernel) ?_
  refine lv_icmp_ge (tgt := 84) hx hb dX8_offOf_38 (by decide) (fun _ => ?_) (fun c9 => False.elim (by revert c9; decide +kernel))
  refine lv_iload_n hx hb dX8_offOf_84 rfl (lv_at hl 3 rfl) ?_
  refine lv_iload hx hb dX8_offOf_85 (lv_at hl 1 rfl) ?_
  refine lv_iload hx hb dX8_offOf_87 (lv_at hl 1 rfl) ?_
  refine lv_imul hx hb dX8_offOf_89 ?_
  refine xt_i (y := nI 0) (by decide +kernel) ?_
  refine lv_iadd hx hb dX8_offOf_90 ?_
  refine xt_i (y := nI 0) (by decide +kernel) ?_
  refine lv_istore_n (lv' := [(2, .int (nI 0)), (5, .int (nI 2)), (4, .int (nI 0)), (3, .int (nI 0)), (0, .ref (h 105)), (1, .int (nI 2))]) hx hb dX8_offOf_91 rfl hl (by decide) rfl (fun ls hl => ?_)
  refine lv_iinc (v := nI 1) (lv' := [(3, .int (nI 1)), (2, .int (nI 0)), (5, .int (nI 2)), (4, .int (nI 0)), (0, .ref (h 105)), (1, .int (nI 2))]) hx hb dX8_offOf_92 hl (k := 3) rfl (by decide +kernel) (by decide) rfl (fun ls hl => ?_)
  refine lv_goto (tgt := 4) hx hb dX8_offOf_95 (by decide) ?_
  refine lv_iload_n hx hb dX8_offOf_4 rfl (lv_at hl 0 rfl) ?_
  refine lv_aload_n hx hb dX8_offOf_5 rfl (lv_at hl 4 rfl) ?_
  refine va_get (D := (dC, dI)) (ci := 8) (v := .ref (h 101)) (C := RX8) (T := TX8) (N := 6) hx hb hts hinX8 hown hK hP 0 rfl rfl 0 (by decide) (hts (.fieldLink RX8 28 "MixedWords$Words" "mix" "LMixedWords$Mix;") (by decide +kernel)) (fun _ h9 => h9) rfl dX8_offOf_6 ?_
  refine va_get (D := (dC, dI)) (ci := 3) (v := .int (fI 120)) (C := RX3) (T := TX3) (N := 6) hx hb hts hinX3 hown hK hP 1 rfl rfl 0 (by decide) (hts (.fieldLink RX8 32 "MixedWords$Mix" "height" "I") (by decide +kernel)) (fun _ h9 => h9) rfl dX8_offOf_9 ?_
  refine xt_i (y := nI 2) (by decide +kernel) ?_
  refine lv_icmp_ge (tgt := 98) hx hb dX8_offOf_12 (by decide) (fun c9 => False.elim (by revert c9; decide +kernel)) (fun _ => ?_)
  refine lv_aload_n hx hb dX8_offOf_15 rfl (lv_at hl 4 rfl) ?_
  refine va_get (D := (dC, dI)) (ci := 8) (v := .ref (h 101)) (C := RX8) (T := TX8) (N := 6) hx hb hts hinX8 hown hK hP 0 rfl rfl 0 (by decide) (hts (.fieldLink RX8 28 "MixedWords$Words" "mix" "LMixedWords$Mix;") (by decide +kernel)) (fun _ h9 => h9) rfl dX8_offOf_16 ?_
  refine va_get (D := (dC, dI)) (ci := 3) (v := .ref (h 136)) (C := RX3) (T := TX3) (N := 6) hx hb hts hinX3 hown hK hP 1 rfl rfl 5 (by decide) (hts (.fieldLink RX8 37 "MixedWords$Mix" "heard" "[I") (by decide +kernel)) (fun _ h9 => h9) rfl dX8_offOf_19 ?_
  refine lv_iload_n hx hb dX8_offOf_22 rfl (lv_at hl 0 rfl) ?_
  refine xa_iald hx hb hK hP 8 0 rfl rfl (by omega) (by decide) dX8_offOf_23 ?_
  refine xt_i (y := nI 0) (by decide +kernel) ?_
  refine lv_istore (lv' := [(4, .int (nI 0)), (3, .int (nI 1)), (2, .int (nI 0)), (5, .int (nI 2)), (0, .ref (h 105)), (1, .int (nI 2))]) hx hb dX8_offOf_24 hl (by decide) rfl (fun ls hl => ?_)
  refine lv_iconst (v := nI 0) hx hb dX8_offOf_26 (by decide) ?_
  refine lv_istore (lv' := [(5, .int (nI 0)), (4, .int (nI 0)), (3, .int (nI 1)), (2, .int (nI 0)), (0, .ref (h 105)), (1, .int (nI 2))]) hx hb dX8_offOf_27 hl (by decide) rfl (fun ls hl => ?_)
  refine lv_iload hx hb dX8_offOf_29 (lv_at hl 0 rfl) ?_
  refine lv_aload_n hx hb dX8_offOf_31 rfl (lv_at hl 4 rfl) ?_
  refine va_get (D := (dC, dI)) (ci := 8) (v := .ref (h 101)) (C := RX8) (T := TX8) (N := 6) hx hb hts hinX8 hown hK hP 0 rfl rfl 0 (by decide) (hts (.fieldLink RX8 28 "MixedWords$Words" "mix" "LMixedWords$Mix;") (by decide +kernel)) (fun _ h9 => h9) rfl dX8_offOf_32 ?_
  refine va_get (D := (dC, dI)) (ci := 3) (v := .int (fI 121)) (C := RX3) (T := TX3) (N := 6) hx hb hts hinX3 hown hK hP 1 rfl rfl 1 (by decide) (hts (.fieldLink RX8 40 "MixedWords$Mix" "width" "I") (by decide +kernel)) (fun _ h9 => h9) rfl dX8_offOf_35 ?_
  refine xt_i (y := nI 2) (by decide +kernel) ?_
  refine lv_icmp_ge (tgt := 84) hx hb dX8_offOf_38 (by decide) (fun c9 => False.elim (by revert c9; decide +kernel)) (fun _ => ?_)
  refine lv_iload hx hb dX8_offOf_41 (lv_at hl 1 rfl) ?_
  refine lv_aload_n hx hb dX8_offOf_43 rfl (lv_at hl 4 rfl) ?_
  refine va_get (D := (dC, dI)) (ci := 8) (v := .ref (h 101)) (C := RX8) (T := TX8) (N := 6) hx hb hts hinX8 hown hK hP 0 rfl rfl 0 (by decide) (hts (.fieldLink RX8 28 "MixedWords$Words" "mix" "LMixedWords$Mix;") (by decide +kernel)) (fun _ h9 => h9) rfl dX8_offOf_44 ?_
  refine va_get (D := (dC, dI)) (ci := 3) (v := .ref (h 130)) (C := RX3) (T := TX3) (N := 6) hx hb hts hinX3 hown hK hP 1 rfl rfl 4 (by decide) (hts (.fieldLink RX8 43 "MixedWords$Mix" "cells" "[[I") (by decide +kernel)) (fun _ h9 => h9) rfl dX8_offOf_47 ?_
  refine lv_iload_n hx hb dX8_offOf_50 rfl (lv_at hl 2 rfl) ?_
  refine xa_aald (b := h 132) hx hb hK hP 2 3 rfl rfl rfl (by omega) (by decide) (if_pos (by omega)) dX8_offOf_51 ?_
  refine lv_iload hx hb dX8_offOf_52 (lv_at hl 0 rfl) ?_
  refine xa_iald hx hb hK hP 4 0 rfl rfl (by omega) (by decide) dX8_offOf_54 ?_
  refine xt_i (y := nI 0) (by decide +kernel) ?_
  refine lv_iconst (v := nI 2) hx hb dX8_offOf_55 (by decide) ?_
  refine lv_aload_n hx hb dX8_offOf_56 rfl (lv_at hl 4 rfl) ?_
  refine lv_iload_n hx hb dX8_offOf_57 rfl (lv_at hl 5 rfl) ?_
  refine lv_iload hx hb dX8_offOf_58 (lv_at hl 0 rfl) ?_
  refine xj_i (wc := (wD_60 h cs fI fL fA fQ fG fJ)) (wr := ([] : va_W)) hP hD hS hA [0, 1, 2, 3, 4, 5, 6, 7, 8, 9, 10, 11] [] rfl rfl (by decide) (by decide) (va_runV (As := [.int (nI 2), .int (nI 0)]) (rest := [.int (nI 2), .int (nI 0), .int (nI 0)]) ⟨hx, hb, hml, hown, hts⟩ (a_X8_indexOf_68 l dC dI h cs H.size fI fL fA fQ fG fJ ) (cwV 2 hts gX8_offOf_X8_indexOf rfl rfl rfl (by decide +kernel) ⟨Nat.le_of_ble_eq_true rfl, Nat.le_of_ble_eq_true rfl⟩) (xpV (wc := (wD_60 h cs fI fL fA fQ fG fJ)) hP hD hK hN [0, 1, 2, 3, 4, 5, 6, 7, 8, 9, 10, 11] rfl (by decide) 0 (ci := 8) rfl rfl _) rfl rfl hl.1 rfl (lv_room (Nat.le_of_ble_eq_true rfl)) dX8_offOf_60 ⟨Nat.zero_le _, Nat.zero_le _⟩) (fun r_8 u_7 H locs hw hP hD hS => ?_)
  obtain ⟨hf_9, rfl⟩ := hw
  have hP : va_P (dC, dI) vwCl (wD_60 h cs fI fL fA fQ fG fJ) H := hP
  have hD : va_D A0 (wD_60 h cs fI fL fA fQ fG fJ) := hD
  obtain rfl := hf_9
  refine lv_imul hx hb dX8_offOf_63 ?_
  refine xt_i (y := nI 2) (by decide +kernel) ?_
  refine lv_aload_n hx hb dX8_offOf_64 rfl (lv_at hl 4 rfl) ?_
  refine va_get (D := (dC, dI)) (ci := 8) (v := .ref (h 101)) (C := RX8) (T := TX8) (N := 6) hx hb hts hinX8 hown hK hP 0 rfl rfl 0 (by decide) (hts (.fieldLink RX8 28 "MixedWords$Words" "mix" "LMixedWords$Mix;") (by decide +kernel)) (fun _ h9 => h9) rfl dX8_offOf_65 ?_
  refine va_get (D := (dC, dI)) (ci := 3) (v := .int (fI 122)) (C := RX3) (T := TX3) (N := 6) hx hb hts hinX3 hown hK hP 1 rfl rfl 2 (by decide) (hts (.fieldLink RX8 51 "MixedWords$Mix" "letterCount" "I") (by decide +kernel)) (fun _ h9 => h9) rfl dX8_offOf_68 ?_
  refine xt_i (y := nI 2) (by decide +kernel) ?_
  refine lv_isub hx hb dX8_offOf_71 ?_
  refine xt_i (y := nI 0) (by decide +kernel) ?_
  refine lv_iconst (v := nI 1) hx hb dX8_offOf_72 (by decide) ?_
  refine lv_iadd hx hb dX8_offOf_73 ?_
  refine xt_i (y := nI 1) (by decide +kernel) ?_
  refine lv_imul hx hb dX8_offOf_74 ?_
  refine xt_i (y := nI 0) (by decide +kernel) ?_
  refine lv_isub hx hb dX8_offOf_75 ?_
  refine xt_i (y := nI 0) (by decide +kernel) ?_
  refine lv_istore (lv' := [(4, .int (nI 0)), (5, .int (nI 0)), (3, .int (nI 1)), (2, .int (nI 0)), (0, .ref (h 105)), (1, .int (nI 2))]) hx hb dX8_offOf_76 hl (by decide) rfl (fun ls hl => ?_)
  refine lv_iinc (v := nI 1) (lv' := [(5, .int (nI 1)), (4, .int (nI 0)), (3, .int (nI 1)), (2, .int (nI 0)), (0, .ref (h 105)), (1, .int (nI 2))]) hx hb dX8_offOf_78 hl (k := 1) rfl (by decide +kernel) (by decide) rfl (fun ls hl => ?_)
  refine lv_goto (tgt := 29) hx hb dX8_offOf_81 (by decide) ?_
  refine lv_iload hx hb dX8_offOf_29 (lv_at hl 0 rfl) ?_
  refine lv_aload_n hx hb dX8_offOf_31 rfl (lv_at hl 4 rfl) ?_
  refine va_get (D := (dC, dI)) (ci := 8) (v := .ref (h 101)) (C := RX8) (T := TX8) (N := 6) hx hb hts hinX8 hown hK hP 0 rfl rfl 0 (by decide) (hts (.fieldLink RX8 28 "MixedWords$Words" "mix" "LMixedWords$Mix;") (by decide +kernel)) (fun _ h9 => h9) rfl dX8_offOf_32 ?_
  refine va_get (D := (dC, dI)) (ci := 3) (v := .int (fI 121)) (C := RX3) (T := TX3) (N := 6) hx hb hts hinX3 hown hK hP 1 rfl rfl 1 (by decide) (hts (.fieldLink RX8 40 "MixedWords$Mix" "width" "I") (by decide +kernel)) (fun _ h9 => h9) rfl dX8_offOf_35 ?_
  refine xt_i (y := nI 2) (by decide +kernel) ?_
  refine lv_icmp_ge (tgt := 84) hx hb dX8_offOf_38 (by decide) (fun c9 => False.elim (by revert c9; decide +kernel)) (fun _ => ?_)
  refine lv_iload hx hb dX8_offOf_41 (lv_at hl 1 rfl) ?_
  refine lv_aload_n hx hb dX8_offOf_43 rfl (lv_at hl 4 rfl) ?_
  refine va_get (D := (dC, dI)) (ci := 8) (v := .ref (h 101)) (C := RX8) (T := TX8) (N := 6) hx hb hts hinX8 hown hK hP 0 rfl rfl 0 (by decide) (hts (.fieldLink RX8 28 "MixedWords$Words" "mix" "LMixedWords$Mix;") (by decide +kernel)) (fun _ h9 => h9) rfl dX8_offOf_44 ?_
  refine va_get (D := (dC, dI)) (ci := 3) (v := .ref (h 130)) (C := RX3) (T := TX3) (N := 6) hx hb hts hinX3 hown hK hP 1 rfl rfl 4 (by decide) (hts (.fieldLink RX8 43 "MixedWords$Mix" "cells" "[[I") (by decide +kernel)) (fun _ h9 => h9) rfl dX8_offOf_47 ?_
  refine lv_iload_n hx hb dX8_offOf_50 rfl (lv_at hl 2 rfl) ?_
  refine xa_aald (b := h 132) hx hb hK hP 2 3 rfl rfl rfl (by omega) (by decide) (if_pos (by omega)) dX8_offOf_51 ?_
  refine lv_iload hx hb dX8_offOf_52 (lv_at hl 0 rfl) ?_
  refine xa_iald hx hb hK hP 4 0 rfl rfl (by omega) (by decide) dX8_offOf_54 ?_
  refine xt_i (y := nI 0) (by decide +kernel) ?_
  refine lv_iconst (v := nI 2) hx hb dX8_offOf_55 (by decide) ?_
  refine lv_aload_n hx hb dX8_offOf_56 rfl (lv_at hl 4 rfl) ?_
  refine lv_iload_n hx hb dX8_offOf_57 rfl (lv_at hl 5 rfl) ?_
  refine lv_iload hx hb dX8_offOf_58 (lv_at hl 0 rfl) ?_
  refine xj_i (wc := (wD_60 h cs fI fL fA fQ fG fJ)) (wr := ([] : va_W)) hP hD hS hA [0, 1, 2, 3, 4, 5, 6, 7, 8, 9, 10, 11] [] rfl rfl (by decide) (by decide) (va_runV (As := [.int (nI 2), .int (nI 1)]) (rest := [.int (nI 2), .int (nI 0), .int (nI 0)]) ⟨hx, hb, hml, hown, hts⟩ (a_X8_indexOf_69 l dC dI h cs H.size fI fL fA fQ fG fJ ) (cwV 2 hts gX8_offOf_X8_indexOf rfl rfl rfl (by decide +kernel) ⟨Nat.le_of_ble_eq_true rfl, Nat.le_of_ble_eq_true rfl⟩) (xpV (wc := (wD_60 h cs fI fL fA fQ fG fJ)) hP hD hK hN [0, 1, 2, 3, 4, 5, 6, 7, 8, 9, 10, 11] rfl (by decide) 0 (ci := 8) rfl rfl _) rfl rfl hl.1 rfl (lv_room (Nat.le_of_ble_eq_true rfl)) dX8_offOf_60 ⟨Nat.zero_le _, Nat.zero_le _⟩) (fun r_11 u_10 H locs hw hP hD hS => ?_)
  obtain ⟨hf_12, rfl⟩ := hw
  have hP : va_P (dC, dI) vwCl (wD_60 h cs fI fL fA fQ fG fJ) H := hP
  have hD : va_D A0 (wD_60 h cs fI fL fA fQ fG fJ) := hD
  obtain rfl := hf_12
  refine lv_imul hx hb dX8_offOf_63 ?_
  refine xt_i (y := nI 0) (by decide +kernel) ?_
  refine lv_aload_n hx hb dX8_offOf_64 rfl (lv_at hl 4 rfl) ?_
  refine va_get (D := (dC, dI)) (ci := 8) (v := .ref (h 101)) (C := RX8) (T := TX8) (N := 6) hx hb hts hinX8 hown hK hP 0 rfl rfl 0 (by decide) (hts (.fieldLink RX8 28 "MixedWords$Words" "mix" "LMixedWords$Mix;") (by decide +kernel)) (fun _ h9 => h9) rfl dX8_offOf_65 ?_
  refine va_get (D := (dC, dI)) (ci := 3) (v := .int (fI 122)) (C := RX3) (T := TX3) (N := 6) hx hb hts hinX3 hown hK hP 1 rfl rfl 2 (by decide) (hts (.fieldLink RX8 51 "MixedWords$Mix" "letterCount" "I") (by decide +kernel)) (fun _ h9 => h9) rfl dX8_offOf_68 ?_
  refine xt_i (y := nI 2) (by decide +kernel) ?_
  refine lv_isub hx hb dX8_offOf_71 ?_
  refine xt_i (y := (-2 : Int32)) (by decide +kernel) ?_
  refine lv_iconst (v := nI 1) hx hb dX8_offOf_72 (by decide) ?_
  refine lv_iadd hx hb dX8_offOf_73 ?_
  refine xt_i (y := (-1 : Int32)) (by decide +kernel) ?_
  refine lv_imul hx hb dX8_offOf_74 ?_
  refine xt_i (y := nI 0) (by decide +kernel) ?_
  refine lv_isub hx hb dX8_offOf_75 ?_
  refine xt_i (y := nI 0) (by decide +kernel) ?_
  refine lv_istore (lv' := [(4, .int (nI 0)), (5, .int (nI 1)), (3, .int (nI 1)), (2, .int (nI 0)), (0, .ref (h 105)), (1, .int (nI 2))]) hx hb dX8_offOf_76 hl (by decide) rfl (fun ls hl => ?_)
  refine lv_iinc (v := nI 2) (lv' := [(5, .int (nI 2)), (4, .int (nI 0)), (3, .int (nI 1)), (2, .int (nI 0)), (0, .ref (h 105)), (1, .int (nI 2))]) hx hb dX8_offOf_78 hl (k := 1) rfl (by decide +kernel) (by decide) rfl (fun ls hl => ?_)
  refine lv_goto (tgt := 29) hx hb dX8_offOf_81 (by decide) ?_
  refine lv_iload hx hb dX8_offOf_29 (lv_at hl 0 rfl) ?_
  refine lv_aload_n hx hb dX8_offOf_31 rfl (lv_at hl 4 rfl) ?_
  refine va_get (D := (dC, dI)) (ci := 8) (v := .ref (h 101)) (C := RX8) (T := TX8) (N := 6) hx hb hts hinX8 hown hK hP 0 rfl rfl 0 (by decide) (hts (.fieldLink RX8 28 "MixedWords$Words" "mix" "LMixedWords$Mix;") (by decide +kernel)) (fun _ h9 => h9) rfl dX8_offOf_32 ?_
  refine va_get (D := (dC, dI)) (ci := 3) (v := .int (fI 121)) (C := RX3) (T := TX3) (N := 6) hx hb hts hinX3 hown hK hP 1 rfl rfl 1 (by decide) (hts (.fieldLink RX8 40 "MixedWords$Mix" "width" "I") (by decide +kernel)) (fun _ h9 => h9) rfl dX8_offOf_35 ?_
  refine xt_i (y := nI 2) (by decide +kernel) ?_
  refine lv_icmp_ge (tgt := 84) hx hb dX8_offOf_38 (by decide) (fun _ => ?_) (fun c9 => False.elim (by revert c9; decide +kernel))
  refine lv_iload_n hx hb dX8_offOf_84 rfl (lv_at hl 3 rfl) ?_
  refine lv_iload hx hb dX8_offOf_85 (lv_at hl 1 rfl) ?_
  refine lv_iload hx hb dX8_offOf_87 (lv_at hl 1 rfl) ?_
  refine lv_imul hx hb dX8_offOf_89 ?_
  refine xt_i (y := nI 0) (by decide +kernel) ?_
  refine lv_iadd hx hb dX8_offOf_90 ?_
  refine xt_i (y := nI 0) (by decide +kernel) ?_
  refine lv_istore_n (lv' := [(2, .int (nI 0)), (5, .int (nI 2)), (4, .int (nI 0)), (3, .int (nI 1)), (0, .ref (h 105)), (1, .int (nI 2))]) hx hb dX8_offOf_91 rfl hl (by decide) rfl (fun ls hl => ?_)
  refine lv_iinc (v := nI 2) (lv' := [(3, .int (nI 2)), (2, .int (nI 0)), (5, .int (nI 2)), (4, .int (nI 0)), (0, .ref (h 105)), (1, .int (nI 2))]) hx hb dX8_offOf_92 hl (k := 3) rfl (by decide +kernel) (by decide) rfl (fun ls hl => ?_)
  refine lv_goto (tgt := 4) hx hb dX8_offOf_95 (by decide) ?_
  refine lv_iload_n hx hb dX8_offOf_4 rfl (lv_at hl 0 rfl) ?_
  refine lv_aload_n hx hb dX8_offOf_5 rfl (lv_at hl 4 rfl) ?_
  refine va_get (D := (dC, dI)) (ci := 8) (v := .ref (h 101)) (C := RX8) (T := TX8) (N := 6) hx hb hts hinX8 hown hK hP 0 rfl rfl 0 (by decide) (hts (.fieldLink RX8 28 "MixedWords$Words" "mix" "LMixedWords$Mix;") (by decide +kernel)) (fun _ h9 => h9) rfl dX8_offOf_6 ?_
  refine va_get (D := (dC, dI)) (ci := 3) (v := .int (fI 120)) (C := RX3) (T := TX3) (N := 6) hx hb hts hinX3 hown hK hP 1 rfl rfl 0 (by decide) (hts (.fieldLink RX8 32 "MixedWords$Mix" "height" "I") (by decide +kernel)) (fun _ h9 => h9) rfl dX8_offOf_9 ?_
  refine xt_i (y := nI 2) (by decide +kernel) ?_
  refine lv_icmp_ge (tgt := 98) hx hb dX8_offOf_12 (by decide) (fun _ => ?_) (fun c9 => False.elim (by revert c9; decide +kernel))
  refine lv_iload_n hx hb dX8_offOf_98 rfl (lv_at hl 1 rfl) ?_
  exact xr_i (v := (nI 0)) hx hb hr hlocks hK hS dX8_offOf_99 (fI, fL, fA, fQ, fG, fJ) ⟨rfl, rfl⟩ hP hD
set_option maxHeartbeats 4000000 in
set_option maxRecDepth 100000 in
theorem a_X8_indexOf_71 (l : Launch) (dC : Nat → ClassId) (dI : Nat → Nat → Nat) (h : Nat → Nat) (cs : Nat → ClassId) (sz : Nat) (I : Nat → Int32) (L : Nat → Int64) (A : Nat → Nat → Int32) (Q : Nat → Nat → Int64) (G : Nat → Nat → Nat → Int32) (J : Nat → Nat → Nat → Int64) : Met l yX8_indexOf wsX8_indexOf ({ frames := 1, cells := 0, slots := 0, locals := 20 }) (va_Pc [.ref (h 105), .int (nI 3), .int (nI 0)] (xPre (dC, dI) (wD_60 h cs fI fL fA fQ fG fJ) (tysA cs) sz)) (va_Qi (fun (r : Int32) (u : CS) => (r = nI 1) ∧ u = (fI, fL, fA, fQ, fG, fJ)) (xB (dC, dI) (tysA cs) (va_A (wD_60 h cs fI fL fA fQ fG fJ) sz) (fun u : CS => wD_60 h cs u.1 u.2.1 u.2.2.1 u.2.2.2.1 u.2.2.2.2.1 u.2.2.2.2.2)) (va_A (wD_60 h cs fI fL fA fQ fG fJ) sz)) 0 0 (va_A (wD_60 h cs fI fL fA fQ fG fJ) sz) := by
  refine Met.ofW (cc := cX8_indexOf) (maxL := 3) (ret := (some .int)) (by decide) rfl ?_
  intro p e s m args below meth c s₁ B hml hv
  obtain ⟨rfl, hsz, hP, hK, hD0, hN⟩ := hv
  have hx := B.exec
  have hb := B.bytes
  have hr := B.returns
  have hts := atoms_spec (ws := wsX8_indexOf) B.pre
  have hown : s.vm.findClass RX8 = some m.cls := findClass_of_methodNamed B.named
  have hlocks := B.notSynchronized
  subst hsz
  have hD := hD0.self (sz := s.heap.size)
  generalize hAe : va_A (wD_60 h cs fI fL fA fQ fG fJ) s.heap.size = A0 at hD ⊢
  have hA : ∀ q : Nat, s.heap.size ≤ q → A0 q := fun q h => by rw [← hAe]; exact Or.inr h
  have hl := lv_entry ([.ref (h 105), .int (nI 3), .int (nI 0)]) (n := 3) (Nat.le_of_ble_eq_true rfl)
  rw [lg_entry_eq]
  generalize (lg_sl ([.ref (h 105), .int (nI 3), .int (nI 0)]) ++ List.replicate (3 - (lg_sl ([.ref (h 105), .int (nI 3), .int (nI 0)])).length) Slot.unset).toArray = ls at hl ⊢
  have hl : lv_has ls 3 [(0, .ref (h 105)), (1, .int (nI 3)), (2, .int (nI 0))] := hl
  generalize hH : s.heap = H at hP ⊢
  have hS : va_S A0 s.heap H [] := by rw [← hH]; exact va_S.rf
  have hinX8 : ∀ w ∈ wsX80, w ∈ wsX8_indexOf := by decide +kernel
  have hinX3 : ∀ w ∈ wsX30, w ∈ wsX8_indexOf := by decide +kernel
  refine lv_iload_n hx hb dX8_indexOf_0 rfl (lv_at hl 1 rfl) ?_
  refine lv_aload_n hx hb dX8_indexOf_1 rfl (lv_at hl 0 rfl) ?_
  refine va_get (D := (dC, dI)) (ci := 8) (v := .ref (h 101)) (C := RX8) (T := TX8) (N := 6) hx hb hts hinX8 hown hK hP 0 rfl rfl 0 (by decide) (hts (.fieldLink RX8 28 "MixedWords$Words" "mix" "LMixedWords$Mix;") (by decide +kernel)) (fun _ h9 => h9) rfl dX8_indexOf_2 ?_
  refine xj_i (wc := (wD_32 h cs fI fL fA fQ fG fJ)) (wr := [(h 105, .inr (8, [.ref (h 101), .ref (h 170), .ref (h 171), .ref (h 172), .int (fI 173), .int (fI 174)])), (h 170, .inl (cs 0, 256, .inl (fA 170))), (h 171, .inl (cs 0, 256, .inl (fA 171))), (h 172, .inl (cs 0, 256, .inl (fA 172)))]) hP hD hS hA [1, 2, 3, 4, 5, 6, 7, 8] [0, 9, 10, 11] rfl rfl (by decide) (by decide) (va_runV (As := []) (rest := [.int (nI 3)]) ⟨hx, hb, hml, hown, hts⟩ (a_X3_bitsOfLetter_59 l dC dI h cs H.size fI fL fA fQ fG fJ ) (cwV 0 hts gX8_indexOf_X3_bitsOfLetter rfl rfl rfl (by decide +kernel) ⟨Nat.le_of_ble_eq_true rfl, Nat.le_of_ble_eq_true rfl⟩) (xpV (wc := (wD_32 h cs fI fL fA fQ fG fJ)) hP hD hK hN [1, 2, 3, 4, 5, 6, 7, 8] rfl (by decide) 1 (ci := 3) rfl rfl _) rfl rfl hl.1 rfl (lv_room (Nat.le_of_ble_eq_true rfl)) dX8_indexOf_5 ⟨Nat.zero_le _, Nat.zero_le _⟩) (fun r_2 u_1 H locs hw hP hD hS => ?_)
  obtain ⟨hf_3, rfl⟩ := hw
  have hP : va_P (dC, dI) vwCl (wD_60 h cs fI fL fA fQ fG fJ) H := xP_sub hP [0, 4, 5, 6, 7, 8, 9, 10, 11, 1, 2, 3] rfl
  have hD : va_D A0 (wD_60 h cs fI fL fA fQ fG fJ) := hD.sub [0, 4, 5, 6, 7, 8, 9, 10, 11, 1, 2, 3] (by decide) rfl
  obtain rfl := hf_3
  refine lv_aload_n hx hb dX8_indexOf_8 rfl (lv_at hl 0 rfl) ?_
  refine va_get (D := (dC, dI)) (ci := 8) (v := .ref (h 101)) (C := RX8) (T := TX8) (N := 6) hx hb hts hinX8 hown hK hP 0 rfl rfl 0 (by decide) (hts (.fieldLink RX8 28 "MixedWords$Words" "mix" "LMixedWords$Mix;") (by decide +kernel)) (fun _ h9 => h9) rfl dX8_indexOf_9 ?_
  refine va_get (D := (dC, dI)) (ci := 3) (v := .int (fI 121)) (C := RX3) (T := TX3) (N := 6) hx hb hts hinX3 hown hK hP 1 rfl rfl 1 (by decide) (hts (.fieldLink RX8 40 "MixedWords$Mix" "width" "I") (by decide +kernel)) (fun _ h9 => h9) rfl dX8_indexOf_12 ?_
  refine xt_i (y := nI 2) (by decide +kernel) ?_
  refine lv_iconst (v := nI 1) hx hb dX8_indexOf_15 (by decide) ?_
  refine lv_isub hx hb dX8_indexOf_16 ?_
  refine xt_i (y := nI 1) (by decide +kernel) ?_
  refine lv_iload_n hx hb dX8_indexOf_17 rfl (lv_at hl 2 rfl) ?_
  refine lv_isub hx hb dX8_indexOf_18 ?_
  refine xt_i (y := nI 1) (by decide +kernel) ?_
  refine lv_imul hx hb dX8_indexOf_19 ?_
  refine xt_i (y := nI 1) (by decide +kernel) ?_
  refine lv_ishr hx hb dX8_indexOf_20 ?_
  refine xt_i (y := nI 1) (by decide +kernel) ?_
  refine lv_aload_n hx hb dX8_indexOf_21 rfl (lv_at hl 0 rfl) ?_
  refine va_get (D := (dC, dI)) (ci := 8) (v := .ref (h 101)) (C := RX8) (T := TX8) (N := 6) hx hb hts hinX8 hown hK hP 0 rfl rfl 0 (by decide) (hts (.fieldLink RX8 28 "MixedWords$Words" "mix" "LMixedWords$Mix;") (by decide +kernel)) (fun _ h9 => h9) rfl dX8_indexOf_22 ?_
  refine va_get (D := (dC, dI)) (ci := 3) (v := .int (fI 122)) (C := RX3) (T := TX3) (N := 6) hx hb hts hinX3 hown hK hP 1 rfl rfl 2 (by decide) (hts (.fieldLink RX8 51 "MixedWords$Mix" "letterCount" "I") (by decide +kernel)) (fun _ h9 => h9) rfl dX8_indexOf_25 ?_
  refine xt_i (y := nI 2) (by decide +kernel) ?_
  refine lv_iconst (v := nI 1) hx hb dX8_indexOf_28 (by decide) ?_
  refine lv_isub hx hb dX8_indexOf_29 ?_
  refine xt_i (y := nI 1) (by decide +kernel) ?_
  refine lv_iand hx hb dX8_indexOf_30 ?_
  refine xt_i (y := nI 1) (by decide +kernel) ?_
  exact xr_i (v := (nI 1)) hx hb hr hlocks hK hS dX8_indexOf_31 (fI, fL, fA, fQ, fG, fJ) ⟨rfl, rfl⟩ hP hD
set_option maxHeartbeats 4000000 in
set_option maxRecDepth 100000 in
theorem a_X8_indexOf_72 (l : Launch) (dC : Nat → ClassId) (dI : Nat → Nat → Nat) (h : Nat → Nat) (cs : Nat → ClassId) (sz : Nat) (I : Nat → Int32) (L : Nat → Int64) (A : Nat → Nat → Int32) (Q : Nat → Nat → Int64) (G : Nat → Nat → Nat → Int32) (J : Nat → Nat → Nat → Int64) : Met l yX8_indexOf wsX8_indexOf ({ frames := 1, cells := 0, slots := 0, locals := 20 }) (va_Pc [.ref (h 105), .int (nI 3), .int (nI 1)] (xPre (dC, dI) (wD_60 h cs fI fL fA fQ fG fJ) (tysA cs) sz)) (va_Qi (fun (r : Int32) (u : CS) => (r = nI 1) ∧ u = (fI, fL, fA, fQ, fG, fJ)) (xB (dC, dI) (tysA cs) (va_A (wD_60 h cs fI fL fA fQ fG fJ) sz) (fun u : CS => wD_60 h cs u.1 u.2.1 u.2.2.1 u.2.2.2.1 u.2.2.2.2.1 u.2.2.2.2.2)) (va_A (wD_60 h cs fI fL fA fQ fG fJ) sz)) 0 0 (va_A (wD_60 h cs fI fL fA fQ fG fJ) sz) := by
  refine Met.ofW (cc := cX8_indexOf) (maxL := 3) (ret := (some .int)) (by decide) rfl ?_
  intro p e s m args below meth c s₁ B hml hv
  obtain ⟨rfl, hsz, hP, hK, hD0, hN⟩ := hv
  have hx := B.exec
  have hb := B.bytes
  have hr := B.returns
  have hts := atoms_spec (ws := wsX8_indexOf) B.pre
  have hown : s.vm.findClass RX8 = some m.cls := findClass_of_methodNamed B.named
  have hlocks := B.notSynchronized
  subst hsz
  have hD := hD0.self (sz := s.heap.size)
  generalize hAe : va_A (wD_60 h cs fI fL fA fQ fG fJ) s.heap.size = A0 at hD ⊢
  have hA : ∀ q : Nat, s.heap.size ≤ q → A0 q := fun q h => by rw [← hAe]; exact Or.inr h
  have hl := lv_entry ([.ref (h 105), .int (nI 3), .int (nI 1)]) (n := 3) (Nat.le_of_ble_eq_true rfl)
  rw [lg_entry_eq]
  generalize (lg_sl ([.ref (h 105), .int (nI 3), .int (nI 1)]) ++ List.replicate (3 - (lg_sl ([.ref (h 105), .int (nI 3), .int (nI 1)])).length) Slot.unset).toArray = ls at hl ⊢
  have hl : lv_has ls 3 [(0, .ref (h 105)), (1, .int (nI 3)), (2, .int (nI 1))] := hl
  generalize hH : s.heap = H at hP ⊢
  have hS : va_S A0 s.heap H [] := by rw [← hH]; exact va_S.rf
  have hinX8 : ∀ w ∈ wsX80, w ∈ wsX8_indexOf := by decide +kernel
  have hinX3 : ∀ w ∈ wsX30, w ∈ wsX8_indexOf := by decide +kernel
  refine lv_iload_n hx hb dX8_indexOf_0 rfl (lv_at hl 1 rfl) ?_
  refine lv_aload_n hx hb dX8_indexOf_1 rfl (lv_at hl 0 rfl) ?_
  refine va_get (D := (dC, dI)) (ci := 8) (v := .ref (h 101)) (C := RX8) (T := TX8) (N := 6) hx hb hts hinX8 hown hK hP 0 rfl rfl 0 (by decide) (hts (.fieldLink RX8 28 "MixedWords$Words" "mix" "LMixedWords$Mix;") (by decide +kernel)) (fun _ h9 => h9) rfl dX8_indexOf_2 ?_
  refine xj_i (wc := (wD_32 h cs fI fL fA fQ fG fJ)) (wr := [(h 105, .inr (8, [.ref (h 101), .ref (h 170), .ref (h 171), .ref (h 172), .int (fI 173), .int (fI 174)])), (h 170, .inl (cs 0, 256, .inl (fA 170))), (h 171, .inl (cs 0, 256, .inl (fA 171))), (h 172, .inl (cs 0, 256, .inl (fA 172)))]) hP hD hS hA [1, 2, 3, 4, 5, 6, 7, 8] [0, 9, 10, 11] rfl rfl (by decide) (by decide) (va_runV (As := []) (rest := [.int (nI 3)]) ⟨hx, hb, hml, hown, hts⟩ (a_X3_bitsOfLetter_59 l dC dI h cs H.size fI fL fA fQ fG fJ ) (cwV 0 hts gX8_indexOf_X3_bitsOfLetter rfl rfl rfl (by decide +kernel) ⟨Nat.le_of_ble_eq_true rfl, Nat.le_of_ble_eq_true rfl⟩) (xpV (wc := (wD_32 h cs fI fL fA fQ fG fJ)) hP hD hK hN [1, 2, 3, 4, 5, 6, 7, 8] rfl (by decide) 1 (ci := 3) rfl rfl _) rfl rfl hl.1 rfl (lv_room (Nat.le_of_ble_eq_true rfl)) dX8_indexOf_5 ⟨Nat.zero_le _, Nat.zero_le _⟩) (fun r_2 u_1 H locs hw hP hD hS => ?_)
  obtain ⟨hf_3, rfl⟩ := hw
  have hP : va_P (dC, dI) vwCl (wD_60 h cs fI fL fA fQ fG fJ) H := xP_sub hP [0, 4, 5, 6, 7, 8, 9, 10, 11, 1, 2, 3] rfl
  have hD : va_D A0 (wD_60 h cs fI fL fA fQ fG fJ) := hD.sub [0, 4, 5, 6, 7, 8, 9, 10, 11, 1, 2, 3] (by decide) rfl
  obtain rfl := hf_3
  refine lv_aload_n hx hb dX8_indexOf_8 rfl (lv_at hl 0 rfl) ?_
  refine va_get (D := (dC, dI)) (ci := 8) (v := .ref (h 101)) (C := RX8) (T := TX8) (N := 6) hx hb hts hinX8 hown hK hP 0 rfl rfl 0 (by decide) (hts (.fieldLink RX8 28 "MixedWords$Words" "mix" "LMixedWords$Mix;") (by decide +kernel)) (fun _ h9 => h9) rfl dX8_indexOf_9 ?_
  refine va_get (D := (dC, dI)) (ci := 3) (v := .int (fI 121)) (C := RX3) (T := TX3) (N := 6) hx hb hts hinX3 hown hK hP 1 rfl rfl 1 (by decide) (hts (.fieldLink RX8 40 "MixedWords$Mix" "width" "I") (by decide +kernel)) (fun _ h9 => h9) rfl dX8_indexOf_12 ?_
  refine xt_i (y := nI 2) (by decide +kernel) ?_
  refine lv_iconst (v := nI 1) hx hb dX8_indexOf_15 (by decide) ?_
  refine lv_isub hx hb dX8_indexOf_16 ?_
  refine xt_i (y := nI 1) (by decide +kernel) ?_
  refine lv_iload_n hx hb dX8_indexOf_17 rfl (lv_at hl 2 rfl) ?_
  refine lv_isub hx hb dX8_indexOf_18 ?_
  refine xt_i (y := nI 0) (by decide +kernel) ?_
  refine lv_imul hx hb dX8_indexOf_19 ?_
  refine xt_i (y := nI 0) (by decide +kernel) ?_
  refine lv_ishr hx hb dX8_indexOf_20 ?_
  refine xt_i (y := nI 3) (by decide +kernel) ?_
  refine lv_aload_n hx hb dX8_indexOf_21 rfl (lv_at hl 0 rfl) ?_
  refine va_get (D := (dC, dI)) (ci := 8) (v := .ref (h 101)) (C := RX8) (T := TX8) (N := 6) hx hb hts hinX8 hown hK hP 0 rfl rfl 0 (by decide) (hts (.fieldLink RX8 28 "MixedWords$Words" "mix" "LMixedWords$Mix;") (by decide +kernel)) (fun _ h9 => h9) rfl dX8_indexOf_22 ?_
  refine va_get (D := (dC, dI)) (ci := 3) (v := .int (fI 122)) (C := RX3) (T := TX3) (N := 6) hx hb hts hinX3 hown hK hP 1 rfl rfl 2 (by decide) (hts (.fieldLink RX8 51 "MixedWords$Mix" "letterCount" "I") (by decide +kernel)) (fun _ h9 => h9) rfl dX8_indexOf_25 ?_
  refine xt_i (y := nI 2) (by decide +kernel) ?_
  refine lv_iconst (v := nI 1) hx hb dX8_indexOf_28 (by decide) ?_
  refine lv_isub hx hb dX8_indexOf_29 ?_
  refine xt_i (y := nI 1) (by decide +kernel) ?_
  refine lv_iand hx hb dX8_indexOf_30 ?_
  refine xt_i (y := nI 1) (by decide +kernel) ?_
  exact xr_i (v := (nI 1)) hx hb hr hlocks hK hS dX8_indexOf_31 (fI, fL, fA, fQ, fG, fJ) ⟨rfl, rfl⟩ hP hD
set_option maxHeartbeats 4000000 in
set_option maxRecDepth 100000 in
theorem a_X8_offOf_70 (l : Launch) (dC : Nat → ClassId) (dI : Nat → Nat → Nat) (h : Nat → Nat) (cs : Nat → ClassId) (sz : Nat) (I : Nat → Int32) (L : Nat → Int64) (A : Nat → Nat → Int32) (Q : Nat → Nat → Int64) (G : Nat → Nat → Nat → Int32) (J : Nat → Nat → Nat → Int64) : Met l yX8_offOf wsX8_offOf ({ frames := 2, cells := 0, slots := 0, locals := 42 }) (va_Pc [.ref (h 105), .int (nI 3)] (xPre (dC, dI) (wD_60 h cs fI fL fA fQ fG fJ) (tysA cs) sz)) (va_Qi (fun (r : Int32) (u : CS) => (r = nI 0) ∧ u = (fI, fL, fA, fQ, fG, fJ)) (xB (dC, dI) (tysA cs) (va_A (wD_60 h cs fI fL fA fQ fG fJ) sz) (fun u : CS => wD_60 h cs u.1 u.2.1 u.2.2.1 u.2.2.2.1 u.2.2.2.2.1 u.2.2.2.2.2)) (va_A (wD_60 h cs fI fL fA fQ fG fJ) sz)) 0 0 (va_A (wD_60 h cs fI fL fA fQ fG fJ) sz) := by
  refine Met.ofW (cc := cX8_offOf) (maxL := 6) (ret := (some .int)) (by decide) rfl ?_
  intro p e s m args below meth c s₁ B hml hv
  obtain ⟨rfl, hsz, hP, hK, hD0, hN⟩ := hv
  have hx := B.exec
  have hb := B.bytes
  have hr := B.returns
  have hts := atoms_spec (ws := wsX8_offOf) B.pre
  have hown : s.vm.findClass RX8 = some m.cls := findClass_of_methodNamed B.named
  have hlocks := B.notSynchronized
  subst hsz
  have hD := hD0.self (sz := s.heap.size)
  generalize hAe : va_A (wD_60 h cs fI fL fA fQ fG fJ) s.heap.size = A0 at hD ⊢
  have hA : ∀ q : Nat, s.heap.size ≤ q → A0 q := fun q h => by rw [← hAe]; exact Or.inr h
  have hl := lv_entry ([.ref (h 105), .int (nI 3)]) (n := 6) (Nat.le_of_ble_eq_true rfl)
  rw [lg_entry_eq]
  generalize (lg_sl ([.ref (h 105), .int (nI 3)]) ++ List.replicate (6 - (lg_sl ([.ref (h 105), .int (nI 3)])).length) Slot.unset).toArray = ls at hl ⊢
  have hl : lv_has ls 6 [(0, .ref (h 105)), (1, .int (nI 3))] := hl
  generalize hH : s.heap = H at hP ⊢
  have hS : va_S A0 s.heap H [] := by rw [← hH]; exact va_S.rf
  have hinX8 : ∀ w ∈ wsX80, w ∈ wsX8_offOf := by decide +kernel
  have hinX3 : ∀ w ∈ wsX30, w ∈ wsX8_offOf := by decide +kernel
  refine lv_iconst (v := nI 0) hx hb dX8_offOf_0 (by decide) ?_
  refine lv_istore_n (lv' := [(2, .int (nI 0)), (0, .ref (h 105)), (1, .int (nI 3))]) hx hb dX8_offOf_1 rfl hl (by decide) rfl (fun ls hl => ?_)
  refine lv_iconst (v := nI 0) hx hb dX8_offOf_2 (by decide) ?_
  refine lv_istore_n (lv' := [(3, .int (nI 0)), (2, .int (nI 0)), (0, .ref (h 105)), (1, .int (nI 3))]) hx hb dX8_offOf_3 rfl hl (by decide) rfl (fun ls hl => ?_)
  refine lv_iload_n hx hb dX8_offOf_4 rfl (lv_at hl 0 rfl) ?_
  refine lv_aload_n hx hb dX8_offOf_5 rfl (lv_at hl 2 rfl) ?_
  refine va_get (D := (dC, dI)) (ci := 8) (v := .ref (h 101)) (C := RX8) (T := TX8) (N := 6) hx hb hts hinX8 hown hK hP 0 rfl rfl 0 (by decide) (hts (.fieldLink RX8 28 "MixedWords$Words" "mix" "LMixedWords$Mix;") (by decide +kernel)) (fun _ h9 => h9) rfl dX8_offOf_6 ?_
  refine va_get (D := (dC, dI)) (ci := 3) (v := .int (fI 120)) (C := RX3) (T := TX3) (N := 6) hx hb hts hinX3 hown hK hP 1 rfl rfl 0 (by decide) (hts (.fieldLink RX8 32 "MixedWords$Mix" "height" "I") (by decide +kernel)) (fun _ h9 => h9) rfl dX8_offOf_9 ?_
  refine xt_i (y := nI 2) (by decide +kernel) ?_
  refine lv_icmp_ge (tgt := 98) hx hb dX8_offOf_12 (by decide) (fun c9 => False.elim (by revert c9; decide +kernel)) (fun _ => ?_)
  refine lv_aload_n hx hb dX8_offOf_15 rfl (lv_at hl 2 rfl) ?_
  refine va_get (D := (dC, dI)) (ci := 8) (v := .ref (h 101)) (C := RX8) (T := TX8) (N := 6) hx hb hts hinX8 hown hK hP 0 rfl rfl 0 (by decide) (hts (.fieldLink RX8 28 "MixedWords$Words" "mix" "LMixedWords$Mix;") (by decide +kernel)) (fun _ h9 => h9) rfl dX8_offOf_16 ?_
  refine va_get (D := (dC, dI)) (ci := 3) (v := .ref (h 136)) (C := RX3) (T := TX3) (N := 6) hx hb hts hinX3 hown hK hP 1 rfl rfl 5 (by decide) (hts (.fieldLink RX8 37 "MixedWords$Mix" "heard" "[I") (by decide +kernel)) (fun _ h9 => h9) rfl dX8_offOf_19 ?_
  refine lv_iload_n hx hb dX8_offOf_22 rfl (lv_at hl 0 rfl) ?_
  refine xa_iald hx hb hK hP 8 0 rfl rfl (by omega) (by decide) dX8_offOf_23 ?_
  refine xt_i (y := nI 0) (by decide +kernel) ?_
  refine lv_istore (lv' := [(4, .int (nI 0)), (3, .int (nI 0)), (2, .int (nI 0)), (0, .ref (h 105)), (1, .int (nI 3))]) hx hb dX8_offOf_24 hl (by decide) rfl (fun ls hl => ?_)
  refine lv_iconst (v := nI 0) hx hb dX8_offOf_26 (by decide) ?_
  refine lv_istore (lv' := [(5, .int (nI 0)), (4, .int (nI 0)), (3, .int (nI 0)), (2, .int (nI 0)), (0, .ref (h 105)), (1, .int (nI 3))]) hx hb dX8_offOf_27 hl (by decide) rfl (fun ls hl => ?_)
  refine lv_iload hx hb dX8_offOf_29 (lv_at hl 0 rfl) ?_
  refine lv_aload_n hx hb dX8_offOf_31 rfl (lv_at hl 4 rfl) ?_
  refine va_get (D := (dC, dI)) (ci := 8) (v := .ref (h 101)) (C := RX8) (T := TX8) (N := 6) hx hb hts hinX8 hown hK hP 0 rfl rfl 0 (by decide) (hts (.fieldLink RX8 28 "MixedWords$Words" "mix" "LMixedWords$Mix;") (by decide +kernel)) (fun _ h9 => h9) rfl dX8_offOf_32 ?_
  refine va_get (D := (dC, dI)) (ci := 3) (v := .int (fI 121)) (C := RX3) (T := TX3) (N := 6) hx hb hts hinX3 hown hK hP 1 rfl rfl 1 (by decide) (hts (.fieldLink RX8 40 "MixedWords$Mix" "width" "I") (by decide +kernel)) (fun _ h9 => h9) rfl dX8_offOf_35 ?_
  refine xt_i (y := nI 2) (by decide +kernel) ?_
  refine lv_icmp_ge (tgt := 84) hx hb dX8_offOf_38 (by decide) (fun c9 => False.elim (by revert c9; decide +kernel)) (fun _ => ?_)
  refine lv_iload hx hb dX8_offOf_41 (lv_at hl 1 rfl) ?_
  refine lv_aload_n hx hb dX8_offOf_43 rfl (lv_at hl 4 rfl) ?_
  refine va_get (D := (dC, dI)) (ci := 8) (v := .ref (h 101)) (C := RX8) (T := TX8) (N := 6) hx hb hts hinX8 hown hK hP 0 rfl rfl 0 (by decide) (hts (.fieldLink RX8 28 "MixedWords$Words" "mix" "LMixedWords$Mix;") (by decide +kernel)) (fun _ h9 => h9) rfl dX8_offOf_44 ?_
  refine va_get (D := (dC, dI)) (ci := 3) (v := .ref (h 130)) (C := RX3) (T := TX3) (N := 6) hx hb hts hinX3 hown hK hP 1 rfl rfl 4 (by decide) (hts (.fieldLink RX8 43 "MixedWords$Mix" "cells" "[[I") (by decide +kernel)) (fun _ h9 => h9) rfl dX8_offOf_47 ?_
  refine lv_iload_n hx hb dX8_offOf_50 rfl (lv_at hl 2 rfl) ?_
  refine xa_aald (b := h 131) hx hb hK hP 2 3 rfl rfl rfl (by omega) (by decide) (if_pos (by omega)) dX8_offOf_51 ?_
  refine lv_iload hx hb dX8_offOf_52 (lv_at hl 0 rfl) ?_
  refine xa_iald hx hb hK hP 3 0 rfl rfl (by omega) (by decide) dX8_offOf_54 ?_
  refine xt_i (y := nI 0) (by decide +kernel) ?_
  refine lv_iconst (v := nI 2) hx hb dX8_offOf_55 (by decide) ?_
  refine lv_aload_n hx hb dX8_offOf_56 rfl (lv_at hl 4 rfl) ?_
  refine lv_iload_n hx hb dX8_offOf_57 rfl (lv_at hl 5 rfl) ?_
  refine lv_iload hx hb dX8_offOf_58 (lv_at hl 0 rfl) ?_
  refine xj_i (wc := (wD_60 h cs fI fL fA fQ fG fJ)) (wr := ([] : va_W)) hP hD hS hA [0, 1, 2, 3, 4, 5, 6, 7, 8, 9, 10, 11] [] rfl rfl (by decide) (by decide) (va_runV (As := [.int (nI 3), .int (nI 0)]) (rest := [.int (nI 2), .int (nI 0), .int (nI 0)]) ⟨hx, hb, hml, hown, hts⟩ (a_X8_indexOf_71 l dC dI h cs H.size fI fL fA fQ fG fJ ) (cwV 2 hts gX8_offOf_X8_indexOf rfl rfl rfl (by decide +kernel) ⟨Nat.le_of_ble_eq_true rfl, Nat.le_of_ble_eq_true rfl⟩) (xpV (wc := (wD_60 h cs fI fL fA fQ fG fJ)) hP hD hK hN [0, 1, 2, 3, 4, 5, 6, 7, 8, 9, 10, 11] rfl (by decide) 0 (ci := 8) rfl rfl _) rfl rfl hl.1 rfl (lv_room (Nat.le_of_ble_eq_true rfl)) dX8_offOf_60 ⟨Nat.zero_le _, Nat.zero_le _⟩) (fun r_2 u_1 H locs hw hP hD hS => ?_)
  obtain ⟨hf_3, rfl⟩ := hw
  have hP : va_P (dC, dI) vwCl (wD_60 h cs fI fL fA fQ fG fJ) H := hP
  have hD : va_D A0 (wD_60 h cs fI fL fA fQ fG fJ) := hD
  obtain rfl := hf_3
  refine lv_imul hx hb dX8_offOf_63 ?_
  refine xt_i (y := nI 2) (by decide +kernel) ?_
  refine lv_aload_n hx hb dX8_offOf_64 rfl (lv_at hl 4 rfl) ?_
  refine va_get (D := (dC, dI)) (ci := 8) (v := .ref (h 101)) (C := RX8) (T := TX8) (N := 6) hx hb hts hinX8 hown hK hP 0 rfl rfl 0 (by decide) (hts (.fieldLink RX8 28 "MixedWords$Words" "mix" "LMixedWords$Mix;") (by decide +kernel)) (fun _ h9 => h9) rfl dX8_offOf_65 ?_
  refine va_get (D := (dC, dI)) (ci := 3) (v := .int (fI 122)) (C := RX3) (T := TX3) (N := 6) hx hb hts hinX3 hown hK hP 1 rfl rfl 2 (by decide) (hts (.fieldLink RX8 51 "MixedWords$Mix" "letterCount" "I") (by decide +kernel)) (fun _ h9 => h9) rfl dX8_offOf_68 ?_
  refine xt_i (y := nI 2) (by decide +kernel) ?_
  refine lv_isub hx hb dX8_offOf_71 ?_
  refine xt_i (y := nI 0) (by decide +kernel) ?_
  refine lv_iconst (v := nI 1) hx hb dX8_offOf_72 (by decide) ?_
  refine lv_iadd hx hb dX8_offOf_73 ?_
  refine xt_i (y := nI 1) (by decide +kernel) ?_
  refine lv_imul hx hb dX8_offOf_74 ?_
  refine xt_i (y := nI 0) (by decide +kernel) ?_
  refine lv_isub hx hb dX8_offOf_75 ?_
  refine xt_i (y := nI 0) (by decide +kernel) ?_
  refine lv_istore (lv' := [(4, .int (nI 0)), (5, .int (nI 0)), (3, .int (nI 0)), (2, .int (nI 0)), (0, .ref (h 105)), (1, .int (nI 3))]) hx hb dX8_offOf_76 hl (by decide) rfl (fun ls hl => ?_)
  refine lv_iinc (v := nI 1) (lv' := [(5, .int (nI 1)), (4, .int (nI 0)), (3, .int (nI 0)), (2, .int (nI 0)), (0, .ref (h 105)), (1, .int (nI 3))]) hx hb dX8_offOf_78 hl (k := 1) rfl (by decide +kernel) (by decide) rfl (fun ls hl => ?_)
  refine lv_goto (tgt := 29) hx hb dX8_offOf_81 (by decide) ?_
  refine lv_iload hx hb dX8_offOf_29 (lv_at hl 0 rfl) ?_
  refine lv_aload_n hx hb dX8_offOf_31 rfl (lv_at hl 4 rfl) ?_
  refine va_get (D := (dC, dI)) (ci := 8) (v := .ref (h 101)) (C := RX8) (T := TX8) (N := 6) hx hb hts hinX8 hown hK hP 0 rfl rfl 0 (by decide) (hts (.fieldLink RX8 28 "MixedWords$Words" "mix" "LMixedWords$Mix;") (by decide +kernel)) (fun _ h9 => h9) rfl dX8_offOf_32 ?_
  refine va_get (D := (dC, dI)) (ci := 3) (v := .int (fI 121)) (C := RX3) (T := TX3) (N := 6) hx hb hts hinX3 hown hK hP 1 rfl rfl 1 (by decide) (hts (.fieldLink RX8 40 "MixedWords$Mix" "width" "I") (by decide +kernel)) (fun _ h9 => h9) rfl dX8_offOf_35 ?_
  refine xt_i (y := nI 2) (by decide +kernel) ?_
  refine lv_icmp_ge (tgt := 84) hx hb dX8_offOf_38 (by decide) (fun c9 => False.elim (by revert c9; decide +kernel)) (fun _ => ?_)
  refine lv_iload hx hb dX8_offOf_41 (lv_at hl 1 rfl) ?_
  refine lv_aload_n hx hb dX8_offOf_43 rfl (lv_at hl 4 rfl) ?_
  refine va_get (D := (dC, dI)) (ci := 8) (v := .ref (h 101)) (C := RX8) (T := TX8) (N := 6) hx hb hts hinX8 hown hK hP 0 rfl rfl 0 (by decide) (hts (.fieldLink RX8 28 "MixedWords$Words" "mix" "LMixedWords$Mix;") (by decide +kernel)) (fun _ h9 => h9) rfl dX8_offOf_44 ?_
  refine va_get (D := (dC, dI)) (ci := 3) (v := .ref (h 130)) (C := RX3) (T := TX3) (N := 6) hx hb hts hinX3 hown hK hP 1 rfl rfl 4 (by decide) (hts (.fieldLink RX8 43 "MixedWords$Mix" "cells" "[[I") (by decide +kernel)) (fun _ h9 => h9) rfl dX8_offOf_47 ?_
  refine lv_iload_n hx hb dX8_offOf_50 rfl (lv_at hl 2 rfl) ?_
  refine xa_aald (b := h 131) hx hb hK hP 2 3 rfl rfl rfl (by omega) (by decide) (if_pos (by omega)) dX8_offOf_51 ?_
  refine lv_iload hx hb dX8_offOf_52 (lv_at hl 0 rfl) ?_
  refine xa_iald hx hb hK hP 3 0 rfl rfl (by omega) (by decide) dX8_offOf_54 ?_
  refine xt_i (y := nI 0) (by decide +kernel) ?_
  refine lv_iconst (v := nI 2) hx hb dX8_offOf_55 (by decide) ?_
  refine lv_aload_n hx hb dX8_offOf_56 rfl (lv_at hl 4 rfl) ?_
  refine lv_iload_n hx hb dX8_offOf_57 rfl (lv_at hl 5 rfl) ?_
  refine lv_iload hx hb dX8_offOf_58 (lv_at hl 0 rfl) ?_
  refine xj_i (wc := (wD_60 h cs fI fL fA fQ fG fJ)) (wr := ([] : va_W)) hP hD hS hA [0, 1, 2, 3, 4, 5, 6, 7, 8, 9, 10, 11] [] rfl rfl (by decide) (by decide) (va_runV (As := [.int (nI 3), .int (nI 1)]) (rest := [.int (nI 2), .int (nI 0), .int (nI 0)]) ⟨hx, hb, hml, hown, hts⟩ (a_X8_indexOf_72 l dC dI h cs H.size fI fL fA fQ fG fJ ) (cwV 2 hts gX8_offOf_X8_indexOf rfl rfl rfl (by decide +kernel) ⟨Nat.le_of_ble_eq_true rfl, Nat.le_of_ble_eq_true rfl⟩) (xpV (wc := (wD_60 h cs fI fL fA fQ fG fJ)) hP hD hK hN [0, 1, 2, 3, 4, 5, 6, 7, 8, 9, 10, 11] rfl (by decide) 0 (ci := 8) rfl rfl _) rfl rfl hl.1 rfl (lv_room (Nat.le_of_ble_eq_true rfl)) dX8_offOf_60 ⟨Nat.zero_le _, Nat.zero_le _⟩) (fun r_5 u_4 H locs hw hP hD hS => ?_)
  obtain ⟨hf_6, rfl⟩ := hw
  have hP : va_P (dC, dI) vwCl (wD_60 h cs fI fL fA fQ fG fJ) H := hP
  have hD : va_D A0 (wD_60 h cs fI fL fA fQ fG fJ) := hD
  obtain rfl := hf_6
  refine lv_imul hx hb dX8_offOf_63 ?_
  refine xt_i (y := nI 2) (by decide +kernel) ?_
  refine lv_aload_n hx hb dX8_offOf_64 rfl (lv_at hl 4 rfl) ?_
  refine va_get (D := (dC, dI)) (ci := 8) (v := .ref (h 101)) (C := RX8) (T := TX8) (N := 6) hx hb hts hinX8 hown hK hP 0 rfl rfl 0 (by decide) (hts (.fieldLink RX8 28 "MixedWords$Words" "mix" "LMixedWords$Mix;") (by decide +kernel)) (fun _ h9 => h9) rfl dX8_offOf_65 ?_
  refine va_get (D := (dC, dI)) (ci := 3) (v := .int (fI 122)) (C := RX3) (T := TX3) (N := 6) hx hb hts hinX3 hown hK hP 1 rfl rfl 2 (by decide) (hts (.fieldLink RX8 51 "MixedWords$Mix" "letterCount" "I") (by decide +kernel)) (fun _ h9 => h9) rfl dX8_offOf_68 ?_
  refine xt_i (y := nI 2) (by decide +kernel) ?_
  refine lv_isub hx hb dX8_offOf_71 ?_
  refine xt_i (y := nI 0) (by decide +kernel) ?_
  refine lv_iconst (v := nI 1) hx hb dX8_offOf_72 (by decide) ?_
  refine lv_iadd hx hb dX8_offOf_73 ?_
  refine xt_i (y := nI 1) (by decide +kernel) ?_
  refine lv_imul hx hb dX8_offOf_74 ?_
  refine xt_i (y := nI 0) (by decide +kernel) ?_
  refine lv_isub hx hb dX8_offOf_75 ?_
  refine xt_i (y := nI 0) (by decide +kernel) ?_
  refine lv_istore (lv' := [(4, .int (nI 0)), (5, .int (nI 1)), (3, .int (nI 0)), (2, .int (nI 0)), (0, .ref (h 105)), (1, .int (nI 3))]) hx hb dX8_offOf_76 hl (by decide) rfl (fun ls hl => ?_)
  refine lv_iinc (v := nI 2) (lv' := [(5, .int (nI 2)), (4, .int (nI 0)), (3, .int (nI 0)), (2, .int (nI 0)), (0, .ref (h 105)), (1, .int (nI 3))]) hx hb dX8_offOf_78 hl (k := 1) rfl (by decide +kernel) (by decide) rfl (fun ls hl => ?_)
  refine lv_goto (tgt := 29) hx hb dX8_offOf_81 (by decide) ?_
  refine lv_iload hx hb dX8_offOf_29 (lv_at hl 0 rfl) ?_
  refine lv_aload_n hx hb dX8_offOf_31 rfl (lv_at hl 4 rfl) ?_
  refine va_get (D := (dC, dI)) (ci := 8) (v := .ref (h 101)) (C := RX8) (T := TX8) (N := 6) hx hb hts hinX8 hown hK hP 0 rfl rfl 0 (by decide) (hts (.fieldLink RX8 28 "MixedWords$Words" "mix" "LMixedWords$Mix;") (by decide +kernel)) (fun _ h9 => h9) rfl dX8_offOf_32 ?_
  refine va_get (D := (dC, dI)) (ci := 3) (v := .int (fI 121)) (C := RX3) (T := TX3) (N := 6) hx hb hts hinX3 hown hK hP 1 rfl rfl 1 (by decide) (hts (.fieldLink RX8 40 "MixedWords$Mix" "width" "I") (by decide +kernel)) (fun _ h9 => h9) rfl dX8_offOf_35 ?_
  refine xt_i (y := nI 2) (by decide +kernel) ?_
  refine lv_icmp_ge (tgt := 84) hx hb dX8_offOf_38 (by decide) (fun _ => ?_) (fun c9 => False.elim (by revert c9; decide +kernel))
  refine lv_iload_n hx hb dX8_offOf_84 rfl (lv_at hl 3 rfl) ?_
  refine lv_iload hx hb dX8_offOf_85 (lv_at hl 1 rfl) ?_
  refine lv_iload hx hb dX8_offOf_87 (lv_at hl 1 rfl) ?_
  refine lv_imul hx hb dX8_offOf_89 ?_
  refine xt_i (y := nI 0) (by decide +kernel) ?_
  refine lv_iadd hx hb dX8_offOf_90 ?_
  refine xt_i (y := nI 0) (by decide +kernel) ?_
  refine lv_istore_n (lv' := [(2, .int (nI 0)), (5, .int (nI 2)), (4, .int (nI 0)), (3, .int (nI 0)), (0, .ref (h 105)), (1, .int (nI 3))]) hx hb dX8_offOf_91 rfl hl (by decide) rfl (fun ls hl => ?_)
  refine lv_iinc (v := nI 1) (lv' := [(3, .int (nI 1)), (2, .int (nI 0)), (5, .int (nI 2)), (4, .int (nI 0)), (0, .ref (h 105)), (1, .int (nI 3))]) hx hb dX8_offOf_92 hl (k := 3) rfl (by decide +kernel) (by decide) rfl (fun ls hl => ?_)
  refine lv_goto (tgt := 4) hx hb dX8_offOf_95 (by decide) ?_
  refine lv_iload_n hx hb dX8_offOf_4 rfl (lv_at hl 0 rfl) ?_
  refine lv_aload_n hx hb dX8_offOf_5 rfl (lv_at hl 4 rfl) ?_
  refine va_get (D := (dC, dI)) (ci := 8) (v := .ref (h 101)) (C := RX8) (T := TX8) (N := 6) hx hb hts hinX8 hown hK hP 0 rfl rfl 0 (by decide) (hts (.fieldLink RX8 28 "MixedWords$Words" "mix" "LMixedWords$Mix;") (by decide +kernel)) (fun _ h9 => h9) rfl dX8_offOf_6 ?_
  refine va_get (D := (dC, dI)) (ci := 3) (v := .int (fI 120)) (C := RX3) (T := TX3) (N := 6) hx hb hts hinX3 hown hK hP 1 rfl rfl 0 (by decide) (hts (.fieldLink RX8 32 "MixedWords$Mix" "height" "I") (by decide +kernel)) (fun _ h9 => h9) rfl dX8_offOf_9 ?_
  refine xt_i (y := nI 2) (by decide +kernel) ?_
  refine lv_icmp_ge (tgt := 98) hx hb dX8_offOf_12 (by decide) (fun c9 => False.elim (by revert c9; decide +kernel)) (fun _ => ?_)
  refine lv_aload_n hx hb dX8_offOf_15 rfl (lv_at hl 4 rfl) ?_
  refine va_get (D := (dC, dI)) (ci := 8) (v := .ref (h 101)) (C := RX8) (T := TX8) (N := 6) hx hb hts hinX8 hown hK hP 0 rfl rfl 0 (by decide) (hts (.fieldLink RX8 28 "MixedWords$Words" "mix" "LMixedWords$Mix;") (by decide +kernel)) (fun _ h9 => h9) rfl dX8_offOf_16 ?_
  refine va_get (D := (dC, dI)) (ci := 3) (v := .ref (h 136)) (C := RX3) (T := TX3) (N := 6) hx hb hts hinX3 hown hK hP 1 rfl rfl 5 (by decide) (hts (.fieldLink RX8 37 "MixedWords$Mix" "heard" "[I") (by decide +kernel)) (fun _ h9 => h9) rfl dX8_offOf_19 ?_
  refine lv_iload_n hx hb dX8_offOf_22 rfl (lv_at hl 0 rfl) ?_
  refine xa_iald hx hb hK hP 8 0 rfl rfl (by omega) (by decide) dX8_offOf_23 ?_
  refine xt_i (y := nI 0) (by decide +kernel) ?_
  refine lv_istore (lv' := [(4, .int (nI 0)), (3, .int (nI 1)), (2, .int (nI 0)), (5, .int (nI 2)), (0, .ref (h 105)), (1, .int (nI 3))]) hx hb dX8_offOf_24 hl (by decide) rfl (fun ls hl => ?_)
  refine lv_iconst (v := nI 0) hx hb dX8_offOf_26 (by decide) ?_
  refine lv_istore (lv' := [(5, .int (nI 0)), (4, .int (nI 0)), (3, .int (nI 1)), (2, .int (nI 0)), (0, .ref (h 105)), (1, .int (nI 3))]) hx hb dX8_offOf_27 hl (by decide) rfl (fun ls hl => ?_)
  refine lv_iload hx hb dX8_offOf_29 (lv_at hl 0 rfl) ?_
  refine lv_aload_n hx hb dX8_offOf_31 rfl (lv_at hl 4 rfl) ?_
  refine va_get (D := (dC, dI)) (ci := 8) (v := .ref (h 101)) (C := RX8) (T := TX8) (N := 6) hx hb hts hinX8 hown hK hP 0 rfl rfl 0 (by decide) (hts (.fieldLink RX8 28 "MixedWords$Words" "mix" "LMixedWords$Mix;") (by decide +kernel)) (fun _ h9 => h9) rfl dX8_offOf_32 ?_
  refine va_get (D := (dC, dI)) (ci := 3) (v := .int (fI 121)) (C := RX3) (T := TX3) (N := 6) hx hb hts hinX3 hown hK hP 1 rfl rfl 1 (by decide) (hts (.fieldLink RX8 40 "MixedWords$Mix" "width" "I") (by decide +kernel)) (fun _ h9 => h9) rfl dX8_offOf_35 ?_
  refine xt_i (y := nI 2) (by decide +kernel) ?_
  refine lv_icmp_ge (tgt := 84) hx hb dX8_offOf_38 (by decide) (fun c9 => False.elim (by revert c9; decide +kernel)) (fun _ => ?_)
  refine lv_iload hx hb dX8_offOf_41 (lv_at hl 1 rfl) ?_
  refine lv_aload_n hx hb dX8_offOf_43 rfl (lv_at hl 4 rfl) ?_
  refine va_get (D := (dC, dI)) (ci := 8) (v := .ref (h 101)) (C := RX8) (T := TX8) (N := 6) hx hb hts hinX8 hown hK hP 0 rfl rfl 0 (by decide) (hts (.fieldLink RX8 28 "MixedWords$Words" "mix" "LMixedWords$Mix;") (by decide +kernel)) (fun _ h9 => h9) rfl dX8_offOf_44 ?_
  refine va_get (D := (dC, dI)) (ci := 3) (v := .ref (h 130)) (C := RX3) (T := TX3) (N := 6) hx hb hts hinX3 hown hK hP 1 rfl rfl 4 (by decide) (hts (.fieldLink RX8 43 "MixedWords$Mix" "cells" "[[I") (by decide +kernel)) (fun _ h9 => h9) rfl dX8_offOf_47 ?_
  refine lv_iload_n hx hb dX8_offOf_50 rfl (lv_at hl 2 rfl) ?_
  refine xa_aald (b := h 132) hx hb hK hP 2 3 rfl rfl rfl (by omega) (by decide) (if_pos (by omega)) dX8_offOf_51 ?_
  refine lv_iload hx hb dX8_offOf_52 (lv_at hl 0 rfl) ?_
  refine xa_iald hx hb hK hP 4 0 rfl rfl (by omega) (by decide) dX8_offOf_54 ?_
  refine xt_i (y := nI 0) (by decide +kernel) ?_
  refine lv_iconst (v := nI 2) hx hb dX8_offOf_55 (by decide) ?_
  refine lv_aload_n hx hb dX8_offOf_56 rfl (lv_at hl 4 rfl) ?_
  refine lv_iload_n hx hb dX8_offOf_57 rfl (lv_at hl 5 rfl) ?_
  refine lv_iload hx hb dX8_offOf_58 (lv_at hl 0 rfl) ?_
  refine xj_i (wc := (wD_60 h cs fI fL fA fQ fG fJ)) (wr := ([] : va_W)) hP hD hS hA [0, 1, 2, 3, 4, 5, 6, 7, 8, 9, 10, 11] [] rfl rfl (by decide) (by decide) (va_runV (As := [.int (nI 3), .int (nI 0)]) (rest := [.int (nI 2), .int (nI 0), .int (nI 0)]) ⟨hx, hb, hml, hown, hts⟩ (a_X8_indexOf_71 l dC dI h cs H.size fI fL fA fQ fG fJ ) (cwV 2 hts gX8_offOf_X8_indexOf rfl rfl rfl (by decide +kernel) ⟨Nat.le_of_ble_eq_true rfl, Nat.le_of_ble_eq_true rfl⟩) (xpV (wc := (wD_60 h cs fI fL fA fQ fG fJ)) hP hD hK hN [0, 1, 2, 3, 4, 5, 6, 7, 8, 9, 10, 11] rfl (by decide) 0 (ci := 8) rfl rfl _) rfl rfl hl.1 rfl (lv_room (Nat.le_of_ble_eq_true rfl)) dX8_offOf_60 ⟨Nat.zero_le _, Nat.zero_le _⟩) (fun r_8 u_7 H locs hw hP hD hS => ?_)
  obtain ⟨hf_9, rfl⟩ := hw
  have hP : va_P (dC, dI) vwCl (wD_60 h cs fI fL fA fQ fG fJ) H := hP
  have hD : va_D A0 (wD_60 h cs fI fL fA fQ fG fJ) := hD
  obtain rfl := hf_9
  refine lv_imul hx hb dX8_offOf_63 ?_
  refine xt_i (y := nI 2) (by decide +kernel) ?_
  refine lv_aload_n hx hb dX8_offOf_64 rfl (lv_at hl 4 rfl) ?_
  refine va_get (D := (dC, dI)) (ci := 8) (v := .ref (h 101)) (C := RX8) (T := TX8) (N := 6) hx hb hts hinX8 hown hK hP 0 rfl rfl 0 (by decide) (hts (.fieldLink RX8 28 "MixedWords$Words" "mix" "LMixedWords$Mix;") (by decide +kernel)) (fun _ h9 => h9) rfl dX8_offOf_65 ?_
  refine va_get (D := (dC, dI)) (ci := 3) (v := .int (fI 122)) (C := RX3) (T := TX3) (N := 6) hx hb hts hinX3 hown hK hP 1 rfl rfl 2 (by decide) (hts (.fieldLink RX8 51 "MixedWords$Mix" "letterCount" "I") (by decide +kernel)) (fun _ h9 => h9) rfl dX8_offOf_68 ?_
  refine xt_i (y := nI 2) (by decide +kernel) ?_
  refine lv_isub hx hb dX8_offOf_71 ?_
  refine xt_i (y := nI 0) (by decide +kernel) ?_
  refine lv_iconst (v := nI 1) hx hb dX8_offOf_72 (by decide) ?_
  refine lv_iadd hx hb dX8_offOf_73 ?_
  refine xt_i (y := nI 1) (by decide +kernel) ?_
  refine lv_imul hx hb dX8_offOf_74 ?_
  refine xt_i (y := nI 0) (by decide +kernel) ?_
  refine lv_isub hx hb dX8_offOf_75 ?_
  refine xt_i (y := nI 0) (by decide +kernel) ?_
  refine lv_istore (lv' := [(4, .int (nI 0)), (5, .int (nI 0)), (3, .int (nI 1)), (2, .int (nI 0)), (0, .ref (h 105)), (1, .int (nI 3))]) hx hb dX8_offOf_76 hl (by decide) rfl (fun ls hl => ?_)
  refine lv_iinc (v := nI 1) (lv' := [(5, .int (nI 1)), (4, .int (nI 0)), (3, .int (nI 1)), (2, .int (nI 0)), (0, .ref (h 105)), (1, .int (nI 3))]) hx hb dX8_offOf_78 hl (k := 1) rfl (by decide +kernel) (by decide) rfl (fun ls hl => ?_)
  refine lv_goto (tgt := 29) hx hb dX8_offOf_81 (by decide) ?_
  refine lv_iload hx hb dX8_offOf_29 (lv_at hl 0 rfl) ?_
  refine lv_aload_n hx hb dX8_offOf_31 rfl (lv_at hl 4 rfl) ?_
  refine va_get (D := (dC, dI)) (ci := 8) (v := .ref (h 101)) (C := RX8) (T := TX8) (N := 6) hx hb hts hinX8 hown hK hP 0 rfl rfl 0 (by decide) (hts (.fieldLink RX8 28 "MixedWords$Words" "mix" "LMixedWords$Mix;") (by decide +kernel)) (fun _ h9 => h9) rfl dX8_offOf_32 ?_
  refine va_get (D := (dC, dI)) (ci := 3) (v := .int (fI 121)) (C := RX3) (T := TX3) (N := 6) hx hb hts hinX3 hown hK hP 1 rfl rfl 1 (by decide) (hts (.fieldLink RX8 40 "MixedWords$Mix" "width" "I") (by decide +kernel)) (fun _ h9 => h9) rfl dX8_offOf_35 ?_
  refine xt_i (y := nI 2) (by decide +kernel) ?_
  refine lv_icmp_ge (tgt := 84) hx hb dX8_offOf_38 (by decide) (fun c9 => False.elim (by revert c9; decide +kernel)) (fun _ => ?_)
  refine lv_iload hx hb dX8_offOf_41 (lv_at hl 1 rfl) ?_
  refine lv_aload_n hx hb dX8_offOf_43 rfl (lv_at hl 4 rfl) ?_
  refine va_get (D := (dC, dI)) (ci := 8) (v := .ref (h 101)) (C := RX8) (T := TX8) (N := 6) hx hb hts hinX8 hown hK hP 0 rfl rfl 0 (by decide) (hts (.fieldLink RX8 28 "MixedWords$Words" "mix" "LMixedWords$Mix;") (by decide +kernel)) (fun _ h9 => h9) rfl dX8_offOf_44 ?_
  refine va_get (D := (dC, dI)) (ci := 3) (v := .ref (h 130)) (C := RX3) (T := TX3) (N := 6) hx hb hts hinX3 hown hK hP 1 rfl rfl 4 (by decide) (hts (.fieldLink RX8 43 "MixedWords$Mix" "cells" "[[I") (by decide +kernel)) (fun _ h9 => h9) rfl dX8_offOf_47 ?_
  refine lv_iload_n hx hb dX8_offOf_50 rfl (lv_at hl 2 rfl) ?_
  refine xa_aald (b := h 132) hx hb hK hP 2 3 rfl rfl rfl (by omega) (by decide) (if_pos (by omega)) dX8_offOf_51 ?_
  refine lv_iload hx hb dX8_offOf_52 (lv_at hl 0 rfl) ?_
  refine xa_iald hx hb hK hP 4 0 rfl rfl (by omega) (by decide) dX8_offOf_54 ?_
  refine xt_i (y := nI 0) (by decide +kernel) ?_
  refine lv_iconst (v := nI 2) hx hb dX8_offOf_55 (by decide) ?_
  refine lv_aload_n hx hb dX8_offOf_56 rfl (lv_at hl 4 rfl) ?_
  refine lv_iload_n hx hb dX8_offOf_57 rfl (lv_at hl 5 rfl) ?_
  refine lv_iload hx hb dX8_offOf_58 (lv_at hl 0 rfl) ?_
  refine xj_i (wc := (wD_60 h cs fI fL fA fQ fG fJ)) (wr := ([] : va_W)) hP hD hS hA [0, 1, 2, 3, 4, 5, 6, 7, 8, 9, 10, 11] [] rfl rfl (by decide) (by decide) (va_runV (As := [.int (nI 3), .int (nI 1)]) (rest := [.int (nI 2), .int (nI 0), .int (nI 0)]) ⟨hx, hb, hml, hown, hts⟩ (a_X8_indexOf_72 l dC dI h cs H.size fI fL fA fQ fG fJ ) (cwV 2 hts gX8_offOf_X8_indexOf rfl rfl rfl (by decide +kernel) ⟨Nat.le_of_ble_eq_true rfl, Nat.le_of_ble_eq_true rfl⟩) (xpV (wc := (wD_60 h cs fI fL fA fQ fG fJ)) hP hD hK hN [0, 1, 2, 3, 4, 5, 6, 7, 8, 9, 10, 11] rfl (by decide) 0 (ci := 8) rfl rfl _) rfl rfl hl.1 rfl (lv_room (Nat.le_of_ble_eq_true rfl)) dX8_offOf_60 ⟨Nat.zero_le _, Nat.zero_le _⟩) (fun r_11 u_10 H locs hw hP hD hS => ?_)
  obtain ⟨hf_12, rfl⟩ := hw
  have hP : va_P (dC, dI) vwCl (wD_60 h cs fI fL fA fQ fG fJ) H := hP
  have hD : va_D A0 (wD_60 h cs fI fL fA fQ fG fJ) := hD
  obtain rfl := hf_12
  refine lv_imul hx hb dX8_offOf_63 ?_
  refine xt_i (y := nI 2) (by decide +kernel) ?_
  refine lv_aload_n hx hb dX8_offOf_64 rfl (lv_at hl 4 rfl) ?_
  refine va_get (D := (dC, dI)) (ci := 8) (v := .ref (h 101)) (C := RX8) (T := TX8) (N := 6) hx hb hts hinX8 hown hK hP 0 rfl rfl 0 (by decide) (hts (.fieldLink RX8 28 "MixedWords$Words" "mix" "LMixedWords$Mix;") (by decide +kernel)) (fun _ h9 => h9) rfl dX8_offOf_65 ?_
  refine va_get (D := (dC, dI)) (ci := 3) (v := .int (fI 122)) (C := RX3) (T := TX3) (N := 6) hx hb hts hinX3 hown hK hP 1 rfl rfl 2 (by decide) (hts (.fieldLink RX8 51 "MixedWords$Mix" "letterCount" "I") (by decide +kernel)) (fun _ h9 => h9) rfl dX8_offOf_68 ?_
  refine xt_i (y := nI 2) (by decide +kernel) ?_
  refine lv_isub hx hb dX8_offOf_71 ?_
  refine xt_i (y := nI 0) (by decide +kernel) ?_
  refine lv_iconst (v := nI 1) hx hb dX8_offOf_72 (by decide) ?_
  refine lv_iadd hx hb dX8_offOf_73 ?_
  refine xt_i (y := nI 1) (by decide +kernel) ?_
  refine lv_imul hx hb dX8_offOf_74 ?_
  refine xt_i (y := nI 0) (by decide +kernel) ?_
  refine lv_isub hx hb dX8_offOf_75 ?_
  refine xt_i (y := nI 0) (by decide +kernel) ?_
  refine lv_istore (lv' := [(4, .int (nI 0)), (5, .int (nI 1)), (3, .int (nI 1)), (2, .int (nI 0)), (0, .ref (h 105)), (1, .int (nI 3))]) hx hb dX8_offOf_76 hl (by decide) rfl (fun ls hl => ?_)
  refine lv_iinc (v := nI 2) (lv' := [(5, .int (nI 2)), (4, .int (nI 0)), (3, .int (nI 1)), (2, .int (nI 0)), (0, .ref (h 105)), (1, .int (nI 3))]) hx hb dX8_offOf_78 hl (k := 1) rfl (by decide +kernel) (by decide) rfl (fun ls hl => ?_)
  refine lv_goto (tgt := 29) hx hb dX8_offOf_81 (by decide) ?_
  refine lv_iload hx hb dX8_offOf_29 (lv_at hl 0 rfl) ?_
  refine lv_aload_n hx hb dX8_offOf_31 rfl (lv_at hl 4 rfl) ?_
  refine va_get (D := (dC, dI)) (ci := 8) (v := .ref (h 101)) (C := RX8) (T := TX8) (N := 6) hx hb hts hinX8 hown hK hP 0 rfl rfl 0 (by decide) (hts (.fieldLink RX8 28 "MixedWords$Words" "mix" "LMixedWords$Mix;") (by decide +kernel)) (fun _ h9 => h9) rfl dX8_offOf_32 ?_
  refine va_get (D := (dC, dI)) (ci := 3) (v := .int (fI 121)) (C := RX3) (T := TX3) (N := 6) hx hb hts hinX3 hown hK hP 1 rfl rfl 1 (by decide) (hts (.fieldLink RX8 40 "MixedWords$Mix" "width" "I") (by decide +kernel)) (fun _ h9 => h9) rfl dX8_offOf_35 ?_
  refine xt_i (y := nI 2) (by decide +kernel) ?_
  refine lv_icmp_ge (tgt := 84) hx hb dX8_offOf_38 (by decide) (fun _ => ?_) (fun c9 => False.elim (by revert c9; decide +kernel))
  refine lv_iload_n hx hb dX8_offOf_84 rfl (lv_at hl 3 rfl) ?_
  refine lv_iload hx hb dX8_offOf_85 (lv_at hl 1 rfl) ?_
  refine lv_iload hx hb dX8_offOf_87 (lv_at hl 1 rfl) ?_
  refine lv_imul hx hb dX8_offOf_89 ?_
  refine xt_i (y := nI 0) (by decide +kernel) ?_
  refine lv_iadd hx hb dX8_offOf_90 ?_
  refine xt_i (y := nI 0) (by decide +kernel) ?_
  refine lv_istore_n (lv' := [(2, .int (nI 0)), (5, .int (nI 2)), (4, .int (nI 0)), (3, .int (nI 1)), (0, .ref (h 105)), (1, .int (nI 3))]) hx hb dX8_offOf_91 rfl hl (by decide) rfl (fun ls hl => ?_)
  refine lv_iinc (v := nI 2) (lv' := [(3, .int (nI 2)), (2, .int (nI 0)), (5, .int (nI 2)), (4, .int (nI 0)), (0, .ref (h 105)), (1, .int (nI 3))]) hx hb dX8_offOf_92 hl (k := 3) rfl (by decide +kernel) (by decide) rfl (fun ls hl => ?_)
  refine lv_goto (tgt := 4) hx hb dX8_offOf_95 (by decide) ?_
  refine lv_iload_n hx hb dX8_offOf_4 rfl (lv_at hl 0 rfl) ?_
  refine lv_aload_n hx hb dX8_offOf_5 rfl (lv_at hl 4 rfl) ?_
  refine va_get (D := (dC, dI)) (ci := 8) (v := .ref (h 101)) (C := RX8) (T := TX8) (N := 6) hx hb hts hinX8 hown hK hP 0 rfl rfl 0 (by decide) (hts (.fieldLink RX8 28 "MixedWords$Words" "mix" "LMixedWords$Mix;") (by decide +kernel)) (fun _ h9 => h9) rfl dX8_offOf_6 ?_
  refine va_get (D := (dC, dI)) (ci := 3) (v := .int (fI 120)) (C := RX3) (T := TX3) (N := 6) hx hb hts hinX3 hown hK hP 1 rfl rfl 0 (by decide) (hts (.fieldLink RX8 32 "MixedWords$Mix" "height" "I") (by decide +kernel)) (fun _ h9 => h9) rfl dX8_offOf_9 ?_
  refine xt_i (y := nI 2) (by decide +kernel) ?_
  refine lv_icmp_ge (tgt := 98) hx hb dX8_offOf_12 (by decide) (fun _ => ?_) (fun c9 => False.elim (by revert c9; decide +kernel))
  refine lv_iload_n hx hb dX8_offOf_98 rfl (lv_at hl 1 rfl) ?_
  exact xr_i (v := (nI 0)) hx hb hr hlocks hK hS dX8_offOf_99 (fI, fL, fA, fQ, fG, fJ) ⟨rfl, rfl⟩ hP hD
set_option maxRecDepth 20000 in
theorem ggX9_off_X3_wordCount : GoodIn wsX9_off wsX3_wordCount := goodIn_r _ [7, 8, 9, 10, 11, 6, 12, 13, 39, 40, 41, 42, 43, 44] (by decide +kernel) (by decide +kernel)
set_option maxRecDepth 20000 in
theorem gX9_off_X3_wordCount : GoodIn wsX9_off (wsV RX9 156 RX3 yX3_wordCount wsX3_wordCount) := goodIn_app (goodIn_of _ (by decide +kernel)) ggX9_off_X3_wordCount
set_option maxRecDepth 20000 in
theorem ggX9_off_X8_offOf : GoodIn wsX9_off wsX8_offOf := goodIn_r _ [18, 19, 20, 21, 22, 23, 24, 25, 26, 27, 17, 28, 29, 10, 11, 6, 12, 13, 45, 46, 47, 48, 49, 50, 39, 40, 41, 42, 43, 44] (by decide +kernel) (by decide +kernel)
set_option maxRecDepth 20000 in
theorem gX9_off_X8_offOf : GoodIn wsX9_off (wsV RX9 159 RX8 yX8_offOf wsX8_offOf) := goodIn_app (goodIn_of _ (by decide +kernel)) ggX9_off_X8_offOf
theorem dX9_off_0 : decode cX9_off 0 = .ok (.iload_n 1, 1) := by decide +kernel
theorem dX9_off_1 : decode cX9_off 1 = .ok (.ifCond .lt 14, 3) := by decide +kernel
theorem dX9_off_4 : decode cX9_off 4 = .ok (.iload_n 1, 1) := by decide +kernel
theorem dX9_off_5 : decode cX9_off 5 = .ok (.aload_n 0, 1) := by decide +kernel
theorem dX9_off_6 : decode cX9_off 6 = .ok (.getfield 12, 3) := by decide +kernel
theorem dX9_off_9 : decode cX9_off 9 = .ok (.invokevirtual 156, 3) := by decide +kernel
theorem dX9_off_12 : decode cX9_off 12 = .ok (.if_icmp .lt 7, 3) := by decide +kernel
theorem dX9_off_15 : decode cX9_off 15 = .ok (.iconst (-1), 1) := by decide +kernel
theorem dX9_off_16 : decode cX9_off 16 = .ok (.goto 11, 3) := by decide +kernel
theorem dX9_off_19 : decode cX9_off 19 = .ok (.aload_n 0, 1) := by decide +kernel
theorem dX9_off_20 : decode cX9_off 20 = .ok (.getfield 44, 3) := by decide +kernel
theorem dX9_off_23 : decode cX9_off 23 = .ok (.iload_n 1, 1) := by decide +kernel
theorem dX9_off_24 : decode cX9_off 24 = .ok (.invokevirtual 159, 3) := by decide +kernel
theorem dX9_off_27 : decode cX9_off 27 = .ok (.ireturn, 1) := by decide +kernel
set_option maxHeartbeats 4000000 in
set_option maxRecDepth 100000 in
theorem f_X9_off (l : Launch) (dC : Nat → ClassId) (dI : Nat → Nat → Nat) (h : Nat → Nat) (cs : Nat → ClassId) (sz : Nat) (I : Nat → Int32) (L : Nat → Int64) (A : Nat → Nat → Int32) (Q : Nat → Nat → Int64) (G : Nat → Nat → Nat → Int32) (J : Nat → Nat → Nat → Int64) (x : Int32) : Met l yX9_off wsX9_off ({ frames := 3, cells := 0, slots := 0, locals := 67 }) (va_Pc [.ref (h 100), .int x] (xPre (dC, dI) (wAll h cs fI fL fA fQ fG fJ) (tysA cs) sz)) (va_Qi (fun (r : Int32) (u : CS) => (r = an_off x) ∧ u = (fI, fL, fA, fQ, fG, fJ)) (xB (dC, dI) (tysA cs) (va_A (wAll h cs fI fL fA fQ fG fJ) sz) (fun u : CS => wAll h cs u.1 u.2.1 u.2.2.1 u.2.2.2.1 u.2.2.2.2.1 u.2.2.2.2.2)) (va_A (wAll h cs fI fL fA fQ fG fJ) sz)) 0 0 (va_A (wAll h cs fI fL fA fQ fG fJ) sz) := by
  refine Met.ofW (cc := cX9_off) (maxL := 2) (ret := (some .int)) (by decide) rfl ?_
  intro p e s m args below meth c s₁ B hml hv
  obtain ⟨rfl, hsz, hP, hK, hD0, hN⟩ := hv
  have hx := B.exec
  have hb := B.bytes
  have hr := B.returns
  have hts := atoms_spec (ws := wsX9_off) B.pre
  have hown : s.vm.findClass RX9 = some m.cls := findClass_of_methodNamed B.named
  have hlocks := B.notSynchronized
  subst hsz
  have hD := hD0.self (sz := s.heap.size)
  generalize hAe : va_A (wAll h cs fI fL fA fQ fG fJ) s.heap.size = A0 at hD ⊢
  have hA : ∀ q : Nat, s.heap.size ≤ q → A0 q := fun q h => by rw [← hAe]; exact Or.inr h
  have hl := lv_entry ([.ref (h 100), .int x]) (n := 2) (Nat.le_of_ble_eq_true rfl)
  rw [lg_entry_eq]
  generalize (lg_sl ([.ref (h 100), .int x]) ++ List.replicate (2 - (lg_sl ([.ref (h 100), .int x])).length) Slot.unset).toArray = ls at hl ⊢
  have hl : lv_has ls 2 [(0, .ref (h 100)), (1, .int x)] := hl
  generalize hH : s.heap = H at hP ⊢
  have hS : va_S A0 s.heap H [] := by rw [← hH]; exact va_S.rf
  have hinX9 : ∀ w ∈ wsX90, w ∈ wsX9_off := by decide +kernel
  rcases splR x 0 3 (by decide) with ⟨i_x, h_x, g_x, rfl⟩ | hz_x
  · skip
    rcases (show i_x = 0 ∨ i_x = 1 ∨ i_x = 2 ∨ i_x = 3 by omega) with rfl | rfl | rfl | rfl
    · skip
      refine lv_iload_n hx hb dX9_off_0 rfl (lv_at hl 1 rfl) ?_
      refine lv_if_lt (tgt := 15) hx hb dX9_off_1 (by decide) (fun c9 => False.elim (by revert c9; decide +kernel)) (fun _ => ?_)
      refine lv_iload_n hx hb dX9_off_4 rfl (lv_at hl 1 rfl) ?_
      refine lv_aload_n hx hb dX9_off_5 rfl (lv_at hl 0 rfl) ?_
      refine va_get (D := (dC, dI)) (ci := 9) (v := .ref (h 101)) (C := RX9) (T := TX9) (N := 9) hx hb hts hinX9 hown hK hP 0 rfl rfl 0 (by decide) (hts (.fieldLink RX9 12 "MixedWords" "mix" "LMixedWords$Mix;") (by decide +kernel)) (fun _ h9 => h9) rfl dX9_off_6 ?_
      refine xj_i (wc := (wD_32 h cs fI fL fA fQ fG fJ)) (wr := [(h 100, .inr (9, [.ref (h 101), .ref (h 102), .ref (h 103), .ref (h 104), .ref (h 105), .ref (h 106), .ref (h 107), .ref (h 108), .ref (h 109)])), (h 102, .inr (0, [.ref (h 101), .ref (h 140), .ref (h 141), .ref (h 142), .ref (h 143), .int (fI 144), .int (fI 145), .int (fI 146)])), (h 140, .inl (cs 0, 40, .inl (fA 140))), (h 141, .inl (cs 0, 40, .inl (fA 141))), (h 142, .inl (cs 0, 40, .inl (fA 142))), (h 143, .inl (cs 0, 40, .inl (fA 143))), (h 103, .inr (7, [.ref (h 150), .int (fI 151)])), (h 150, .inl (cs 2, 90, .inl (fA 150))), (h 104, .inr (4, [.ref (h 103), .ref (h 160), .int (fI 166), .int (fI 167), .int (fI 168), .int (fI 169)])), (h 160, .inl (cs 3, 5, .inr (.inr (.inr (.inr (fun i => if i < 5 then some (h (i + 161)) else none)))))), (h 161, .inl (cs 0, 4, .inl ((fG 1) 0))), (h 162, .inl (cs 0, 4, .inl ((fG 1) 1))), (h 163, .inl (cs 0, 4, .inl ((fG 1) 2))), (h 164, .inl (cs 0, 4, .inl ((fG 1) 3))), (h 165, .inl (cs 0, 4, .inl ((fG 1) 4))), (h 105, .inr (8, [.ref (h 101), .ref (h 170), .ref (h 171), .ref (h 172), .int (fI 173), .int (fI 174)])), (h 170, .inl (cs 0, 256, .inl (fA 170))), (h 171, .inl (cs 0, 256, .inl (fA 171))), (h 172, .inl (cs 0, 256, .inl (fA 172))), (h 106, .inr (2, [.ref (h 180), .ref (h 185), .ref (h 186), .ref (h 187), .long (fL 188)])), (h 180, .inl (cs 4, 4, .inr (.inr (.inr (.inr (fun i => if i < 4 then some (h (i + 181)) else none)))))), (h 181, .inl (cs 1, 4, .inr (.inl ((fJ 0) 0)))), (h 182, .inl (cs 1, 4, .inr (.inl ((fJ 0) 1)))), (h 183, .inl (cs 1, 4, .inr (.inl ((fJ 0) 2)))), (h 184, .inl (cs 1, 4, .inr (.inl ((fJ 0) 3)))), (h 185, .inl (cs 1, 4, .inr (.inl (fQ 185)))), (h 186, .inl (cs 0, 4, .inl (fA 186))), (h 187, .inl (cs 1, 4, .inr (.inl (fQ 187)))), (h 107, .inr (6, [.ref (h 101), .ref (h 190), .ref (h 191), .ref (h 192)])), (h 190, .inl (cs 0, 5, .inl (fA 190))), (h 191, .inl (cs 0, 4, .inl (fA 191))), (h 192, .inl (cs 0, 4, .inl (fA 192))), (h 108, .inr (1, [.ref (h 101), .ref (h 200), .ref (h 206), .ref (h 211), .int (fI 212), .int (fI 213)])), (h 200, .inl (cs 3, 5, .inr (.inr (.inr (.inr (fun i => if i < 5 then some (h (i + 201)) else none)))))), (h 201, .inl (cs 0, 4, .inl ((fG 2) 0))), (h 202, .inl (cs 0, 4, .inl ((fG 2) 1))), (h 203, .inl (cs 0, 4, .inl ((fG 2) 2))), (h 204, .inl (cs 0, 4, .inl ((fG 2) 3))), (h 205, .inl (cs 0, 4, .inl ((fG 2) 4))), (h 206, .inl (cs 3, 4, .inr (.inr (.inr (.inr (fun i => if i < 4 then some (h (i + 207)) else none)))))), (h 207, .inl (cs 0, 4, .inl ((fG 3) 0))), (h 208, .inl (cs 0, 4, .inl ((fG 3) 1))), (h 209, .inl (cs 0, 4, .inl ((fG 3) 2))), (h 210, .inl (cs 0, 4, .inl ((fG 3) 3))), (h 211, .inl (cs 0, 5, .inl (fA 211))), (h 109, .inl (cs 5, 4, .inr (.inr (.inr (.inr (fun i => if i < 4 then some (h (i + 110)) else none)))))), (h 110, .inr (5, [.int (fI 220), .int (fI 224), .ref (h 228)])), (h 228, .inl (cs 1, 25, .inr (.inl (fQ 228)))), (h 111, .inr (5, [.int (fI 221), .int (fI 225), .ref (h 229)])), (h 229, .inl (cs 1, 25, .inr (.inl (fQ 229)))), (h 112, .inr (5, [.int (fI 222), .int (fI 226), .ref (h 230)])), (h 230, .inl (cs 1, 25, .inr (.inl (fQ 230)))), (h 113, .inr (5, [.int (fI 223), .int (fI 227), .ref (h 231)])), (h 231, .inl (cs 1, 25, .inr (.inl (fQ 231))))]) hP hD hS hA [1, 2, 3, 4, 5, 6, 7, 8] [0, 9, 10, 11, 12, 13, 14, 15, 16, 17, 18, 19, 20, 21, 22, 23, 24, 25, 26, 27, 28, 29, 30, 31, 32, 33, 34, 35, 36, 37, 38, 39, 40, 41, 42, 43, 44, 45, 46, 47, 48, 49, 50, 51, 52, 53, 54, 55, 56, 57, 58, 59, 60, 61] rfl rfl (by decide) (by decide) (va_runV (As := []) (rest := [.int (nI 0)]) ⟨hx, hb, hml, hown, hts⟩ (a_X3_wordCount_58 l dC dI h cs H.size fI fL fA fQ fG fJ ) (cwV 0 hts gX9_off_X3_wordCount rfl rfl rfl (by decide +kernel) ⟨Nat.le_of_ble_eq_true rfl, Nat.le_of_ble_eq_true rfl⟩) (xpV (wc := (wD_32 h cs fI fL fA fQ fG fJ)) hP hD hK hN [1, 2, 3, 4, 5, 6, 7, 8] rfl (by decide) 1 (ci := 3) rfl rfl _) rfl rfl hl.1 rfl (lv_room (Nat.le_of_ble_eq_true rfl)) dX9_off_9 ⟨Nat.zero_le _, Nat.zero_le _⟩) (fun r_2 u_1 H locs hw hP hD hS => ?_)
      obtain ⟨hf_3, rfl⟩ := hw
      have hP : va_P (dC, dI) vwCl (wAll h cs fI fL fA fQ fG fJ) H := xP_sub hP [0, 54, 55, 56, 57, 58, 59, 60, 61, 1, 2, 3, 4, 5, 6, 7, 8, 9, 10, 11, 12, 13, 14, 15, 16, 17, 18, 19, 20, 21, 22, 23, 24, 25, 26, 27, 28, 29, 30, 31, 32, 33, 34, 35, 36, 37, 38, 39, 40, 41, 42, 43, 44, 45, 46, 47, 48, 49, 50, 51, 52, 53] rfl
      have hD : va_D A0 (wAll h cs fI fL fA fQ fG fJ) := hD.sub [0, 54, 55, 56, 57, 58, 59, 60, 61, 1, 2, 3, 4, 5, 6, 7, 8, 9, 10, 11, 12, 13, 14, 15, 16, 17, 18, 19, 20, 21, 22, 23, 24, 25, 26, 27, 28, 29, 30, 31, 32, 33, 34, 35, 36, 37, 38, 39, 40, 41, 42, 43, 44, 45, 46, 47, 48, 49, 50, 51, 52, 53] (by decide) rfl
      obtain rfl := hf_3
      refine lv_icmp_lt (tgt := 19) hx hb dX9_off_12 (by decide) (fun _ => ?_) (fun c9 => False.elim (by revert c9; decide +kernel))
      refine lv_aload_n hx hb dX9_off_19 rfl (lv_at hl 0 rfl) ?_
      refine va_get (D := (dC, dI)) (ci := 9) (v := .ref (h 105)) (C := RX9) (T := TX9) (N := 9) hx hb hts hinX9 hown hK hP 0 rfl rfl 4 (by decide) (hts (.fieldLink RX9 44 "MixedWords" "words" "LMixedWords$Words;") (by decide +kernel)) (fun _ h9 => h9) rfl dX9_off_20 ?_
      refine lv_iload_n hx hb dX9_off_23 rfl (lv_at hl 1 rfl) ?_
      refine xj_i (wc := (wD_60 h cs fI fL fA fQ fG fJ)) (wr := [(h 100, .inr (9, [.ref (h 101), .ref (h 102), .ref (h 103), .ref (h 104), .ref (h 105), .ref (h 106), .ref (h 107), .ref (h 108), .ref (h 109)])), (h 102, .inr (0, [.ref (h 101), .ref (h 140), .ref (h 141), .ref (h 142), .ref (h 143), .int (fI 144), .int (fI 145), .int (fI 146)])), (h 140, .inl (cs 0, 40, .inl (fA 140))), (h 141, .inl (cs 0, 40, .inl (fA 141))), (h 142, .inl (cs 0, 40, .inl (fA 142))), (h 143, .inl (cs 0, 40, .inl (fA 143))), (h 103, .inr (7, [.ref (h 150), .int (fI 151)])), (h 150, .inl (cs 2, 90, .inl (fA 150))), (h 104, .inr (4, [.ref (h 103), .ref (h 160), .int (fI 166), .int (fI 167), .int (fI 168), .int (fI 169)])), (h 160, .inl (cs 3, 5, .inr (.inr (.inr (.inr (fun i => if i < 5 then some (h (i + 161)) else none)))))), (h 161, .inl (cs 0, 4, .inl ((fG 1) 0))), (h 162, .inl (cs 0, 4, .inl ((fG 1) 1))), (h 163, .inl (cs 0, 4, .inl ((fG 1) 2))), (h 164, .inl (cs 0, 4, .inl ((fG 1) 3))), (h 165, .inl (cs 0, 4, .inl ((fG 1) 4))), (h 106, .inr (2, [.ref (h 180), .ref (h 185), .ref (h 186), .ref (h 187), .long (fL 188)])), (h 180, .inl (cs 4, 4, .inr (.inr (.inr (.inr (fun i => if i < 4 then some (h (i + 181)) else none)))))), (h 181, .inl (cs 1, 4, .inr (.inl ((fJ 0) 0)))), (h 182, .inl (cs 1, 4, .inr (.inl ((fJ 0) 1)))), (h 183, .inl (cs 1, 4, .inr (.inl ((fJ 0) 2)))), (h 184, .inl (cs 1, 4, .inr (.inl ((fJ 0) 3)))), (h 185, .inl (cs 1, 4, .inr (.inl (fQ 185)))), (h 186, .inl (cs 0, 4, .inl (fA 186))), (h 187, .inl (cs 1, 4, .inr (.inl (fQ 187)))), (h 107, .inr (6, [.ref (h 101), .ref (h 190), .ref (h 191), .ref (h 192)])), (h 190, .inl (cs 0, 5, .inl (fA 190))), (h 191, .inl (cs 0, 4, .inl (fA 191))), (h 192, .inl (cs 0, 4, .inl (fA 192))), (h 108, .inr (1, [.ref (h 101), .ref (h 200), .ref (h 206), .ref (h 211), .int (fI 212), .int (fI 213)])), (h 200, .inl (cs 3, 5, .inr (.inr (.inr (.inr (fun i => if i < 5 then some (h (i + 201)) else none)))))), (h 201, .inl (cs 0, 4, .inl ((fG 2) 0))), (h 202, .inl (cs 0, 4, .inl ((fG 2) 1))), (h 203, .inl (cs 0, 4, .inl ((fG 2) 2))), (h 204, .inl (cs 0, 4, .inl ((fG 2) 3))), (h 205, .inl (cs 0, 4, .inl ((fG 2) 4))), (h 206, .inl (cs 3, 4, .inr (.inr (.inr (.inr (fun i => if i < 4 then some (h (i + 207)) else none)))))), (h 207, .inl (cs 0, 4, .inl ((fG 3) 0))), (h 208, .inl (cs 0, 4, .inl ((fG 3) 1))), (h 209, .inl (cs 0, 4, .inl ((fG 3) 2))), (h 210, .inl (cs 0, 4, .inl ((fG 3) 3))), (h 211, .inl (cs 0, 5, .inl (fA 211))), (h 109, .inl (cs 5, 4, .inr (.inr (.inr (.inr (fun i => if i < 4 then some (h (i + 110)) else none)))))), (h 110, .inr (5, [.int (fI 220), .int (fI 224), .ref (h 228)])), (h 228, .inl (cs 1, 25, .inr (.inl (fQ 228)))), (h 111, .inr (5, [.int (fI 221), .int (fI 225), .ref (h 229)])), (h 229, .inl (cs 1, 25, .inr (.inl (fQ 229)))), (h 112, .inr (5, [.int (fI 222), .int (fI 226), .ref (h 230)])), (h 230, .inl (cs 1, 25, .inr (.inl (fQ 230)))), (h 113, .inr (5, [.int (fI 223), .int (fI 227), .ref (h 231)])), (h 231, .inl (cs 1, 25, .inr (.inl (fQ 231))))]) hP hD hS hA [23, 1, 2, 3, 4, 5, 6, 7, 8, 24, 25, 26] [0, 9, 10, 11, 12, 13, 14, 15, 16, 17, 18, 19, 20, 21, 22, 27, 28, 29, 30, 31, 32, 33, 34, 35, 36, 37, 38, 39, 40, 41, 42, 43, 44, 45, 46, 47, 48, 49, 50, 51, 52, 53, 54, 55, 56, 57, 58, 59, 60, 61] rfl rfl (by decide) (by decide) (va_runV (As := [.int (nI 0)]) (rest := []) ⟨hx, hb, hml, hown, hts⟩ (a_X8_offOf_61 l dC dI h cs H.size fI fL fA fQ fG fJ ) (cwV 1 hts gX9_off_X8_offOf rfl rfl rfl (by decide +kernel) ⟨Nat.le_of_ble_eq_true rfl, Nat.le_of_ble_eq_true rfl⟩) (xpV (wc := (wD_60 h cs fI fL fA fQ fG fJ)) hP hD hK hN [23, 1, 2, 3, 4, 5, 6, 7, 8, 24, 25, 26] rfl (by decide) 23 (ci := 8) rfl rfl _) rfl rfl hl.1 rfl (lv_room (Nat.le_of_ble_eq_true rfl)) dX9_off_24 ⟨Nat.zero_le _, Nat.zero_le _⟩) (fun r_5 u_4 H locs hw hP hD hS => ?_)
      obtain ⟨hf_6, rfl⟩ := hw
      have hP : va_P (dC, dI) vwCl (wAll h cs fI fL fA fQ fG fJ) H := xP_sub hP [0, 51, 52, 53, 54, 55, 56, 57, 58, 1, 2, 3, 4, 5, 6, 7, 8, 9, 10, 11, 12, 13, 14, 50, 59, 60, 61, 15, 16, 17, 18, 19, 20, 21, 22, 23, 24, 25, 26, 27, 28, 29, 30, 31, 32, 33, 34, 35, 36, 37, 38, 39, 40, 41, 42, 43, 44, 45, 46, 47, 48, 49] rfl
      have hD : va_D A0 (wAll h cs fI fL fA fQ fG fJ) := hD.sub [0, 51, 52, 53, 54, 55, 56, 57, 58, 1, 2, 3, 4, 5, 6, 7, 8, 9, 10, 11, 12, 13, 14, 50, 59, 60, 61, 15, 16, 17, 18, 19, 20, 21, 22, 23, 24, 25, 26, 27, 28, 29, 30, 31, 32, 33, 34, 35, 36, 37, 38, 39, 40, 41, 42, 43, 44, 45, 46, 47, 48, 49] (by decide) rfl
      obtain rfl := hf_6
      exact xr_i (v := (nI 0)) hx hb hr hlocks hK hS dX9_off_27 (fI, fL, fA, fQ, fG, fJ) ⟨(by decide +kernel), rfl⟩ hP hD
    · skip
      refine lv_iload_n hx hb dX9_off_0 rfl (lv_at hl 1 rfl) ?_
      refine lv_if_lt (tgt := 15) hx hb dX9_off_1 (by decide) (fun c9 => False.elim (by revert c9; decide +kernel)) (fun _ => ?_)
      refine lv_iload_n hx hb dX9_off_4 rfl (lv_at hl 1 rfl) ?_
      refine lv_aload_n hx hb dX9_off_5 rfl (lv_at hl 0 rfl) ?_
      refine va_get (D := (dC, dI)) (ci := 9) (v := .ref (h 101)) (C := RX9) (T := TX9) (N := 9) hx hb hts hinX9 hown hK hP 0 rfl rfl 0 (by decide) (hts (.fieldLink RX9 12 "MixedWords" "mix" "LMixedWords$Mix;") (by decide +kernel)) (fun _ h9 => h9) rfl dX9_off_6 ?_
      refine xj_i (wc := (wD_32 h cs fI fL fA fQ fG fJ)) (wr := [(h 100, .inr (9, [.ref (h 101), .ref (h 102), .ref (h 103), .ref (h 104), .ref (h 105), .ref (h 106), .ref (h 107), .ref (h 108), .ref (h 109)])), (h 102, .inr (0, [.ref (h 101), .ref (h 140), .ref (h 141), .ref (h 142), .ref (h 143), .int (fI 144), .int (fI 145), .int (fI 146)])), (h 140, .inl (cs 0, 40, .inl (fA 140))), (h 141, .inl (cs 0, 40, .inl (fA 141))), (h 142, .inl (cs 0, 40, .inl (fA 142))), (h 143, .inl (cs 0, 40, .inl (fA 143))), (h 103, .inr (7, [.ref (h 150), .int (fI 151)])), (h 150, .inl (cs 2, 90, .inl (fA 150))), (h 104, .inr (4, [.ref (h 103), .ref (h 160), .int (fI 166), .int (fI 167), .int (fI 168), .int (fI 169)])), (h 160, .inl (cs 3, 5, .inr (.inr (.inr (.inr (fun i => if i < 5 then some (h (i + 161)) else none)))))), (h 161, .inl (cs 0, 4, .inl ((fG 1) 0))), (h 162, .inl (cs 0, 4, .inl ((fG 1) 1))), (h 163, .inl (cs 0, 4, .inl ((fG 1) 2))), (h 164, .inl (cs 0, 4, .inl ((fG 1) 3))), (h 165, .inl (cs 0, 4, .inl ((fG 1) 4))), (h 105, .inr (8, [.ref (h 101), .ref (h 170), .ref (h 171), .ref (h 172), .int (fI 173), .int (fI 174)])), (h 170, .inl (cs 0, 256, .inl (fA 170))), (h 171, .inl (cs 0, 256, .inl (fA 171))), (h 172, .inl (cs 0, 256, .inl (fA 172))), (h 106, .inr (2, [.ref (h 180), .ref (h 185), .ref (h 186), .ref (h 187), .long (fL 188)])), (h 180, .inl (cs 4, 4, .inr (.inr (.inr (.inr (fun i => if i < 4 then some (h (i + 181)) else none)))))), (h 181, .inl (cs 1, 4, .inr (.inl ((fJ 0) 0)))), (h 182, .inl (cs 1, 4, .inr (.inl ((fJ 0) 1)))), (h 183, .inl (cs 1, 4, .inr (.inl ((fJ 0) 2)))), (h 184, .inl (cs 1, 4, .inr (.inl ((fJ 0) 3)))), (h 185, .inl (cs 1, 4, .inr (.inl (fQ 185)))), (h 186, .inl (cs 0, 4, .inl (fA 186))), (h 187, .inl (cs 1, 4, .inr (.inl (fQ 187)))), (h 107, .inr (6, [.ref (h 101), .ref (h 190), .ref (h 191), .ref (h 192)])), (h 190, .inl (cs 0, 5, .inl (fA 190))), (h 191, .inl (cs 0, 4, .inl (fA 191))), (h 192, .inl (cs 0, 4, .inl (fA 192))), (h 108, .inr (1, [.ref (h 101), .ref (h 200), .ref (h 206), .ref (h 211), .int (fI 212), .int (fI 213)])), (h 200, .inl (cs 3, 5, .inr (.inr (.inr (.inr (fun i => if i < 5 then some (h (i + 201)) else none)))))), (h 201, .inl (cs 0, 4, .inl ((fG 2) 0))), (h 202, .inl (cs 0, 4, .inl ((fG 2) 1))), (h 203, .inl (cs 0, 4, .inl ((fG 2) 2))), (h 204, .inl (cs 0, 4, .inl ((fG 2) 3))), (h 205, .inl (cs 0, 4, .inl ((fG 2) 4))), (h 206, .inl (cs 3, 4, .inr (.inr (.inr (.inr (fun i => if i < 4 then some (h (i + 207)) else none)))))), (h 207, .inl (cs 0, 4, .inl ((fG 3) 0))), (h 208, .inl (cs 0, 4, .inl ((fG 3) 1))), (h 209, .inl (cs 0, 4, .inl ((fG 3) 2))), (h 210, .inl (cs 0, 4, .inl ((fG 3) 3))), (h 211, .inl (cs 0, 5, .inl (fA 211))), (h 109, .inl (cs 5, 4, .inr (.inr (.inr (.inr (fun i => if i < 4 then some (h (i + 110)) else none)))))), (h 110, .inr (5, [.int (fI 220), .int (fI 224), .ref (h 228)])), (h 228, .inl (cs 1, 25, .inr (.inl (fQ 228)))), (h 111, .inr (5, [.int (fI 221), .int (fI 225), .ref (h 229)])), (h 229, .inl (cs 1, 25, .inr (.inl (fQ 229)))), (h 112, .inr (5, [.int (fI 222), .int (fI 226), .ref (h 230)])), (h 230, .inl (cs 1, 25, .inr (.inl (fQ 230)))), (h 113, .inr (5, [.int (fI 223), .int (fI 227), .ref (h 231)])), (h 231, .inl (cs 1, 25, .inr (.inl (fQ 231))))]) hP hD hS hA [1, 2, 3, 4, 5, 6, 7, 8] [0, 9, 10, 11, 12, 13, 14, 15, 16, 17, 18, 19, 20, 21, 22, 23, 24, 25, 26, 27, 28, 29, 30, 31, 32, 33, 34, 35, 36, 37, 38, 39, 40, 41, 42, 43, 44, 45, 46, 47, 48, 49, 50, 51, 52, 53, 54, 55, 56, 57, 58, 59, 60, 61] rfl rfl (by decide) (by decide) (va_runV (As := []) (rest := [.int (nI 1)]) ⟨hx, hb, hml, hown, hts⟩ (a_X3_wordCount_58 l dC dI h cs H.size fI fL fA fQ fG fJ ) (cwV 0 hts gX9_off_X3_wordCount rfl rfl rfl (by decide +kernel) ⟨Nat.le_of_ble_eq_true rfl, Nat.le_of_ble_eq_true rfl⟩) (xpV (wc := (wD_32 h cs fI fL fA fQ fG fJ)) hP hD hK hN [1, 2, 3, 4, 5, 6, 7, 8] rfl (by decide) 1 (ci := 3) rfl rfl _) rfl rfl hl.1 rfl (lv_room (Nat.le_of_ble_eq_true rfl)) dX9_off_9 ⟨Nat.zero_le _, Nat.zero_le _⟩) (fun r_8 u_7 H locs hw hP hD hS => ?_)
      obtain ⟨hf_9, rfl⟩ := hw
      have hP : va_P (dC, dI) vwCl (wAll h cs fI fL fA fQ fG fJ) H := xP_sub hP [0, 54, 55, 56, 57, 58, 59, 60, 61, 1, 2, 3, 4, 5, 6, 7, 8, 9, 10, 11, 12, 13, 14, 15, 16, 17, 18, 19, 20, 21, 22, 23, 24, 25, 26, 27, 28, 29, 30, 31, 32, 33, 34, 35, 36, 37, 38, 39, 40, 41, 42, 43, 44, 45, 46, 47, 48, 49, 50, 51, 52, 53] rfl
      have hD : va_D A0 (wAll h cs fI fL fA fQ fG fJ) := hD.sub [0, 54, 55, 56, 57, 58, 59, 60, 61, 1, 2, 3, 4, 5, 6, 7, 8, 9, 10, 11, 12, 13, 14, 15, 16, 17, 18, 19, 20, 21, 22, 23, 24, 25, 26, 27, 28, 29, 30, 31, 32, 33, 34, 35, 36, 37, 38, 39, 40, 41, 42, 43, 44, 45, 46, 47, 48, 49, 50, 51, 52, 53] (by decide) rfl
      obtain rfl := hf_9
      refine lv_icmp_lt (tgt := 19) hx hb dX9_off_12 (by decide) (fun _ => ?_) (fun c9 => False.elim (by revert c9; decide +kernel))
      refine lv_aload_n hx hb dX9_off_19 rfl (lv_at hl 0 rfl) ?_
      refine va_get (D := (dC, dI)) (ci := 9) (v := .ref (h 105)) (C := RX9) (T := TX9) (N := 9) hx hb hts hinX9 hown hK hP 0 rfl rfl 4 (by decide) (hts (.fieldLink RX9 44 "MixedWords" "words" "LMixedWords$Words;") (by decide +kernel)) (fun _ h9 => h9) rfl dX9_off_20 ?_
      refine lv_iload_n hx hb dX9_off_23 rfl (lv_at hl 1 rfl) ?_
      refine xj_i (wc := (wD_60 h cs fI fL fA fQ fG fJ)) (wr := [(h 100, .inr (9, [.ref (h 101), .ref (h 102), .ref (h 103), .ref (h 104), .ref (h 105), .ref (h 106), .ref (h 107), .ref (h 108), .ref (h 109)])), (h 102, .inr (0, [.ref (h 101), .ref (h 140), .ref (h 141), .ref (h 142), .ref (h 143), .int (fI 144), .int (fI 145), .int (fI 146)])), (h 140, .inl (cs 0, 40, .inl (fA 140))), (h 141, .inl (cs 0, 40, .inl (fA 141))), (h 142, .inl (cs 0, 40, .inl (fA 142))), (h 143, .inl (cs 0, 40, .inl (fA 143))), (h 103, .inr (7, [.ref (h 150), .int (fI 151)])), (h 150, .inl (cs 2, 90, .inl (fA 150))), (h 104, .inr (4, [.ref (h 103), .ref (h 160), .int (fI 166), .int (fI 167), .int (fI 168), .int (fI 169)])), (h 160, .inl (cs 3, 5, .inr (.inr (.inr (.inr (fun i => if i < 5 then some (h (i + 161)) else none)))))), (h 161, .inl (cs 0, 4, .inl ((fG 1) 0))), (h 162, .inl (cs 0, 4, .inl ((fG 1) 1))), (h 163, .inl (cs 0, 4, .inl ((fG 1) 2))), (h 164, .inl (cs 0, 4, .inl ((fG 1) 3))), (h 165, .inl (cs 0, 4, .inl ((fG 1) 4))), (h 106, .inr (2, [.ref (h 180), .ref (h 185), .ref (h 186), .ref (h 187), .long (fL 188)])), (h 180, .inl (cs 4, 4, .inr (.inr (.inr (.inr (fun i => if i < 4 then some (h (i + 181)) else none)))))), (h 181, .inl (cs 1, 4, .inr (.inl ((fJ 0) 0)))), (h 182, .inl (cs 1, 4, .inr (.inl ((fJ 0) 1)))), (h 183, .inl (cs 1, 4, .inr (.inl ((fJ 0) 2)))), (h 184, .inl (cs 1, 4, .inr (.inl ((fJ 0) 3)))), (h 185, .inl (cs 1, 4, .inr (.inl (fQ 185)))), (h 186, .inl (cs 0, 4, .inl (fA 186))), (h 187, .inl (cs 1, 4, .inr (.inl (fQ 187)))), (h 107, .inr (6, [.ref (h 101), .ref (h 190), .ref (h 191), .ref (h 192)])), (h 190, .inl (cs 0, 5, .inl (fA 190))), (h 191, .inl (cs 0, 4, .inl (fA 191))), (h 192, .inl (cs 0, 4, .inl (fA 192))), (h 108, .inr (1, [.ref (h 101), .ref (h 200), .ref (h 206), .ref (h 211), .int (fI 212), .int (fI 213)])), (h 200, .inl (cs 3, 5, .inr (.inr (.inr (.inr (fun i => if i < 5 then some (h (i + 201)) else none)))))), (h 201, .inl (cs 0, 4, .inl ((fG 2) 0))), (h 202, .inl (cs 0, 4, .inl ((fG 2) 1))), (h 203, .inl (cs 0, 4, .inl ((fG 2) 2))), (h 204, .inl (cs 0, 4, .inl ((fG 2) 3))), (h 205, .inl (cs 0, 4, .inl ((fG 2) 4))), (h 206, .inl (cs 3, 4, .inr (.inr (.inr (.inr (fun i => if i < 4 then some (h (i + 207)) else none)))))), (h 207, .inl (cs 0, 4, .inl ((fG 3) 0))), (h 208, .inl (cs 0, 4, .inl ((fG 3) 1))), (h 209, .inl (cs 0, 4, .inl ((fG 3) 2))), (h 210, .inl (cs 0, 4, .inl ((fG 3) 3))), (h 211, .inl (cs 0, 5, .inl (fA 211))), (h 109, .inl (cs 5, 4, .inr (.inr (.inr (.inr (fun i => if i < 4 then some (h (i + 110)) else none)))))), (h 110, .inr (5, [.int (fI 220), .int (fI 224), .ref (h 228)])), (h 228, .inl (cs 1, 25, .inr (.inl (fQ 228)))), (h 111, .inr (5, [.int (fI 221), .int (fI 225), .ref (h 229)])), (h 229, .inl (cs 1, 25, .inr (.inl (fQ 229)))), (h 112, .inr (5, [.int (fI 222), .int (fI 226), .ref (h 230)])), (h 230, .inl (cs 1, 25, .inr (.inl (fQ 230)))), (h 113, .inr (5, [.int (fI 223), .int (fI 227), .ref (h 231)])), (h 231, .inl (cs 1, 25, .inr (.inl (fQ 231))))]) hP hD hS hA [23, 1, 2, 3, 4, 5, 6, 7, 8, 24, 25, 26] [0, 9, 10, 11, 12, 13, 14, 15, 16, 17, 18, 19, 20, 21, 22, 27, 28, 29, 30, 31, 32, 33, 34, 35, 36, 37, 38, 39, 40, 41, 42, 43, 44, 45, 46, 47, 48, 49, 50, 51, 52, 53, 54, 55, 56, 57, 58, 59, 60, 61] rfl rfl (by decide) (by decide) (va_runV (As := [.int (nI 1)]) (rest := []) ⟨hx, hb, hml, hown, hts⟩ (a_X8_offOf_64 l dC dI h cs H.size fI fL fA fQ fG fJ ) (cwV 1 hts gX9_off_X8_offOf rfl rfl rfl (by decide +kernel) ⟨Nat.le_of_ble_eq_true rfl, Nat.le_of_ble_eq_true rfl⟩) (xpV (wc := (wD_60 h cs fI fL fA fQ fG fJ)) hP hD hK hN [23, 1, 2, 3, 4, 5, 6, 7, 8, 24, 25, 26] rfl (by decide) 23 (ci := 8) rfl rfl _) rfl rfl hl.1 rfl (lv_room (Nat.le_of_ble_eq_true rfl)) dX9_off_24 ⟨Nat.zero_le _, Nat.zero_le _⟩) (fun r_11 u_10 H locs hw hP hD hS => ?_)
      obtain ⟨hf_12, rfl⟩ := hw
      have hP : va_P (dC, dI) vwCl (wAll h cs fI fL fA fQ fG fJ) H := xP_sub hP [0, 51, 52, 53, 54, 55, 56, 57, 58, 1, 2, 3, 4, 5, 6, 7, 8, 9, 10, 11, 12, 13, 14, 50, 59, 60, 61, 15, 16, 17, 18, 19, 20, 21, 22, 23, 24, 25, 26, 27, 28, 29, 30, 31, 32, 33, 34, 35, 36, 37, 38, 39, 40, 41, 42, 43, 44, 45, 46, 47, 48, 49] rfl
      have hD : va_D A0 (wAll h cs fI fL fA fQ fG fJ) := hD.sub [0, 51, 52, 53, 54, 55, 56, 57, 58, 1, 2, 3, 4, 5, 6, 7, 8, 9, 10, 11, 12, 13, 14, 50, 59, 60, 61, 15, 16, 17, 18, 19, 20, 21, 22, 23, 24, 25, 26, 27, 28, 29, 30, 31, 32, 33, 34, 35, 36, 37, 38, 39, 40, 41, 42, 43, 44, 45, 46, 47, 48, 49] (by decide) rfl
      obtain rfl := hf_12
      exact xr_i (v := (nI 0)) hx hb hr hlocks hK hS dX9_off_27 (fI, fL, fA, fQ, fG, fJ) ⟨(by decide +kernel), rfl⟩ hP hD
    · skip
      refine lv_iload_n hx hb dX9_off_0 rfl (lv_at hl 1 rfl) ?_
      refine lv_if_lt (tgt := 15) hx hb dX9_off_1 (by decide) (fun c9 => False.elim (by revert c9; decide +kernel)) (fun _ => ?_)
      refine lv_iload_n hx hb dX9_off_4 rfl (lv_at hl 1 rfl) ?_
      refine lv_aload_n hx hb dX9_off_5 rfl (lv_at hl 0 rfl) ?_
      refine va_get (D := (dC, dI)) (ci := 9) (v := .ref (h 101)) (C := RX9) (T := TX9) (N := 9) hx hb hts hinX9 hown hK hP 0 rfl rfl 0 (by decide) (hts (.fieldLink RX9 12 "MixedWords" "mix" "LMixedWords$Mix;") (by decide +kernel)) (fun _ h9 => h9) rfl dX9_off_6 ?_
      refine xj_i (wc := (wD_32 h cs fI fL fA fQ fG fJ)) (wr := [(h 100, .inr (9, [.ref (h 101), .ref (h 102), .ref (h 103), .ref (h 104), .ref (h 105), .ref (h 106), .ref (h 107), .ref (h 108), .ref (h 109)])), (h 102, .inr (0, [.ref (h 101), .ref (h 140), .ref (h 141), .ref (h 142), .ref (h 143), .int (fI 144), .int (fI 145), .int (fI 146)])), (h 140, .inl (cs 0, 40, .inl (fA 140))), (h 141, .inl (cs 0, 40, .inl (fA 141))), (h 142, .inl (cs 0, 40, .inl (fA 142))), (h 143, .inl (cs 0, 40, .inl (fA 143))), (h 103, .inr (7, [.ref (h 150), .int (fI 151)])), (h 150, .inl (cs 2, 90, .inl (fA 150))), (h 104, .inr (4, [.ref (h 103), .ref (h 160), .int (fI 166), .int (fI 167), .int (fI 168), .int (fI 169)])), (h 160, .inl (cs 3, 5, .inr (.inr (.inr (.inr (fun i => if i < 5 then some (h (i + 161)) else none)))))), (h 161, .inl (cs 0, 4, .inl ((fG 1) 0))), (h 162, .inl (cs 0, 4, .inl ((fG 1) 1))), (h 163, .inl (cs 0, 4, .inl ((fG 1) 2))), (h 164, .inl (cs 0, 4, .inl ((fG 1) 3))), (h 165, .inl (cs 0, 4, .inl ((fG 1) 4))), (h 105, .inr (8, [.ref (h 101), .ref (h 170), .ref (h 171), .ref (h 172), .int (fI 173), .int (fI 174)])), (h 170, .inl (cs 0, 256, .inl (fA 170))), (h 171, .inl (cs 0, 256, .inl (fA 171))), (h 172, .inl (cs 0, 256, .inl (fA 172))), (h 106, .inr (2, [.ref (h 180), .ref (h 185), .ref (h 186), .ref (h 187), .long (fL 188)])), (h 180, .inl (cs 4, 4, .inr (.inr (.inr (.inr (fun i => if i < 4 then some (h (i + 181)) else none)))))), (h 181, .inl (cs 1, 4, .inr (.inl ((fJ 0) 0)))), (h 182, .inl (cs 1, 4, .inr (.inl ((fJ 0) 1)))), (h 183, .inl (cs 1, 4, .inr (.inl ((fJ 0) 2)))), (h 184, .inl (cs 1, 4, .inr (.inl ((fJ 0) 3)))), (h 185, .inl (cs 1, 4, .inr (.inl (fQ 185)))), (h 186, .inl (cs 0, 4, .inl (fA 186))), (h 187, .inl (cs 1, 4, .inr (.inl (fQ 187)))), (h 107, .inr (6, [.ref (h 101), .ref (h 190), .ref (h 191), .ref (h 192)])), (h 190, .inl (cs 0, 5, .inl (fA 190))), (h 191, .inl (cs 0, 4, .inl (fA 191))), (h 192, .inl (cs 0, 4, .inl (fA 192))), (h 108, .inr (1, [.ref (h 101), .ref (h 200), .ref (h 206), .ref (h 211), .int (fI 212), .int (fI 213)])), (h 200, .inl (cs 3, 5, .inr (.inr (.inr (.inr (fun i => if i < 5 then some (h (i + 201)) else none)))))), (h 201, .inl (cs 0, 4, .inl ((fG 2) 0))), (h 202, .inl (cs 0, 4, .inl ((fG 2) 1))), (h 203, .inl (cs 0, 4, .inl ((fG 2) 2))), (h 204, .inl (cs 0, 4, .inl ((fG 2) 3))), (h 205, .inl (cs 0, 4, .inl ((fG 2) 4))), (h 206, .inl (cs 3, 4, .inr (.inr (.inr (.inr (fun i => if i < 4 then some (h (i + 207)) else none)))))), (h 207, .inl (cs 0, 4, .inl ((fG 3) 0))), (h 208, .inl (cs 0, 4, .inl ((fG 3) 1))), (h 209, .inl (cs 0, 4, .inl ((fG 3) 2))), (h 210, .inl (cs 0, 4, .inl ((fG 3) 3))), (h 211, .inl (cs 0, 5, .inl (fA 211))), (h 109, .inl (cs 5, 4, .inr (.inr (.inr (.inr (fun i => if i < 4 then some (h (i + 110)) else none)))))), (h 110, .inr (5, [.int (fI 220), .int (fI 224), .ref (h 228)])), (h 228, .inl (cs 1, 25, .inr (.inl (fQ 228)))), (h 111, .inr (5, [.int (fI 221), .int (fI 225), .ref (h 229)])), (h 229, .inl (cs 1, 25, .inr (.inl (fQ 229)))), (h 112, .inr (5, [.int (fI 222), .int (fI 226), .ref (h 230)])), (h 230, .inl (cs 1, 25, .inr (.inl (fQ 230)))), (h 113, .inr (5, [.int (fI 223), .int (fI 227), .ref (h 231)])), (h 231, .inl (cs 1, 25, .inr (.inl (fQ 231))))]) hP hD hS hA [1, 2, 3, 4, 5, 6, 7, 8] [0, 9, 10, 11, 12, 13, 14, 15, 16, 17, 18, 19, 20, 21, 22, 23, 24, 25, 26, 27, 28, 29, 30, 31, 32, 33, 34, 35, 36, 37, 38, 39, 40, 41, 42, 43, 44, 45, 46, 47, 48, 49, 50, 51, 52, 53, 54, 55, 56, 57, 58, 59, 60, 61] rfl rfl (by decide) (by decide) (va_runV (As := []) (rest := [.int (nI 2)]) ⟨hx, hb, hml, hown, hts⟩ (a_X3_wordCount_58 l dC dI h cs H.size fI fL fA fQ fG fJ ) (cwV 0 hts gX9_off_X3_wordCount rfl rfl rfl (by decide +kernel) ⟨Nat.le_of_ble_eq_true rfl, Nat.le_of_ble_eq_true rfl⟩) (xpV (wc := (wD_32 h cs fI fL fA fQ fG fJ)) hP hD hK hN [1, 2, 3, 4, 5, 6, 7, 8] rfl (by decide) 1 (ci := 3) rfl rfl _) rfl rfl hl.1 rfl (lv_room (Nat.le_of_ble_eq_true rfl)) dX9_off_9 ⟨Nat.zero_le _, Nat.zero_le _⟩) (fun r_14 u_13 H locs hw hP hD hS => ?_)
      obtain ⟨hf_15, rfl⟩ := hw
      have hP : va_P (dC, dI) vwCl (wAll h cs fI fL fA fQ fG fJ) H := xP_sub hP [0, 54, 55, 56, 57, 58, 59, 60, 61, 1, 2, 3, 4, 5, 6, 7, 8, 9, 10, 11, 12, 13, 14, 15, 16, 17, 18, 19, 20, 21, 22, 23, 24, 25, 26, 27, 28, 29, 30, 31, 32, 33, 34, 35, 36, 37, 38, 39, 40, 41, 42, 43, 44, 45, 46, 47, 48, 49, 50, 51, 52, 53] rfl
      have hD : va_D A0 (wAll h cs fI fL fA fQ fG fJ) := hD.sub [0, 54, 55, 56, 57, 58, 59, 60, 61, 1, 2, 3, 4, 5, 6, 7, 8, 9, 10, 11, 12, 13, 14, 15, 16, 17, 18, 19, 20, 21, 22, 23, 24, 25, 26, 27, 28, 29, 30, 31, 32, 33, 34, 35, 36, 37, 38, 39, 40, 41, 42, 43, 44, 45, 46, 47, 48, 49, 50, 51, 52, 53] (by decide) rfl
      obtain rfl := hf_15
      refine lv_icmp_lt (tgt := 19) hx hb dX9_off_12 (by decide) (fun _ => ?_) (fun c9 => False.elim (by revert c9; decide +kernel))
      refine lv_aload_n hx hb dX9_off_19 rfl (lv_at hl 0 rfl) ?_
      refine va_get (D := (dC, dI)) (ci := 9) (v := .ref (h 105)) (C := RX9) (T := TX9) (N := 9) hx hb hts hinX9 hown hK hP 0 rfl rfl 4 (by decide) (hts (.fieldLink RX9 44 "MixedWords" "words" "LMixedWords$Words;") (by decide +kernel)) (fun _ h9 => h9) rfl dX9_off_20 ?_
      refine lv_iload_n hx hb dX9_off_23 rfl (lv_at hl 1 rfl) ?_
      refine xj_i (wc := (wD_60 h cs fI fL fA fQ fG fJ)) (wr := [(h 100, .inr (9, [.ref (h 101), .ref (h 102), .ref (h 103), .ref (h 104), .ref (h 105), .ref (h 106), .ref (h 107), .ref (h 108), .ref (h 109)])), (h 102, .inr (0, [.ref (h 101), .ref (h 140), .ref (h 141), .ref (h 142), .ref (h 143), .int (fI 144), .int (fI 145), .int (fI 146)])), (h 140, .inl (cs 0, 40, .inl (fA 140))), (h 141, .inl (cs 0, 40, .inl (fA 141))), (h 142, .inl (cs 0, 40, .inl (fA 142))), (h 143, .inl (cs 0, 40, .inl (fA 143))), (h 103, .inr (7, [.ref (h 150), .int (fI 151)])), (h 150, .inl (cs 2, 90, .inl (fA 150))), (h 104, .inr (4, [.ref (h 103), .ref (h 160), .int (fI 166), .int (fI 167), .int (fI 168), .int (fI 169)])), (h 160, .inl (cs 3, 5, .inr (.inr (.inr (.inr (fun i => if i < 5 then some (h (i + 161)) else none)))))), (h 161, .inl (cs 0, 4, .inl ((fG 1) 0))), (h 162, .inl (cs 0, 4, .inl ((fG 1) 1))), (h 163, .inl (cs 0, 4, .inl ((fG 1) 2))), (h 164, .inl (cs 0, 4, .inl ((fG 1) 3))), (h 165, .inl (cs 0, 4, .inl ((fG 1) 4))), (h 106, .inr (2, [.ref (h 180), .ref (h 185), .ref (h 186), .ref (h 187), .long (fL 188)])), (h 180, .inl (cs 4, 4, .inr (.inr (.inr (.inr (fun i => if i < 4 then some (h (i + 181)) else none)))))), (h 181, .inl (cs 1, 4, .inr (.inl ((fJ 0) 0)))), (h 182, .inl (cs 1, 4, .inr (.inl ((fJ 0) 1)))), (h 183, .inl (cs 1, 4, .inr (.inl ((fJ 0) 2)))), (h 184, .inl (cs 1, 4, .inr (.inl ((fJ 0) 3)))), (h 185, .inl (cs 1, 4, .inr (.inl (fQ 185)))), (h 186, .inl (cs 0, 4, .inl (fA 186))), (h 187, .inl (cs 1, 4, .inr (.inl (fQ 187)))), (h 107, .inr (6, [.ref (h 101), .ref (h 190), .ref (h 191), .ref (h 192)])), (h 190, .inl (cs 0, 5, .inl (fA 190))), (h 191, .inl (cs 0, 4, .inl (fA 191))), (h 192, .inl (cs 0, 4, .inl (fA 192))), (h 108, .inr (1, [.ref (h 101), .ref (h 200), .ref (h 206), .ref (h 211), .int (fI 212), .int (fI 213)])), (h 200, .inl (cs 3, 5, .inr (.inr (.inr (.inr (fun i => if i < 5 then some (h (i + 201)) else none)))))), (h 201, .inl (cs 0, 4, .inl ((fG 2) 0))), (h 202, .inl (cs 0, 4, .inl ((fG 2) 1))), (h 203, .inl (cs 0, 4, .inl ((fG 2) 2))), (h 204, .inl (cs 0, 4, .inl ((fG 2) 3))), (h 205, .inl (cs 0, 4, .inl ((fG 2) 4))), (h 206, .inl (cs 3, 4, .inr (.inr (.inr (.inr (fun i => if i < 4 then some (h (i + 207)) else none)))))), (h 207, .inl (cs 0, 4, .inl ((fG 3) 0))), (h 208, .inl (cs 0, 4, .inl ((fG 3) 1))), (h 209, .inl (cs 0, 4, .inl ((fG 3) 2))), (h 210, .inl (cs 0, 4, .inl ((fG 3) 3))), (h 211, .inl (cs 0, 5, .inl (fA 211))), (h 109, .inl (cs 5, 4, .inr (.inr (.inr (.inr (fun i => if i < 4 then some (h (i + 110)) else none)))))), (h 110, .inr (5, [.int (fI 220), .int (fI 224), .ref (h 228)])), (h 228, .inl (cs 1, 25, .inr (.inl (fQ 228)))), (h 111, .inr (5, [.int (fI 221), .int (fI 225), .ref (h 229)])), (h 229, .inl (cs 1, 25, .inr (.inl (fQ 229)))), (h 112, .inr (5, [.int (fI 222), .int (fI 226), .ref (h 230)])), (h 230, .inl (cs 1, 25, .inr (.inl (fQ 230)))), (h 113, .inr (5, [.int (fI 223), .int (fI 227), .ref (h 231)])), (h 231, .inl (cs 1, 25, .inr (.inl (fQ 231))))]) hP hD hS hA [23, 1, 2, 3, 4, 5, 6, 7, 8, 24, 25, 26] [0, 9, 10, 11, 12, 13, 14, 15, 16, 17, 18, 19, 20, 21, 22, 27, 28, 29, 30, 31, 32, 33, 34, 35, 36, 37, 38, 39, 40, 41, 42, 43, 44, 45, 46, 47, 48, 49, 50, 51, 52, 53, 54, 55, 56, 57, 58, 59, 60, 61] rfl rfl (by decide) (by decide) (va_runV (As := [.int (nI 2)]) (rest := []) ⟨hx, hb, hml, hown, hts⟩ (a_X8_offOf_67 l dC dI h cs H.size fI fL fA fQ fG fJ ) (cwV 1 hts gX9_off_X8_offOf rfl rfl rfl (by decide +kernel) ⟨Nat.le_of_ble_eq_true rfl, Nat.le_of_ble_eq_true rfl⟩) (xpV (wc := (wD_60 h cs fI fL fA fQ fG fJ)) hP hD hK hN [23, 1, 2, 3, 4, 5, 6, 7, 8, 24, 25, 26] rfl (by decide) 23 (ci := 8) rfl rfl _) rfl rfl hl.1 rfl (lv_room (Nat.le_of_ble_eq_true rfl)) dX9_off_24 ⟨Nat.zero_le _, Nat.zero_le _⟩) (fun r_17 u_16 H locs hw hP hD hS => ?_)
      obtain ⟨hf_18, rfl⟩ := hw
      have hP : va_P (dC, dI) vwCl (wAll h cs fI fL fA fQ fG fJ) H := xP_sub hP [0, 51, 52, 53, 54, 55, 56, 57, 58, 1, 2, 3, 4, 5, 6, 7, 8, 9, 10, 11, 12, 13, 14, 50, 59, 60, 61, 15, 16, 17, 18, 19, 20, 21, 22, 23, 24, 25, 26, 27, 28, 29, 30, 31, 32, 33, 34, 35, 36, 37, 38, 39, 40, 41, 42, 43, 44, 45, 46, 47, 48, 49] rfl
      have hD : va_D A0 (wAll h cs fI fL fA fQ fG fJ) := hD.sub [0, 51, 52, 53, 54, 55, 56, 57, 58, 1, 2, 3, 4, 5, 6, 7, 8, 9, 10, 11, 12, 13, 14, 50, 59, 60, 61, 15, 16, 17, 18, 19, 20, 21, 22, 23, 24, 25, 26, 27, 28, 29, 30, 31, 32, 33, 34, 35, 36, 37, 38, 39, 40, 41, 42, 43, 44, 45, 46, 47, 48, 49] (by decide) rfl
      obtain rfl := hf_18
      exact xr_i (v := (nI 0)) hx hb hr hlocks hK hS dX9_off_27 (fI, fL, fA, fQ, fG, fJ) ⟨(by decide +kernel), rfl⟩ hP hD
    · skip
      refine lv_iload_n hx hb dX9_off_0 rfl (lv_at hl 1 rfl) ?_
      refine lv_if_lt (tgt := 15) hx hb dX9_off_1 (by decide) (fun c9 => False.elim (by revert c9; decide +kernel)) (fun _ => ?_)
      refine lv_iload_n hx hb dX9_off_4 rfl (lv_at hl 1 rfl) ?_
      refine lv_aload_n hx hb dX9_off_5 rfl (lv_at hl 0 rfl) ?_
      refine va_get (D := (dC, dI)) (ci := 9) (v := .ref (h 101)) (C := RX9) (T := TX9) (N := 9) hx hb hts hinX9 hown hK hP 0 rfl rfl 0 (by decide) (hts (.fieldLink RX9 12 "MixedWords" "mix" "LMixedWords$Mix;") (by decide +kernel)) (fun _ h9 => h9) rfl dX9_off_6 ?_
      refine xj_i (wc := (wD_32 h cs fI fL fA fQ fG fJ)) (wr := [(h 100, .inr (9, [.ref (h 101), .ref (h 102), .ref (h 103), .ref (h 104), .ref (h 105), .ref (h 106), .ref (h 107), .ref (h 108), .ref (h 109)])), (h 102, .inr (0, [.ref (h 101), .ref (h 140), .ref (h 141), .ref (h 142), .ref (h 143), .int (fI 144), .int (fI 145), .int (fI 146)])), (h 140, .inl (cs 0, 40, .inl (fA 140))), (h 141, .inl (cs 0, 40, .inl (fA 141))), (h 142, .inl (cs 0, 40, .inl (fA 142))), (h 143, .inl (cs 0, 40, .inl (fA 143))), (h 103, .inr (7, [.ref (h 150), .int (fI 151)])), (h 150, .inl (cs 2, 90, .inl (fA 150))), (h 104, .inr (4, [.ref (h 103), .ref (h 160), .int (fI 166), .int (fI 167), .int (fI 168), .int (fI 169)])), (h 160, .inl (cs 3, 5, .inr (.inr (.inr (.inr (fun i => if i < 5 then some (h (i + 161)) else none)))))), (h 161, .inl (cs 0, 4, .inl ((fG 1) 0))), (h 162, .inl (cs 0, 4, .inl ((fG 1) 1))), (h 163, .inl (cs 0, 4, .inl ((fG 1) 2))), (h 164, .inl (cs 0, 4, .inl ((fG 1) 3))), (h 165, .inl (cs 0, 4, .inl ((fG 1) 4))), (h 105, .inr (8, [.ref (h 101), .ref (h 170), .ref (h 171), .ref (h 172), .int (fI 173), .int (fI 174)])), (h 170, .inl (cs 0, 256, .inl (fA 170))), (h 171, .inl (cs 0, 256, .inl (fA 171))), (h 172, .inl (cs 0, 256, .inl (fA 172))), (h 106, .inr (2, [.ref (h 180), .ref (h 185), .ref (h 186), .ref (h 187), .long (fL 188)])), (h 180, .inl (cs 4, 4, .inr (.inr (.inr (.inr (fun i => if i < 4 then some (h (i + 181)) else none)))))), (h 181, .inl (cs 1, 4, .inr (.inl ((fJ 0) 0)))), (h 182, .inl (cs 1, 4, .inr (.inl ((fJ 0) 1)))), (h 183, .inl (cs 1, 4, .inr (.inl ((fJ 0) 2)))), (h 184, .inl (cs 1, 4, .inr (.inl ((fJ 0) 3)))), (h 185, .inl (cs 1, 4, .inr (.inl (fQ 185)))), (h 186, .inl (cs 0, 4, .inl (fA 186))), (h 187, .inl (cs 1, 4, .inr (.inl (fQ 187)))), (h 107, .inr (6, [.ref (h 101), .ref (h 190), .ref (h 191), .ref (h 192)])), (h 190, .inl (cs 0, 5, .inl (fA 190))), (h 191, .inl (cs 0, 4, .inl (fA 191))), (h 192, .inl (cs 0, 4, .inl (fA 192))), (h 108, .inr (1, [.ref (h 101), .ref (h 200), .ref (h 206), .ref (h 211), .int (fI 212), .int (fI 213)])), (h 200, .inl (cs 3, 5, .inr (.inr (.inr (.inr (fun i => if i < 5 then some (h (i + 201)) else none)))))), (h 201, .inl (cs 0, 4, .inl ((fG 2) 0))), (h 202, .inl (cs 0, 4, .inl ((fG 2) 1))), (h 203, .inl (cs 0, 4, .inl ((fG 2) 2))), (h 204, .inl (cs 0, 4, .inl ((fG 2) 3))), (h 205, .inl (cs 0, 4, .inl ((fG 2) 4))), (h 206, .inl (cs 3, 4, .inr (.inr (.inr (.inr (fun i => if i < 4 then some (h (i + 207)) else none)))))), (h 207, .inl (cs 0, 4, .inl ((fG 3) 0))), (h 208, .inl (cs 0, 4, .inl ((fG 3) 1))), (h 209, .inl (cs 0, 4, .inl ((fG 3) 2))), (h 210, .inl (cs 0, 4, .inl ((fG 3) 3))), (h 211, .inl (cs 0, 5, .inl (fA 211))), (h 109, .inl (cs 5, 4, .inr (.inr (.inr (.inr (fun i => if i < 4 then some (h (i + 110)) else none)))))), (h 110, .inr (5, [.int (fI 220), .int (fI 224), .ref (h 228)])), (h 228, .inl (cs 1, 25, .inr (.inl (fQ 228)))), (h 111, .inr (5, [.int (fI 221), .int (fI 225), .ref (h 229)])), (h 229, .inl (cs 1, 25, .inr (.inl (fQ 229)))), (h 112, .inr (5, [.int (fI 222), .int (fI 226), .ref (h 230)])), (h 230, .inl (cs 1, 25, .inr (.inl (fQ 230)))), (h 113, .inr (5, [.int (fI 223), .int (fI 227), .ref (h 231)])), (h 231, .inl (cs 1, 25, .inr (.inl (fQ 231))))]) hP hD hS hA [1, 2, 3, 4, 5, 6, 7, 8] [0, 9, 10, 11, 12, 13, 14, 15, 16, 17, 18, 19, 20, 21, 22, 23, 24, 25, 26, 27, 28, 29, 30, 31, 32, 33, 34, 35, 36, 37, 38, 39, 40, 41, 42, 43, 44, 45, 46, 47, 48, 49, 50, 51, 52, 53, 54, 55, 56, 57, 58, 59, 60, 61] rfl rfl (by decide) (by decide) (va_runV (As := []) (rest := [.int (nI 3)]) ⟨hx, hb, hml, hown, hts⟩ (a_X3_wordCount_58 l dC dI h cs H.size fI fL fA fQ fG fJ ) (cwV 0 hts gX9_off_X3_wordCount rfl rfl rfl (by decide +kernel) ⟨Nat.le_of_ble_eq_true rfl, Nat.le_of_ble_eq_true rfl⟩) (xpV (wc := (wD_32 h cs fI fL fA fQ fG fJ)) hP hD hK hN [1, 2, 3, 4, 5, 6, 7, 8] rfl (by decide) 1 (ci := 3) rfl rfl _) rfl rfl hl.1 rfl (lv_room (Nat.le_of_ble_eq_true rfl)) dX9_off_9 ⟨Nat.zero_le _, Nat.zero_le _⟩) (fun r_20 u_19 H locs hw hP hD hS => ?_)
      obtain ⟨hf_21, rfl⟩ := hw
      have hP : va_P (dC, dI) vwCl (wAll h cs fI fL fA fQ fG fJ) H := xP_sub hP [0, 54, 55, 56, 57, 58, 59, 60, 61, 1, 2, 3, 4, 5, 6, 7, 8, 9, 10, 11, 12, 13, 14, 15, 16, 17, 18, 19, 20, 21, 22, 23, 24, 25, 26, 27, 28, 29, 30, 31, 32, 33, 34, 35, 36, 37, 38, 39, 40, 41, 42, 43, 44, 45, 46, 47, 48, 49, 50, 51, 52, 53] rfl
      have hD : va_D A0 (wAll h cs fI fL fA fQ fG fJ) := hD.sub [0, 54, 55, 56, 57, 58, 59, 60, 61, 1, 2, 3, 4, 5, 6, 7, 8, 9, 10, 11, 12, 13, 14, 15, 16, 17, 18, 19, 20, 21, 22, 23, 24, 25, 26, 27, 28, 29, 30, 31, 32, 33, 34, 35, 36, 37, 38, 39, 40, 41, 42, 43, 44, 45, 46, 47, 48, 49, 50, 51, 52, 53] (by decide) rfl
      obtain rfl := hf_21
      refine lv_icmp_lt (tgt := 19) hx hb dX9_off_12 (by decide) (fun _ => ?_) (fun c9 => False.elim (by revert c9; decide +kernel))
      refine lv_aload_n hx hb dX9_off_19 rfl (lv_at hl 0 rfl) ?_
      refine va_get (D := (dC, dI)) (ci := 9) (v := .ref (h 105)) (C := RX9) (T := TX9) (N := 9) hx hb hts hinX9 hown hK hP 0 rfl rfl 4 (by decide) (hts (.fieldLink RX9 44 "MixedWords" "words" "LMixedWords$Words;") (by decide +kernel)) (fun _ h9 => h9) rfl dX9_off_20 ?_
      refine lv_iload_n hx hb dX9_off_23 rfl (lv_at hl 1 rfl) ?_
      refine xj_i (wc := (wD_60 h cs fI fL fA fQ fG fJ)) (wr := [(h 100, .inr (9, [.ref (h 101), .ref (h 102), .ref (h 103), .ref (h 104), .ref (h 105), .ref (h 106), .ref (h 107), .ref (h 108), .ref (h 109)])), (h 102, .inr (0, [.ref (h 101), .ref (h 140), .ref (h 141), .ref (h 142), .ref (h 143), .int (fI 144), .int (fI 145), .int (fI 146)])), (h 140, .inl (cs 0, 40, .inl (fA 140))), (h 141, .inl (cs 0, 40, .inl (fA 141))), (h 142, .inl (cs 0, 40, .inl (fA 142))), (h 143, .inl (cs 0, 40, .inl (fA 143))), (h 103, .inr (7, [.ref (h 150), .int (fI 151)])), (h 150, .inl (cs 2, 90, .inl (fA 150))), (h 104, .inr (4, [.ref (h 103), .ref (h 160), .int (fI 166), .int (fI 167), .int (fI 168), .int (fI 169)])), (h 160, .inl (cs 3, 5, .inr (.inr (.inr (.inr (fun i => if i < 5 then some (h (i + 161)) else none)))))), (h 161, .inl (cs 0, 4, .inl ((fG 1) 0))), (h 162, .inl (cs 0, 4, .inl ((fG 1) 1))), (h 163, .inl (cs 0, 4, .inl ((fG 1) 2))), (h 164, .inl (cs 0, 4, .inl ((fG 1) 3))), (h 165, .inl (cs 0, 4, .inl ((fG 1) 4))), (h 106, .inr (2, [.ref (h 180), .ref (h 185), .ref (h 186), .ref (h 187), .long (fL 188)])), (h 180, .inl (cs 4, 4, .inr (.inr (.inr (.inr (fun i => if i < 4 then some (h (i + 181)) else none)))))), (h 181, .inl (cs 1, 4, .inr (.inl ((fJ 0) 0)))), (h 182, .inl (cs 1, 4, .inr (.inl ((fJ 0) 1)))), (h 183, .inl (cs 1, 4, .inr (.inl ((fJ 0) 2)))), (h 184, .inl (cs 1, 4, .inr (.inl ((fJ 0) 3)))), (h 185, .inl (cs 1, 4, .inr (.inl (fQ 185)))), (h 186, .inl (cs 0, 4, .inl (fA 186))), (h 187, .inl (cs 1, 4, .inr (.inl (fQ 187)))), (h 107, .inr (6, [.ref (h 101), .ref (h 190), .ref (h 191), .ref (h 192)])), (h 190, .inl (cs 0, 5, .inl (fA 190))), (h 191, .inl (cs 0, 4, .inl (fA 191))), (h 192, .inl (cs 0, 4, .inl (fA 192))), (h 108, .inr (1, [.ref (h 101), .ref (h 200), .ref (h 206), .ref (h 211), .int (fI 212), .int (fI 213)])), (h 200, .inl (cs 3, 5, .inr (.inr (.inr (.inr (fun i => if i < 5 then some (h (i + 201)) else none)))))), (h 201, .inl (cs 0, 4, .inl ((fG 2) 0))), (h 202, .inl (cs 0, 4, .inl ((fG 2) 1))), (h 203, .inl (cs 0, 4, .inl ((fG 2) 2))), (h 204, .inl (cs 0, 4, .inl ((fG 2) 3))), (h 205, .inl (cs 0, 4, .inl ((fG 2) 4))), (h 206, .inl (cs 3, 4, .inr (.inr (.inr (.inr (fun i => if i < 4 then some (h (i + 207)) else none)))))), (h 207, .inl (cs 0, 4, .inl ((fG 3) 0))), (h 208, .inl (cs 0, 4, .inl ((fG 3) 1))), (h 209, .inl (cs 0, 4, .inl ((fG 3) 2))), (h 210, .inl (cs 0, 4, .inl ((fG 3) 3))), (h 211, .inl (cs 0, 5, .inl (fA 211))), (h 109, .inl (cs 5, 4, .inr (.inr (.inr (.inr (fun i => if i < 4 then some (h (i + 110)) else none)))))), (h 110, .inr (5, [.int (fI 220), .int (fI 224), .ref (h 228)])), (h 228, .inl (cs 1, 25, .inr (.inl (fQ 228)))), (h 111, .inr (5, [.int (fI 221), .int (fI 225), .ref (h 229)])), (h 229, .inl (cs 1, 25, .inr (.inl (fQ 229)))), (h 112, .inr (5, [.int (fI 222), .int (fI 226), .ref (h 230)])), (h 230, .inl (cs 1, 25, .inr (.inl (fQ 230)))), (h 113, .inr (5, [.int (fI 223), .int (fI 227), .ref (h 231)])), (h 231, .inl (cs 1, 25, .inr (.inl (fQ 231))))]) hP hD hS hA [23, 1, 2, 3, 4, 5, 6, 7, 8, 24, 25, 26] [0, 9, 10, 11, 12, 13, 14, 15, 16, 17, 18, 19, 20, 21, 22, 27, 28, 29, 30, 31, 32, 33, 34, 35, 36, 37, 38, 39, 40, 41, 42, 43, 44, 45, 46, 47, 48, 49, 50, 51, 52, 53, 54, 55, 56, 57, 58, 59, 60, 61] rfl rfl (by decide) (by decide) (va_runV (As := [.int (nI 3)]) (rest := []) ⟨hx, hb, hml, hown, hts⟩ (a_X8_offOf_70 l dC dI h cs H.size fI fL fA fQ fG fJ ) (cwV 1 hts gX9_off_X8_offOf rfl rfl rfl (by decide +kernel) ⟨Nat.le_of_ble_eq_true rfl, Nat.le_of_ble_eq_true rfl⟩) (xpV (wc := (wD_60 h cs fI fL fA fQ fG fJ)) hP hD hK hN [23, 1, 2, 3, 4, 5, 6, 7, 8, 24, 25, 26] rfl (by decide) 23 (ci := 8) rfl rfl _) rfl rfl hl.1 rfl (lv_room (Nat.le_of_ble_eq_true rfl)) dX9_off_24 ⟨Nat.zero_le _, Nat.zero_le _⟩) (fun r_23 u_22 H locs hw hP hD hS => ?_)
      obtain ⟨hf_24, rfl⟩ := hw
      have hP : va_P (dC, dI) vwCl (wAll h cs fI fL fA fQ fG fJ) H := xP_sub hP [0, 51, 52, 53, 54, 55, 56, 57, 58, 1, 2, 3, 4, 5, 6, 7, 8, 9, 10, 11, 12, 13, 14, 50, 59, 60, 61, 15, 16, 17, 18, 19, 20, 21, 22, 23, 24, 25, 26, 27, 28, 29, 30, 31, 32, 33, 34, 35, 36, 37, 38, 39, 40, 41, 42, 43, 44, 45, 46, 47, 48, 49] rfl
      have hD : va_D A0 (wAll h cs fI fL fA fQ fG fJ) := hD.sub [0, 51, 52, 53, 54, 55, 56, 57, 58, 1, 2, 3, 4, 5, 6, 7, 8, 9, 10, 11, 12, 13, 14, 50, 59, 60, 61, 15, 16, 17, 18, 19, 20, 21, 22, 23, 24, 25, 26, 27, 28, 29, 30, 31, 32, 33, 34, 35, 36, 37, 38, 39, 40, 41, 42, 43, 44, 45, 46, 47, 48, 49] (by decide) rfl
      obtain rfl := hf_24
      exact xr_i (v := (nI 0)) hx hb hr hlocks hK hS dX9_off_27 (fI, fL, fA, fQ, fG, fJ) ⟨(by decide +kernel), rfl⟩ hP hD
  · skip
    refine lv_iload_n hx hb dX9_off_0 rfl (lv_at hl 1 rfl) ?_
    refine lv_if_lt (tgt := 15) hx hb dX9_off_1 (by decide) (fun c_1_24 => ?_) (fun c_1_24 => ?_)
    · skip
      have t_t_25 : x.toInt < 0 := zc_tlt (K := 0) (by decide +kernel) c_1_24
      refine lv_iconst (v := (-1)) hx hb dX9_off_15 (by decide) ?_
      refine lv_goto (tgt := 27) hx hb dX9_off_16 (by decide) ?_
      exact xr_i (v := (-1)) hx hb hr hlocks hK hS dX9_off_27 (fI, fL, fA, fQ, fG, fJ) ⟨(by unfold an_off; rw [if_neg (by omega)]), rfl⟩ hP hD
    · skip
      have t_f_26 : 0 ≤ x.toInt := zc_flt (K := 0) (by decide +kernel) c_1_24
      refine lv_iload_n hx hb dX9_off_4 rfl (lv_at hl 1 rfl) ?_
      refine lv_aload_n hx hb dX9_off_5 rfl (lv_at hl 0 rfl) ?_
      refine va_get (D := (dC, dI)) (ci := 9) (v := .ref (h 101)) (C := RX9) (T := TX9) (N := 9) hx hb hts hinX9 hown hK hP 0 rfl rfl 0 (by decide) (hts (.fieldLink RX9 12 "MixedWords" "mix" "LMixedWords$Mix;") (by decide +kernel)) (fun _ h9 => h9) rfl dX9_off_6 ?_
      refine xj_i (wc := (wD_32 h cs fI fL fA fQ fG fJ)) (wr := [(h 100, .inr (9, [.ref (h 101), .ref (h 102), .ref (h 103), .ref (h 104), .ref (h 105), .ref (h 106), .ref (h 107), .ref (h 108), .ref (h 109)])), (h 102, .inr (0, [.ref (h 101), .ref (h 140), .ref (h 141), .ref (h 142), .ref (h 143), .int (fI 144), .int (fI 145), .int (fI 146)])), (h 140, .inl (cs 0, 40, .inl (fA 140))), (h 141, .inl (cs 0, 40, .inl (fA 141))), (h 142, .inl (cs 0, 40, .inl (fA 142))), (h 143, .inl (cs 0, 40, .inl (fA 143))), (h 103, .inr (7, [.ref (h 150), .int (fI 151)])), (h 150, .inl (cs 2, 90, .inl (fA 150))), (h 104, .inr (4, [.ref (h 103), .ref (h 160), .int (fI 166), .int (fI 167), .int (fI 168), .int (fI 169)])), (h 160, .inl (cs 3, 5, .inr (.inr (.inr (.inr (fun i => if i < 5 then some (h (i + 161)) else none)))))), (h 161, .inl (cs 0, 4, .inl ((fG 1) 0))), (h 162, .inl (cs 0, 4, .inl ((fG 1) 1))), (h 163, .inl (cs 0, 4, .inl ((fG 1) 2))), (h 164, .inl (cs 0, 4, .inl ((fG 1) 3))), (h 165, .inl (cs 0, 4, .inl ((fG 1) 4))), (h 105, .inr (8, [.ref (h 101), .ref (h 170), .ref (h 171), .ref (h 172), .int (fI 173), .int (fI 174)])), (h 170, .inl (cs 0, 256, .inl (fA 170))), (h 171, .inl (cs 0, 256, .inl (fA 171))), (h 172, .inl (cs 0, 256, .inl (fA 172))), (h 106, .inr (2, [.ref (h 180), .ref (h 185), .ref (h 186), .ref (h 187), .long (fL 188)])), (h 180, .inl (cs 4, 4, .inr (.inr (.inr (.inr (fun i => if i < 4 then some (h (i + 181)) else none)))))), (h 181, .inl (cs 1, 4, .inr (.inl ((fJ 0) 0)))), (h 182, .inl (cs 1, 4, .inr (.inl ((fJ 0) 1)))), (h 183, .inl (cs 1, 4, .inr (.inl ((fJ 0) 2)))), (h 184, .inl (cs 1, 4, .inr (.inl ((fJ 0) 3)))), (h 185, .inl (cs 1, 4, .inr (.inl (fQ 185)))), (h 186, .inl (cs 0, 4, .inl (fA 186))), (h 187, .inl (cs 1, 4, .inr (.inl (fQ 187)))), (h 107, .inr (6, [.ref (h 101), .ref (h 190), .ref (h 191), .ref (h 192)])), (h 190, .inl (cs 0, 5, .inl (fA 190))), (h 191, .inl (cs 0, 4, .inl (fA 191))), (h 192, .inl (cs 0, 4, .inl (fA 192))), (h 108, .inr (1, [.ref (h 101), .ref (h 200), .ref (h 206), .ref (h 211), .int (fI 212), .int (fI 213)])), (h 200, .inl (cs 3, 5, .inr (.inr (.inr (.inr (fun i => if i < 5 then some (h (i + 201)) else none)))))), (h 201, .inl (cs 0, 4, .inl ((fG 2) 0))), (h 202, .inl (cs 0, 4, .inl ((fG 2) 1))), (h 203, .inl (cs 0, 4, .inl ((fG 2) 2))), (h 204, .inl (cs 0, 4, .inl ((fG 2) 3))), (h 205, .inl (cs 0, 4, .inl ((fG 2) 4))), (h 206, .inl (cs 3, 4, .inr (.inr (.inr (.inr (fun i => if i < 4 then some (h (i + 207)) else none)))))), (h 207, .inl (cs 0, 4, .inl ((fG 3) 0))), (h 208, .inl (cs 0, 4, .inl ((fG 3) 1))), (h 209, .inl (cs 0, 4, .inl ((fG 3) 2))), (h 210, .inl (cs 0, 4, .inl ((fG 3) 3))), (h 211, .inl (cs 0, 5, .inl (fA 211))), (h 109, .inl (cs 5, 4, .inr (.inr (.inr (.inr (fun i => if i < 4 then some (h (i + 110)) else none)))))), (h 110, .inr (5, [.int (fI 220), .int (fI 224), .ref (h 228)])), (h 228, .inl (cs 1, 25, .inr (.inl (fQ 228)))), (h 111, .inr (5, [.int (fI 221), .int (fI 225), .ref (h 229)])), (h 229, .inl (cs 1, 25, .inr (.inl (fQ 229)))), (h 112, .inr (5, [.int (fI 222), .int (fI 226), .ref (h 230)])), (h 230, .inl (cs 1, 25, .inr (.inl (fQ 230)))), (h 113, .inr (5, [.int (fI 223), .int (fI 227), .ref (h 231)])), (h 231, .inl (cs 1, 25, .inr (.inl (fQ 231))))]) hP hD hS hA [1, 2, 3, 4, 5, 6, 7, 8] [0, 9, 10, 11, 12, 13, 14, 15, 16, 17, 18, 19, 20, 21, 22, 23, 24, 25, 26, 27, 28, 29, 30, 31, 32, 33, 34, 35, 36, 37, 38, 39, 40, 41, 42, 43, 44, 45, 46, 47, 48, 49, 50, 51, 52, 53, 54, 55, 56, 57, 58, 59, 60, 61] rfl rfl (by decide) (by decide) (va_runV (As := []) (rest := [.int x]) ⟨hx, hb, hml, hown, hts⟩ (a_X3_wordCount_58 l dC dI h cs H.size fI fL fA fQ fG fJ ) (cwV 0 hts gX9_off_X3_wordCount rfl rfl rfl (by decide +kernel) ⟨Nat.le_of_ble_eq_true rfl, Nat.le_of_ble_eq_true rfl⟩) (xpV (wc := (wD_32 h cs fI fL fA fQ fG fJ)) hP hD hK hN [1, 2, 3, 4, 5, 6, 7, 8] rfl (by decide) 1 (ci := 3) rfl rfl _) rfl rfl hl.1 rfl (lv_room (Nat.le_of_ble_eq_true rfl)) dX9_off_9 ⟨Nat.zero_le _, Nat.zero_le _⟩) (fun r_29 u_28 H locs hw hP hD hS => ?_)
      obtain ⟨hf_30, rfl⟩ := hw
      have hP : va_P (dC, dI) vwCl (wAll h cs fI fL fA fQ fG fJ) H := xP_sub hP [0, 54, 55, 56, 57, 58, 59, 60, 61, 1, 2, 3, 4, 5, 6, 7, 8, 9, 10, 11, 12, 13, 14, 15, 16, 17, 18, 19, 20, 21, 22, 23, 24, 25, 26, 27, 28, 29, 30, 31, 32, 33, 34, 35, 36, 37, 38, 39, 40, 41, 42, 43, 44, 45, 46, 47, 48, 49, 50, 51, 52, 53] rfl
      have hD : va_D A0 (wAll h cs fI fL fA fQ fG fJ) := hD.sub [0, 54, 55, 56, 57, 58, 59, 60, 61, 1, 2, 3, 4, 5, 6, 7, 8, 9, 10, 11, 12, 13, 14, 15, 16, 17, 18, 19, 20, 21, 22, 23, 24, 25, 26, 27, 28, 29, 30, 31, 32, 33, 34, 35, 36, 37, 38, 39, 40, 41, 42, 43, 44, 45, 46, 47, 48, 49, 50, 51, 52, 53] (by decide) rfl
      obtain rfl := hf_30
      refine lv_icmp_lt (tgt := 19) hx hb dX9_off_12 (by decide) (fun c_12_30 => ?_) (fun c_12_30 => ?_)
      · skip
        have t_t_31 : x.toInt < 4 := zc_tlt (K := nI 4) (by decide +kernel) c_12_30
        exact absurd t_t_31 (by omega)
      · skip
        have t_f_32 : 4 ≤ x.toInt := zc_flt (K := nI 4) (by decide +kernel) c_12_30
        refine lv_iconst (v := (-1)) hx hb dX9_off_15 (by decide) ?_
        refine lv_goto (tgt := 27) hx hb dX9_off_16 (by decide) ?_
        exact xr_i (v := (-1)) hx hb hr hlocks hK hS dX9_off_27 (fI, fL, fA, fQ, fG, fJ) ⟨(by unfold an_off; rw [if_neg (by omega)]), rfl⟩ hP hD
