def wD_177 (h : Nat → Nat) (cs : Nat → ClassId) (I : Nat → Int32) (L : Nat → Int64) (A : Nat → Nat → Int32) (Q : Nat → Nat → Int64) : va_W := [(h 0, .inr (10, [.int (I 0), .int (I 1), .int (I 2), .ref (h 3), .int (I 4), .int (I 5), .ref (h 6), .ref (h 7), .ref (h 8), .ref (h 9), .int (I 10), .int (I 11), .int (I 12), .ref (h 13), .int (I 14), .int (I 15), .ref (h 16), .ref (h 17), .ref (h 18), .ref (h 19), .ref (h 20), .long (L 21), .long (L 22), .ref (h 23), .ref (h 24), .ref (h 25), .ref (h 26), .ref (h 27)])), (h 3, .inl (cs 0, 25, .inl (A 3))), (h 6, .inl (cs 0, 41, .inl (A 6))), (h 7, .inl (cs 0, 41, .inl (A 7))), (h 8, .inl (cs 0, 41, .inl (A 8))), (h 9, .inl (cs 0, 90, .inl (A 9))), (h 13, .inl (cs 0, 20, .inl (A 13))), (h 16, .inl (cs 0, 256, .inl (A 16))), (h 17, .inl (cs 0, 20, .inl (A 17))), (h 18, .inl (cs 0, 16, .inl (A 18))), (h 19, .inl (cs 1, 16, .inr (.inl (Q 19)))), (h 20, .inl (cs 0, 5, .inl (A 20))), (h 23, .inl (cs 0, 4, .inl (A 23))), (h 24, .inl (cs 1, 4, .inr (.inl (Q 24)))), (h 25, .inl (cs 0, 4, .inl (A 25))), (h 26, .inl (cs 0, 4, .inl (A 26))), (h 27, .inl (cs 0, 100, .inl (A 27)))]
set_option maxHeartbeats 4000000 in
set_option maxRecDepth 100000 in
theorem a_X10_words_179 (l : Launch) (dC : Nat → ClassId) (dI : Nat → Nat → Nat) (h : Nat → Nat) (cs : Nat → ClassId) (sz : Nat) (I : Nat → Int32) (L : Nat → Int64) (A : Nat → Nat → Int32) (Q : Nat → Nat → Int64) : Met l yX10_words wsX10_words ({ frames := 0, cells := 0, slots := 0, locals := 0 }) (va_Pc [.ref (h 0)] (xPre (dC, dI) (wD_177 h cs gI gL gA gQ) (tysA cs) sz)) (va_Qi (fun (r : Int32) (u : RS) => (r = nI 4) ∧ u = (gI, gL, gA, gQ)) (xB (dC, dI) (tysA cs) (va_A (wD_177 h cs gI gL gA gQ) sz) (fun u : RS => wD_177 h cs u.1 u.2.1 u.2.2.1 u.2.2.2)) (va_A (wD_177 h cs gI gL gA gQ) sz)) 0 0 (va_A (wD_177 h cs gI gL gA gQ) sz) := by
  refine Met.ofW (cc := cX10_words) (maxL := 3) (ret := (some .int)) (by decide) rfl ?_
  intro p e s m args below meth c s₁ B hml hv
  obtain ⟨rfl, hsz, hP, hK, hD0, hN⟩ := hv
  have hx := B.exec
  have hb := B.bytes
  have hr := B.returns
  have hts := atoms_spec (ws := wsX10_words) B.pre
  have hown : s.vm.findClass RX10 = some m.cls := findClass_of_methodNamed B.named
  have hlocks := B.notSynchronized
  subst hsz
  have hD := hD0.self (sz := s.heap.size)
  generalize hAe : va_A (wD_177 h cs gI gL gA gQ) s.heap.size = A0 at hD ⊢
  have hA : ∀ q : Nat, s.heap.size ≤ q → A0 q := fun q h => by rw [← hAe]; exact Or.inr h
  have hl := lv_entry ([.ref (h 0)]) (n := 3) (Nat.le_of_ble_eq_true rfl)
  rw [lg_entry_eq]
  generalize (lg_sl ([.ref (h 0)]) ++ List.replicate (3 - (lg_sl ([.ref (h 0)])).length) Slot.unset).toArray = ls at hl ⊢
  have hl : lv_has ls 3 [(0, .ref (h 0))] := hl
  generalize hH : s.heap = H at hP ⊢
  have hS : va_S A0 s.heap H [] := by rw [← hH]; exact va_S.rf
  have hinX10 : ∀ w ∈ wsX100, w ∈ wsX10_words := by decide +kernel
  refine lv_iconst (v := nI 1) hx hb dX10_words_0 (by decide) ?_
  refine lv_istore_n (lv' := [(1, .int (nI 1)), (0, .ref (h 0))]) hx hb dX10_words_1 rfl hl (by decide) rfl (fun ls hl => ?_)
  refine lv_iconst (v := nI 0) hx hb dX10_words_2 (by decide) ?_
  refine lv_istore_n (lv' := [(2, .int (nI 0)), (1, .int (nI 1)), (0, .ref (h 0))]) hx hb dX10_words_3 rfl hl (by decide) rfl (fun ls hl => ?_)
  refine lv_iload_n hx hb dX10_words_4 rfl (lv_at hl 0 rfl) ?_
  refine lv_aload_n hx hb dX10_words_5 rfl (lv_at hl 2 rfl) ?_
  refine va_get (D := (dC, dI)) (ci := 10) (v := .int (gI 1)) (C := RX10) (T := TX10) (N := 28) hx hb hts hinX10 hown hK hP 0 rfl rfl 1 (by decide) (hts (.fieldLink RX10 13 "MixedWordsModel" "columns" "I") (by decide +kernel)) (fun _ h9 => h9) rfl dX10_words_6 ?_
  refine xt_i (y := nI 2) (by decide +kernel) ?_
  refine lv_icmp_ge (tgt := 25) hx hb dX10_words_9 (by decide) (fun c9 => False.elim (by revert c9; decide +kernel)) (fun _ => ?_)
  refine lv_iload_n hx hb dX10_words_12 rfl (lv_at hl 1 rfl) ?_
  refine lv_aload_n hx hb dX10_words_13 rfl (lv_at hl 2 rfl) ?_
  refine va_get (D := (dC, dI)) (ci := 10) (v := .int (gI 2)) (C := RX10) (T := TX10) (N := 28) hx hb hts hinX10 hown hK hP 0 rfl rfl 2 (by decide) (hts (.fieldLink RX10 16 "MixedWordsModel" "a" "I") (by decide +kernel)) (fun _ h9 => h9) rfl dX10_words_14 ?_
  refine xt_i (y := nI 2) (by decide +kernel) ?_
  refine lv_imul hx hb dX10_words_17 ?_
  refine xt_i (y := nI 2) (by decide +kernel) ?_
  refine lv_istore_n (lv' := [(1, .int (nI 2)), (2, .int (nI 0)), (0, .ref (h 0))]) hx hb dX10_words_18 rfl hl (by decide) rfl (fun ls hl => ?_)
  refine lv_iinc (v := nI 1) (lv' := [(2, .int (nI 1)), (1, .int (nI 2)), (0, .ref (h 0))]) hx hb dX10_words_19 hl (k := 1) rfl (by decide +kernel) (by decide) rfl (fun ls hl => ?_)
  refine lv_goto (tgt := 4) hx hb dX10_words_22 (by decide) ?_
  refine lv_iload_n hx hb dX10_words_4 rfl (lv_at hl 0 rfl) ?_
  refine lv_aload_n hx hb dX10_words_5 rfl (lv_at hl 2 rfl) ?_
  refine va_get (D := (dC, dI)) (ci := 10) (v := .int (gI 1)) (C := RX10) (T := TX10) (N := 28) hx hb hts hinX10 hown hK hP 0 rfl rfl 1 (by decide) (hts (.fieldLink RX10 13 "MixedWordsModel" "columns" "I") (by decide +kernel)) (fun _ h9 => h9) rfl dX10_words_6 ?_
  refine xt_i (y := nI 2) (by decide +kernel) ?_
  refine lv_icmp_ge (tgt := 25) hx hb dX10_words_9 (by decide) (fun c9 => False.elim (by revert c9; decide +kernel)) (fun _ => ?_)
  refine lv_iload_n hx hb dX10_words_12 rfl (lv_at hl 1 rfl) ?_
  refine lv_aload_n hx hb dX10_words_13 rfl (lv_at hl 2 rfl) ?_
  refine va_get (D := (dC, dI)) (ci := 10) (v := .int (gI 2)) (C := RX10) (T := TX10) (N := 28) hx hb hts hinX10 hown hK hP 0 rfl rfl 2 (by decide) (hts (.fieldLink RX10 16 "MixedWordsModel" "a" "I") (by decide +kernel)) (fun _ h9 => h9) rfl dX10_words_14 ?_
  refine xt_i (y := nI 2) (by decide +kernel) ?_
  refine lv_imul hx hb dX10_words_17 ?_
  refine xt_i (y := nI 4) (by decide +kernel) ?_
  refine lv_istore_n (lv' := [(1, .int (nI 4)), (2, .int (nI 1)), (0, .ref (h 0))]) hx hb dX10_words_18 rfl hl (by decide) rfl (fun ls hl => ?_)
  refine lv_iinc (v := nI 2) (lv' := [(2, .int (nI 2)), (1, .int (nI 4)), (0, .ref (h 0))]) hx hb dX10_words_19 hl (k := 1) rfl (by decide +kernel) (by decide) rfl (fun ls hl => ?_)
  refine lv_goto (tgt := 4) hx hb dX10_words_22 (by decide) ?_
  refine lv_iload_n hx hb dX10_words_4 rfl (lv_at hl 0 rfl) ?_
  refine lv_aload_n hx hb dX10_words_5 rfl (lv_at hl 2 rfl) ?_
  refine va_get (D := (dC, dI)) (ci := 10) (v := .int (gI 1)) (C := RX10) (T := TX10) (N := 28) hx hb hts hinX10 hown hK hP 0 rfl rfl 1 (by decide) (hts (.fieldLink RX10 13 "MixedWordsModel" "columns" "I") (by decide +kernel)) (fun _ h9 => h9) rfl dX10_words_6 ?_
  refine xt_i (y := nI 2) (by decide +kernel) ?_
  refine lv_icmp_ge (tgt := 25) hx hb dX10_words_9 (by decide) (fun _ => ?_) (fun c9 => False.elim (by revert c9; decide +kernel))
  refine lv_iload_n hx hb dX10_words_25 rfl (lv_at hl 1 rfl) ?_
  exact xr_i (v := (nI 4)) hx hb hr hlocks hK hS dX10_words_26 (gI, gL, gA, gQ) ⟨rfl, rfl⟩ hP hD
set_option maxHeartbeats 4000000 in
set_option maxRecDepth 100000 in
theorem a_X10_in_180 (l : Launch) (dC : Nat → ClassId) (dI : Nat → Nat → Nat) (h : Nat → Nat) (cs : Nat → ClassId) (sz : Nat) (I : Nat → Int32) (L : Nat → Int64) (A : Nat → Nat → Int32) (Q : Nat → Nat → Int64) : Met l yX10_in wsX10_in ({ frames := 0, cells := 0, slots := 0, locals := 0 }) (va_Pc [.long (0 : Int64), .long (0 : Int64), .long (3 : Int64)] (xPre (dC, dI) ([] : va_W) (tysA cs) sz)) (va_Qi (fun (r : Int32) (u : RS) => (r = nI 1) ∧ u = (I, L, A, Q)) (xB (dC, dI) (tysA cs) (va_A ([] : va_W) sz) (fun _ : RS => ([] : va_W))) (va_A ([] : va_W) sz)) 0 0 (va_A ([] : va_W) sz) := by
  refine Met.ofW (cc := cX10_in) (maxL := 6) (ret := (some .boolean)) (by decide) rfl ?_
  intro p e s m args below meth c s₁ B hml hv
  obtain ⟨rfl, hsz, hP, hK, hD0, hN⟩ := hv
  have hx := B.exec
  have hb := B.bytes
  have hr := B.returns
  have hts := atoms_spec (ws := wsX10_in) B.pre
  have hown : s.vm.findClass RX10 = some m.cls := findClass_of_methodNamed B.named
  have hlocks := B.notSynchronized
  subst hsz
  have hD := hD0.self (sz := s.heap.size)
  generalize hAe : va_A ([] : va_W) s.heap.size = A0 at hD ⊢
  have hA : ∀ q : Nat, s.heap.size ≤ q → A0 q := fun q h => by rw [← hAe]; exact Or.inr h
  have hl := lv_entry ([.long (0 : Int64), .long (0 : Int64), .long (3 : Int64)]) (n := 6) (Nat.le_of_ble_eq_true rfl)
  rw [lg_entry_eq]
  generalize (lg_sl ([.long (0 : Int64), .long (0 : Int64), .long (3 : Int64)]) ++ List.replicate (6 - (lg_sl ([.long (0 : Int64), .long (0 : Int64), .long (3 : Int64)])).length) Slot.unset).toArray = ls at hl ⊢
  have hl : lv_has ls 6 [(0, .long (0 : Int64)), (2, .long (0 : Int64)), (4, .long (3 : Int64))] := hl
  generalize hH : s.heap = H at hP ⊢
  have hS : va_S A0 s.heap H [] := by rw [← hH]; exact va_S.rf
  refine lv_lload_n hx hb dX10_in_0 rfl (lv_at hl 0 rfl) ?_
  refine lv_lload_n hx hb dX10_in_1 rfl (lv_at hl 1 rfl) ?_
  refine xl_lt (tgt := 17) hx hb dX10_in_2 dX10_in_3 (by decide) (fun c9 => False.elim (by revert c9; decide +kernel)) (fun _ => ?_)
  refine lv_lload_n hx hb dX10_in_6 rfl (lv_at hl 0 rfl) ?_
  refine lv_lload hx hb dX10_in_7 (lv_at hl 2 rfl) ?_
  refine xl_gt (tgt := 17) hx hb dX10_in_9 dX10_in_10 (by decide) (fun c9 => False.elim (by revert c9; decide +kernel)) (fun _ => ?_)
  refine lv_iconst (v := nI 1) hx hb dX10_in_13 (by decide) ?_
  refine lv_goto (tgt := 18) hx hb dX10_in_14 (by decide) ?_
  exact xr_z (v := (nI 1)) hx hb hr hlocks hK hS dX10_in_18 (rfl) (I, L, A, Q) ⟨rfl, rfl⟩ hP hD
set_option maxHeartbeats 4000000 in
set_option maxRecDepth 100000 in
theorem a_X10_isWord_178 (l : Launch) (dC : Nat → ClassId) (dI : Nat → Nat → Nat) (h : Nat → Nat) (cs : Nat → ClassId) (sz : Nat) (I : Nat → Int32) (L : Nat → Int64) (A : Nat → Nat → Int32) (Q : Nat → Nat → Int64) : Met l yX10_isWord wsX10_isWord ({ frames := 1, cells := 0, slots := 0, locals := 25 }) (va_Pc [.ref (h 0), .int (nI 0)] (xPre (dC, dI) (wD_177 h cs gI gL gA gQ) (tysA cs) sz)) (va_Qi (fun (r : Int32) (u : RS) => (r = nI 1) ∧ u = (gI, gL, gA, gQ)) (xB (dC, dI) (tysA cs) (va_A (wD_177 h cs gI gL gA gQ) sz) (fun u : RS => wD_177 h cs u.1 u.2.1 u.2.2.1 u.2.2.2)) (va_A (wD_177 h cs gI gL gA gQ) sz)) 0 0 (va_A (wD_177 h cs gI gL gA gQ) sz) := by
  refine Met.ofW (cc := cX10_isWord) (maxL := 2) (ret := (some .boolean)) (by decide) rfl ?_
  intro p e s m args below meth c s₁ B hml hv
  obtain ⟨rfl, hsz, hP, hK, hD0, hN⟩ := hv
  have hx := B.exec
  have hb := B.bytes
  have hr := B.returns
  have hts := atoms_spec (ws := wsX10_isWord) B.pre
  have hown : s.vm.findClass RX10 = some m.cls := findClass_of_methodNamed B.named
  have hlocks := B.notSynchronized
  subst hsz
  have hD := hD0.self (sz := s.heap.size)
  generalize hAe : va_A (wD_177 h cs gI gL gA gQ) s.heap.size = A0 at hD ⊢
  have hA : ∀ q : Nat, s.heap.size ≤ q → A0 q := fun q h => by rw [← hAe]; exact Or.inr h
  have hl := lv_entry ([.ref (h 0), .int (nI 0)]) (n := 2) (Nat.le_of_ble_eq_true rfl)
  rw [lg_entry_eq]
  generalize (lg_sl ([.ref (h 0), .int (nI 0)]) ++ List.replicate (2 - (lg_sl ([.ref (h 0), .int (nI 0)])).length) Slot.unset).toArray = ls at hl ⊢
  have hl : lv_has ls 2 [(0, .ref (h 0)), (1, .int (nI 0))] := hl
  generalize hH : s.heap = H at hP ⊢
  have hS : va_S A0 s.heap H [] := by rw [← hH]; exact va_S.rf
  refine lv_iload_n hx hb dX10_isWord_0 rfl (lv_at hl 1 rfl) ?_
  refine lv_i2l (v := (0 : Int64)) hx hb dX10_isWord_1 (by decide +kernel) ?_
  refine lv_lconst (v := 0) hx hb dX10_isWord_2 rfl ?_
  refine lv_aload_n hx hb dX10_isWord_3 rfl (lv_at hl 0 rfl) ?_
  refine xj_i (wc := (wD_177 h cs gI gL gA gQ)) (wr := ([] : va_W)) hP hD hS hA [0, 1, 2, 3, 4, 5, 6, 7, 8, 9, 10, 11, 12, 13, 14, 15, 16] [] rfl rfl (by decide) (by decide) (va_runV (As := []) (rest := [.long (0 : Int64), .long (0 : Int64)]) ⟨hx, hb, hml, hown, hts⟩ (a_X10_words_179 l dC dI h cs H.size gI gL gA gQ ) (cwV 0 hts gX10_isWord_X10_words rfl rfl rfl (by decide +kernel) ⟨Nat.le_of_ble_eq_true rfl, Nat.le_of_ble_eq_true rfl⟩) (xpV (wc := (wD_177 h cs gI gL gA gQ)) hP hD hK hN [0, 1, 2, 3, 4, 5, 6, 7, 8, 9, 10, 11, 12, 13, 14, 15, 16] rfl (by decide) 0 (ci := 10) rfl rfl _) rfl rfl hl.1 rfl (lv_room (Nat.le_of_ble_eq_true rfl)) dX10_isWord_4 ⟨Nat.zero_le _, Nat.zero_le _⟩) (fun r_2 u_1 H locs hw hP hD hS => ?_)
  obtain ⟨hf_3, rfl⟩ := hw
  have hP : va_P (dC, dI) vwCl (wD_177 h cs gI gL gA gQ) H := hP
  have hD : va_D A0 (wD_177 h cs gI gL gA gQ) := hD
  obtain rfl := hf_3
  refine lv_iconst (v := nI 1) hx hb dX10_isWord_7 (by decide) ?_
  refine lv_isub hx hb dX10_isWord_8 ?_
  refine xt_i (y := nI 3) (by decide +kernel) ?_
  refine lv_i2l (v := (3 : Int64)) hx hb dX10_isWord_9 (by decide +kernel) ?_
  refine xj_i (wc := ([] : va_W)) (wr := (wD_177 h cs gI gL gA gQ)) hP hD hS hA [] [0, 1, 2, 3, 4, 5, 6, 7, 8, 9, 10, 11, 12, 13, 14, 15, 16] rfl rfl (by decide) (by decide) (va_runS (As := [.long (0 : Int64), .long (0 : Int64), .long (3 : Int64)]) (rest := []) ⟨hx, hb, hml, hown, hts⟩ (a_X10_in_180 l dC dI h cs H.size I L A Q ) (va_cwS 3 hts gX10_isWord_X10_in rfl rfl rfl (by decide +kernel) ⟨Nat.le_of_ble_eq_true rfl, Nat.le_of_ble_eq_true rfl⟩) (xpS (wc := ([] : va_W)) hP hD hK hN [] rfl (by decide) _) rfl rfl hl.1 rfl (lv_room (Nat.le_of_ble_eq_true rfl)) dX10_isWord_10 ⟨Nat.zero_le _, Nat.zero_le _⟩) (fun r_5 u_4 H locs hw hP hD hS => ?_)
  obtain ⟨hf_6, rfl⟩ := hw
  have hP : va_P (dC, dI) vwCl (wD_177 h cs gI gL gA gQ) H := hP
  have hD : va_D A0 (wD_177 h cs gI gL gA gQ) := hD
  obtain rfl := hf_6
  exact xr_z (v := (nI 1)) hx hb hr hlocks hK hS dX10_isWord_13 (rfl) (gI, gL, gA, gQ) ⟨rfl, rfl⟩ hP hD
set_option maxHeartbeats 4000000 in
set_option maxRecDepth 100000 in
theorem a_X10_letter_182 (l : Launch) (dC : Nat → ClassId) (dI : Nat → Nat → Nat) (h : Nat → Nat) (cs : Nat → ClassId) (sz : Nat) (I : Nat → Int32) (L : Nat → Int64) (A : Nat → Nat → Int32) (Q : Nat → Nat → Int64) : Met l yX10_letter wsX10_letter ({ frames := 0, cells := 0, slots := 0, locals := 0 }) (va_Pc [.ref (h 0), .int (nI 0), .int (nI 0)] (xPre (dC, dI) (wD_177 h cs gI gL gA gQ) (tysA cs) sz)) (va_Qi (fun (r : Int32) (u : RS) => (r = (-1 : Int32)) ∧ u = (gI, gL, gA, gQ)) (xB (dC, dI) (tysA cs) (va_A (wD_177 h cs gI gL gA gQ) sz) (fun u : RS => wD_177 h cs u.1 u.2.1 u.2.2.1 u.2.2.2)) (va_A (wD_177 h cs gI gL gA gQ) sz)) 0 0 (va_A (wD_177 h cs gI gL gA gQ) sz) := by
  refine Met.ofW (cc := cX10_letter) (maxL := 5) (ret := (some .int)) (by decide) rfl ?_
  intro p e s m args below meth c s₁ B hml hv
  obtain ⟨rfl, hsz, hP, hK, hD0, hN⟩ := hv
  have hx := B.exec
  have hb := B.bytes
  have hr := B.returns
  have hts := atoms_spec (ws := wsX10_letter) B.pre
  have hown : s.vm.findClass RX10 = some m.cls := findClass_of_methodNamed B.named
  have hlocks := B.notSynchronized
  subst hsz
  have hD := hD0.self (sz := s.heap.size)
  generalize hAe : va_A (wD_177 h cs gI gL gA gQ) s.heap.size = A0 at hD ⊢
  have hA : ∀ q : Nat, s.heap.size ≤ q → A0 q := fun q h => by rw [← hAe]; exact Or.inr h
  have hl := lv_entry ([.ref (h 0), .int (nI 0), .int (nI 0)]) (n := 5) (Nat.le_of_ble_eq_true rfl)
  rw [lg_entry_eq]
  generalize (lg_sl ([.ref (h 0), .int (nI 0), .int (nI 0)]) ++ List.replicate (5 - (lg_sl ([.ref (h 0), .int (nI 0), .int (nI 0)])).length) Slot.unset).toArray = ls at hl ⊢
  have hl : lv_has ls 5 [(0, .ref (h 0)), (1, .int (nI 0)), (2, .int (nI 0))] := hl
  generalize hH : s.heap = H at hP ⊢
  have hS : va_S A0 s.heap H [] := by rw [← hH]; exact va_S.rf
  have hinX10 : ∀ w ∈ wsX100, w ∈ wsX10_letter := by decide +kernel
  refine lv_iload_n hx hb dX10_letter_0 rfl (lv_at hl 1 rfl) ?_
  refine lv_istore_n (lv' := [(3, .int (nI 0)), (0, .ref (h 0)), (1, .int (nI 0)), (2, .int (nI 0))]) hx hb dX10_letter_1 rfl hl (by decide) rfl (fun ls hl => ?_)
  refine lv_aload_n hx hb dX10_letter_2 rfl (lv_at hl 1 rfl) ?_
  refine va_get (D := (dC, dI)) (ci := 10) (v := .int (gI 1)) (C := RX10) (T := TX10) (N := 28) hx hb hts hinX10 hown hK hP 0 rfl rfl 1 (by decide) (hts (.fieldLink RX10 13 "MixedWordsModel" "columns" "I") (by decide +kernel)) (fun _ h9 => h9) rfl dX10_letter_3 ?_
  refine xt_i (y := nI 2) (by decide +kernel) ?_
  refine lv_iconst (v := nI 1) hx hb dX10_letter_6 (by decide) ?_
  refine lv_isub hx hb dX10_letter_7 ?_
  refine xt_i (y := nI 1) (by decide +kernel) ?_
  refine lv_istore (lv' := [(4, .int (nI 1)), (3, .int (nI 0)), (0, .ref (h 0)), (1, .int (nI 0)), (2, .int (nI 0))]) hx hb dX10_letter_8 hl (by decide) rfl (fun ls hl => ?_)
  refine lv_iload hx hb dX10_letter_10 (lv_at hl 0 rfl) ?_
  refine lv_iload_n hx hb dX10_letter_12 rfl (lv_at hl 4 rfl) ?_
  refine lv_icmp_le (tgt := 29) hx hb dX10_letter_13 (by decide) (fun c9 => False.elim (by revert c9; decide +kernel)) (fun _ => ?_)
  refine lv_iload_n hx hb dX10_letter_16 rfl (lv_at hl 1 rfl) ?_
  refine lv_aload_n hx hb dX10_letter_17 rfl (lv_at hl 2 rfl) ?_
  refine va_get (D := (dC, dI)) (ci := 10) (v := .int (gI 2)) (C := RX10) (T := TX10) (N := 28) hx hb hts hinX10 hown hK hP 0 rfl rfl 2 (by decide) (hts (.fieldLink RX10 16 "MixedWordsModel" "a" "I") (by decide +kernel)) (fun _ h9 => h9) rfl dX10_letter_18 ?_
  refine xt_i (y := nI 2) (by decide +kernel) ?_
  refine lv_idiv hx hb dX10_letter_21 (by decide +kernel) ?_
  refine xt_i (y := nI 0) (by decide +kernel) ?_
  refine lv_istore_n (lv' := [(3, .int (nI 0)), (4, .int (nI 1)), (0, .ref (h 0)), (1, .int (nI 0)), (2, .int (nI 0))]) hx hb dX10_letter_22 rfl hl (by decide) rfl (fun ls hl => ?_)
  refine lv_iinc (v := nI 0) (lv' := [(4, .int (nI 0)), (3, .int (nI 0)), (0, .ref (h 0)), (1, .int (nI 0)), (2, .int (nI 0))]) hx hb dX10_letter_23 hl (k := 1) rfl (by decide +kernel) (by decide) rfl (fun ls hl => ?_)
  refine lv_goto (tgt := 10) hx hb dX10_letter_26 (by decide) ?_
  refine lv_iload hx hb dX10_letter_10 (lv_at hl 0 rfl) ?_
  refine lv_iload_n hx hb dX10_letter_12 rfl (lv_at hl 4 rfl) ?_
  refine lv_icmp_le (tgt := 29) hx hb dX10_letter_13 (by decide) (fun _ => ?_) (fun c9 => False.elim (by revert c9; decide +kernel))
  refine lv_iconst (v := nI 2) hx hb dX10_letter_29 (by decide) ?_
  refine lv_iload_n hx hb dX10_letter_30 rfl (lv_at hl 1 rfl) ?_
  refine lv_aload_n hx hb dX10_letter_31 rfl (lv_at hl 2 rfl) ?_
  refine va_get (D := (dC, dI)) (ci := 10) (v := .int (gI 2)) (C := RX10) (T := TX10) (N := 28) hx hb hts hinX10 hown hK hP 0 rfl rfl 2 (by decide) (hts (.fieldLink RX10 16 "MixedWordsModel" "a" "I") (by decide +kernel)) (fun _ h9 => h9) rfl dX10_letter_32 ?_
  refine xt_i (y := nI 2) (by decide +kernel) ?_
  refine lv_irem hx hb dX10_letter_35 (by decide +kernel) ?_
  refine xt_i (y := nI 0) (by decide +kernel) ?_
  refine lv_imul hx hb dX10_letter_36 ?_
  refine xt_i (y := nI 0) (by decide +kernel) ?_
  refine lv_aload_n hx hb dX10_letter_37 rfl (lv_at hl 2 rfl) ?_
  refine va_get (D := (dC, dI)) (ci := 10) (v := .int (gI 2)) (C := RX10) (T := TX10) (N := 28) hx hb hts hinX10 hown hK hP 0 rfl rfl 2 (by decide) (hts (.fieldLink RX10 16 "MixedWordsModel" "a" "I") (by decide +kernel)) (fun _ h9 => h9) rfl dX10_letter_38 ?_
  refine xt_i (y := nI 2) (by decide +kernel) ?_
  refine lv_isub hx hb dX10_letter_41 ?_
  refine xt_i (y := (-2 : Int32)) (by decide +kernel) ?_
  refine lv_iconst (v := nI 1) hx hb dX10_letter_42 (by decide) ?_
  refine lv_iadd hx hb dX10_letter_43 ?_
  refine xt_i (y := (-1 : Int32)) (by decide +kernel) ?_
  exact xr_i (v := (-1 : Int32)) hx hb hr hlocks hK hS dX10_letter_44 (gI, gL, gA, gQ) ⟨rfl, rfl⟩ hP hD
set_option maxHeartbeats 4000000 in
set_option maxRecDepth 100000 in
theorem a_X10_letter_183 (l : Launch) (dC : Nat → ClassId) (dI : Nat → Nat → Nat) (h : Nat → Nat) (cs : Nat → ClassId) (sz : Nat) (I : Nat → Int32) (L : Nat → Int64) (A : Nat → Nat → Int32) (Q : Nat → Nat → Int64) : Met l yX10_letter wsX10_letter ({ frames := 0, cells := 0, slots := 0, locals := 0 }) (va_Pc [.ref (h 0), .int (nI 0), .int (nI 1)] (xPre (dC, dI) (wD_177 h cs gI gL gA gQ) (tysA cs) sz)) (va_Qi (fun (r : Int32) (u : RS) => (r = (-1 : Int32)) ∧ u = (gI, gL, gA, gQ)) (xB (dC, dI) (tysA cs) (va_A (wD_177 h cs gI gL gA gQ) sz) (fun u : RS => wD_177 h cs u.1 u.2.1 u.2.2.1 u.2.2.2)) (va_A (wD_177 h cs gI gL gA gQ) sz)) 0 0 (va_A (wD_177 h cs gI gL gA gQ) sz) := by
  refine Met.ofW (cc := cX10_letter) (maxL := 5) (ret := (some .int)) (by decide) rfl ?_
  intro p e s m args below meth c s₁ B hml hv
  obtain ⟨rfl, hsz, hP, hK, hD0, hN⟩ := hv
  have hx := B.exec
  have hb := B.bytes
  have hr := B.returns
  have hts := atoms_spec (ws := wsX10_letter) B.pre
  have hown : s.vm.findClass RX10 = some m.cls := findClass_of_methodNamed B.named
  have hlocks := B.notSynchronized
  subst hsz
  have hD := hD0.self (sz := s.heap.size)
  generalize hAe : va_A (wD_177 h cs gI gL gA gQ) s.heap.size = A0 at hD ⊢
  have hA : ∀ q : Nat, s.heap.size ≤ q → A0 q := fun q h => by rw [← hAe]; exact Or.inr h
  have hl := lv_entry ([.ref (h 0), .int (nI 0), .int (nI 1)]) (n := 5) (Nat.le_of_ble_eq_true rfl)
  rw [lg_entry_eq]
  generalize (lg_sl ([.ref (h 0), .int (nI 0), .int (nI 1)]) ++ List.replicate (5 - (lg_sl ([.ref (h 0), .int (nI 0), .int (nI 1)])).length) Slot.unset).toArray = ls at hl ⊢
  have hl : lv_has ls 5 [(0, .ref (h 0)), (1, .int (nI 0)), (2, .int (nI 1))] := hl
  generalize hH : s.heap = H at hP ⊢
  have hS : va_S A0 s.heap H [] := by rw [← hH]; exact va_S.rf
  have hinX10 : ∀ w ∈ wsX100, w ∈ wsX10_letter := by decide +kernel
  refine lv_iload_n hx hb dX10_letter_0 rfl (lv_at hl 1 rfl) ?_
  refine lv_istore_n (lv' := [(3, .int (nI 0)), (0, .ref (h 0)), (1, .int (nI 0)), (2, .int (nI 1))]) hx hb dX10_letter_1 rfl hl (by decide) rfl (fun ls hl => ?_)
  refine lv_aload_n hx hb dX10_letter_2 rfl (lv_at hl 1 rfl) ?_
  refine va_get (D := (dC, dI)) (ci := 10) (v := .int (gI 1)) (C := RX10) (T := TX10) (N := 28) hx hb hts hinX10 hown hK hP 0 rfl rfl 1 (by decide) (hts (.fieldLink RX10 13 "MixedWordsModel" "columns" "I") (by decide +kernel)) (fun _ h9 => h9) rfl dX10_letter_3 ?_
  refine xt_i (y := nI 2) (by decide +kernel) ?_
  refine lv_iconst (v := nI 1) hx hb dX10_letter_6 (by decide) ?_
  refine lv_isub hx hb dX10_letter_7 ?_
  refine xt_i (y := nI 1) (by decide +kernel) ?_
  refine lv_istore (lv' := [(4, .int (nI 1)), (3, .int (nI 0)), (0, .ref (h 0)), (1, .int (nI 0)), (2, .int (nI 1))]) hx hb dX10_letter_8 hl (by decide) rfl (fun ls hl => ?_)
  refine lv_iload hx hb dX10_letter_10 (lv_at hl 0 rfl) ?_
  refine lv_iload_n hx hb dX10_letter_12 rfl (lv_at hl 4 rfl) ?_
  refine lv_icmp_le (tgt := 29) hx hb dX10_letter_13 (by decide) (fun _ => ?_) (fun c9 => False.elim (by revert c9; decide +kernel))
  refine lv_iconst (v := nI 2) hx hb dX10_letter_29 (by decide) ?_
  refine lv_iload_n hx hb dX10_letter_30 rfl (lv_at hl 1 rfl) ?_
  refine lv_aload_n hx hb dX10_letter_31 rfl (lv_at hl 2 rfl) ?_
  refine va_get (D := (dC, dI)) (ci := 10) (v := .int (gI 2)) (C := RX10) (T := TX10) (N := 28) hx hb hts hinX10 hown hK hP 0 rfl rfl 2 (by decide) (hts (.fieldLink RX10 16 "MixedWordsModel" "a" "I") (by decide +kernel)) (fun _ h9 => h9) rfl dX10_letter_32 ?_
  refine xt_i (y := nI 2) (by decide +kernel) ?_
  refine lv_irem hx hb dX10_letter_35 (by decide +kernel) ?_
  refine xt_i (y := nI 0) (by decide +kernel) ?_
  refine lv_imul hx hb dX10_letter_36 ?_
  refine xt_i (y := nI 0) (by decide +kernel) ?_
  refine lv_aload_n hx hb dX10_letter_37 rfl (lv_at hl 2 rfl) ?_
  refine va_get (D := (dC, dI)) (ci := 10) (v := .int (gI 2)) (C := RX10) (T := TX10) (N := 28) hx hb hts hinX10 hown hK hP 0 rfl rfl 2 (by decide) (hts (.fieldLink RX10 16 "MixedWordsModel" "a" "I") (by decide +kernel)) (fun _ h9 => h9) rfl dX10_letter_38 ?_
  refine xt_i (y := nI 2) (by decide +kernel) ?_
  refine lv_isub hx hb dX10_letter_41 ?_
  refine xt_i (y := (-2 : Int32)) (by decide +kernel) ?_
  refine lv_iconst (v := nI 1) hx hb dX10_letter_42 (by decide) ?_
  refine lv_iadd hx hb dX10_letter_43 ?_
  refine xt_i (y := (-1 : Int32)) (by decide +kernel) ?_
  exact xr_i (v := (-1 : Int32)) hx hb hr hlocks hK hS dX10_letter_44 (gI, gL, gA, gQ) ⟨rfl, rfl⟩ hP hD
set_option maxHeartbeats 4000000 in
set_option maxRecDepth 100000 in
theorem a_X10_offOf_181 (l : Launch) (dC : Nat → ClassId) (dI : Nat → Nat → Nat) (h : Nat → Nat) (cs : Nat → ClassId) (sz : Nat) (I : Nat → Int32) (L : Nat → Int64) (A : Nat → Nat → Int32) (Q : Nat → Nat → Int64) : Met l yX10_offOf wsX10_offOf ({ frames := 1, cells := 0, slots := 0, locals := 24 }) (va_Pc [.ref (h 0), .int (nI 0)] (xPre (dC, dI) (wD_177 h cs gI gL gA gQ) (tysA cs) sz)) (va_Qi (fun (r : Int32) (u : RS) => (r = nI 0) ∧ u = (gI, gL, gA, gQ)) (xB (dC, dI) (tysA cs) (va_A (wD_177 h cs gI gL gA gQ) sz) (fun u : RS => wD_177 h cs u.1 u.2.1 u.2.2.1 u.2.2.2)) (va_A (wD_177 h cs gI gL gA gQ) sz)) 0 0 (va_A (wD_177 h cs gI gL gA gQ) sz) := by
  refine Met.ofW (cc := cX10_offOf) (maxL := 6) (ret := (some .int)) (by decide) rfl ?_
  intro p e s m args below meth c s₁ B hml hv
  obtain ⟨rfl, hsz, hP, hK, hD0, hN⟩ := hv
  have hx := B.exec
  have hb := B.bytes
  have hr := B.returns
  have hts := atoms_spec (ws := wsX10_offOf) B.pre
  have hown : s.vm.findClass RX10 = some m.cls := findClass_of_methodNamed B.named
  have hlocks := B.notSynchronized
  subst hsz
  have hD := hD0.self (sz := s.heap.size)
  generalize hAe : va_A (wD_177 h cs gI gL gA gQ) s.heap.size = A0 at hD ⊢
  have hA : ∀ q : Nat, s.heap.size ≤ q → A0 q := fun q h => by rw [← hAe]; exact Or.inr h
  have hl := lv_entry ([.ref (h 0), .int (nI 0)]) (n := 6) (Nat.le_of_ble_eq_true rfl)
  rw [lg_entry_eq]
  generalize (lg_sl ([.ref (h 0), .int (nI 0)]) ++ List.replicate (6 - (lg_sl ([.ref (h 0), .int (nI 0)])).length) Slot.unset).toArray = ls at hl ⊢
  have hl : lv_has ls 6 [(0, .ref (h 0)), (1, .int (nI 0))] := hl
  generalize hH : s.heap = H at hP ⊢
  have hS : va_S A0 s.heap H [] := by rw [← hH]; exact va_S.rf
  have hinX10 : ∀ w ∈ wsX100, w ∈ wsX10_offOf := by decide +kernel
  refine lv_iconst (v := nI 0) hx hb dX10_offOf_0 (by decide) ?_
  refine lv_istore_n (lv' := [(2, .int (nI 0)), (0, .ref (h 0)), (1, .int (nI 0))]) hx hb dX10_offOf_1 rfl hl (by decide) rfl (fun ls hl => ?_)
  refine lv_iconst (v := nI 0) hx hb dX10_offOf_2 (by decide) ?_
  refine lv_istore_n (lv' := [(3, .int (nI 0)), (2, .int (nI 0)), (0, .ref (h 0)), (1, .int (nI 0))]) hx hb dX10_offOf_3 rfl hl (by decide) rfl (fun ls hl => ?_)
  refine lv_iload_n hx hb dX10_offOf_4 rfl (lv_at hl 0 rfl) ?_
  refine lv_aload_n hx hb dX10_offOf_5 rfl (lv_at hl 2 rfl) ?_
  refine va_get (D := (dC, dI)) (ci := 10) (v := .int (gI 0)) (C := RX10) (T := TX10) (N := 28) hx hb hts hinX10 hown hK hP 0 rfl rfl 0 (by decide) (hts (.fieldLink RX10 7 "MixedWordsModel" "rows" "I") (by decide +kernel)) (fun _ h9 => h9) rfl dX10_offOf_6 ?_
  refine xt_i (y := nI 2) (by decide +kernel) ?_
  refine lv_icmp_ge (tgt := 80) hx hb dX10_offOf_9 (by decide) (fun c9 => False.elim (by revert c9; decide +kernel)) (fun _ => ?_)
  refine lv_aload_n hx hb dX10_offOf_12 rfl (lv_at hl 2 rfl) ?_
  refine va_get (D := (dC, dI)) (ci := 10) (v := .ref (h 3)) (C := RX10) (T := TX10) (N := 28) hx hb hts hinX10 hown hK hP 0 rfl rfl 3 (by decide) (hts (.fieldLink RX10 19 "MixedWordsModel" "told" "[I") (by decide +kernel)) (fun _ h9 => h9) rfl dX10_offOf_13 ?_
  refine lv_iconst (v := nI 5) hx hb dX10_offOf_16 (by decide) ?_
  refine lv_iload_n hx hb dX10_offOf_17 rfl (lv_at hl 0 rfl) ?_
  refine lv_imul hx hb dX10_offOf_18 ?_
  refine xt_i (y := nI 0) (by decide +kernel) ?_
  refine lv_iconst (v := nI 4) hx hb dX10_offOf_19 (by decide) ?_
  refine lv_iadd hx hb dX10_offOf_20 ?_
  refine xt_i (y := nI 4) (by decide +kernel) ?_
  refine xa_iald hx hb hK hP 1 0 rfl rfl (by omega) (by decide) dX10_offOf_21 ?_
  refine xt_i (y := nI 0) (by decide +kernel) ?_
  refine lv_istore (lv' := [(4, .int (nI 0)), (3, .int (nI 0)), (2, .int (nI 0)), (0, .ref (h 0)), (1, .int (nI 0))]) hx hb dX10_offOf_22 hl (by decide) rfl (fun ls hl => ?_)
  refine lv_iconst (v := nI 0) hx hb dX10_offOf_24 (by decide) ?_
  refine lv_istore (lv' := [(5, .int (nI 0)), (4, .int (nI 0)), (3, .int (nI 0)), (2, .int (nI 0)), (0, .ref (h 0)), (1, .int (nI 0))]) hx hb dX10_offOf_25 hl (by decide) rfl (fun ls hl => ?_)
  refine lv_iload hx hb dX10_offOf_27 (lv_at hl 0 rfl) ?_
  refine lv_aload_n hx hb dX10_offOf_29 rfl (lv_at hl 4 rfl) ?_
  refine va_get (D := (dC, dI)) (ci := 10) (v := .int (gI 1)) (C := RX10) (T := TX10) (N := 28) hx hb hts hinX10 hown hK hP 0 rfl rfl 1 (by decide) (hts (.fieldLink RX10 13 "MixedWordsModel" "columns" "I") (by decide +kernel)) (fun _ h9 => h9) rfl dX10_offOf_30 ?_
  refine xt_i (y := nI 2) (by decide +kernel) ?_
  refine lv_icmp_ge (tgt := 66) hx hb dX10_offOf_33 (by decide) (fun c9 => False.elim (by revert c9; decide +kernel)) (fun _ => ?_)
  refine lv_iload hx hb dX10_offOf_36 (lv_at hl 1 rfl) ?_
  refine lv_aload_n hx hb dX10_offOf_38 rfl (lv_at hl 4 rfl) ?_
  refine va_get (D := (dC, dI)) (ci := 10) (v := .ref (h 3)) (C := RX10) (T := TX10) (N := 28) hx hb hts hinX10 hown hK hP 0 rfl rfl 3 (by decide) (hts (.fieldLink RX10 19 "MixedWordsModel" "told" "[I") (by decide +kernel)) (fun _ h9 => h9) rfl dX10_offOf_39 ?_
  refine lv_iconst (v := nI 5) hx hb dX10_offOf_42 (by decide) ?_
  refine lv_iload_n hx hb dX10_offOf_43 rfl (lv_at hl 2 rfl) ?_
  refine lv_imul hx hb dX10_offOf_44 ?_
  refine xt_i (y := nI 0) (by decide +kernel) ?_
  refine lv_iload hx hb dX10_offOf_45 (lv_at hl 0 rfl) ?_
  refine lv_iadd hx hb dX10_offOf_47 ?_
  refine xt_i (y := nI 0) (by decide +kernel) ?_
  refine xa_iald hx hb hK hP 1 0 rfl rfl (by omega) (by decide) dX10_offOf_48 ?_
  refine xt_i (y := nI 0) (by decide +kernel) ?_
  refine lv_aload_n hx hb dX10_offOf_49 rfl (lv_at hl 4 rfl) ?_
  refine lv_iload_n hx hb dX10_offOf_50 rfl (lv_at hl 5 rfl) ?_
  refine lv_iload hx hb dX10_offOf_51 (lv_at hl 0 rfl) ?_
  refine xj_i (wc := (wD_177 h cs gI gL gA gQ)) (wr := ([] : va_W)) hP hD hS hA [0, 1, 2, 3, 4, 5, 6, 7, 8, 9, 10, 11, 12, 13, 14, 15, 16] [] rfl rfl (by decide) (by decide) (va_runV (As := [.int (nI 0), .int (nI 0)]) (rest := [.int (nI 0), .int (nI 0)]) ⟨hx, hb, hml, hown, hts⟩ (a_X10_letter_182 l dC dI h cs H.size gI gL gA gQ ) (cwV 2 hts gX10_offOf_X10_letter rfl rfl rfl (by decide +kernel) ⟨Nat.le_of_ble_eq_true rfl, Nat.le_of_ble_eq_true rfl⟩) (xpV (wc := (wD_177 h cs gI gL gA gQ)) hP hD hK hN [0, 1, 2, 3, 4, 5, 6, 7, 8, 9, 10, 11, 12, 13, 14, 15, 16] rfl (by decide) 0 (ci := 10) rfl rfl _) rfl rfl hl.1 rfl (lv_room (Nat.le_of_ble_eq_true rfl)) dX10_offOf_53 ⟨Nat.zero_le _, Nat.zero_le _⟩) (fun r_2 u_1 H locs hw hP hD hS => ?_)
  obtain ⟨hf_3, rfl⟩ := hw
  have hP : va_P (dC, dI) vwCl (wD_177 h cs gI gL gA gQ) H := hP
  have hD : va_D A0 (wD_177 h cs gI gL gA gQ) := hD
  obtain rfl := hf_3
  refine lv_imul hx hb dX10_offOf_56 ?_
  refine xt_i (y := nI 0) (by decide +kernel) ?_
  refine lv_isub hx hb dX10_offOf_57 ?_
  refine xt_i (y := nI 0) (by decide +kernel) ?_
  refine lv_istore (lv' := [(4, .int (nI 0)), (5, .int (nI 0)), (3, .int (nI 0)), (2, .int (nI 0)), (0, .ref (h 0)), (1, .int (nI 0))]) hx hb dX10_offOf_58 hl (by decide) rfl (fun ls hl => ?_)
  refine lv_iinc (v := nI 1) (lv' := [(5, .int (nI 1)), (4, .int (nI 0)), (3, .int (nI 0)), (2, .int (nI 0)), (0, .ref (h 0)), (1, .int (nI 0))]) hx hb dX10_offOf_60 hl (k := 1) rfl (by decide +kernel) (by decide) rfl (fun ls hl => ?_)
  refine lv_goto (tgt := 27) hx hb dX10_offOf_63 (by decide) ?_
  refine lv_iload hx hb dX10_offOf_27 (lv_at hl 0 rfl) ?_
  refine lv_aload_n hx hb dX10_offOf_29 rfl (lv_at hl 4 rfl) ?_
  refine va_get (D := (dC, dI)) (ci := 10) (v := .int (gI 1)) (C := RX10) (T := TX10) (N := 28) hx hb hts hinX10 hown hK hP 0 rfl rfl 1 (by decide) (hts (.fieldLink RX10 13 "MixedWordsModel" "columns" "I") (by decide +kernel)) (fun _ h9 => h9) rfl dX10_offOf_30 ?_
  refine xt_i (y := nI 2) (by decide +kernel) ?_
  refine lv_icmp_ge (tgt := 66) hx hb dX10_offOf_33 (by decide) (fun c9 => False.elim (by revert c9; decide +kernel)) (fun _ => ?_)
  refine lv_iload hx hb dX10_offOf_36 (lv_at hl 1 rfl) ?_
  refine lv_aload_n hx hb dX10_offOf_38 rfl (lv_at hl 4 rfl) ?_
  refine va_get (D := (dC, dI)) (ci := 10) (v := .ref (h 3)) (C := RX10) (T := TX10) (N := 28) hx hb hts hinX10 hown hK hP 0 rfl rfl 3 (by decide) (hts (.fieldLink RX10 19 "MixedWordsModel" "told" "[I") (by decide +kernel)) (fun _ h9 => h9) rfl dX10_offOf_39 ?_
  refine lv_iconst (v := nI 5) hx hb dX10_offOf_42 (by decide) ?_
  refine lv_iload_n hx hb dX10_offOf_43 rfl (lv_at hl 2 rfl) ?_
  refine lv_imul hx hb dX10_offOf_44 ?_
  refine xt_i (y := nI 0) (by decide +kernel) ?_
  refine lv_iload hx hb dX10_offOf_45 (lv_at hl 0 rfl) ?_
  refine lv_iadd hx hb dX10_offOf_47 ?_
  refine xt_i (y := nI 1) (by decide +kernel) ?_
  refine xa_iald hx hb hK hP 1 0 rfl rfl (by omega) (by decide) dX10_offOf_48 ?_
  refine xt_i (y := nI 0) (by decide +kernel) ?_
  refine lv_aload_n hx hb dX10_offOf_49 rfl (lv_at hl 4 rfl) ?_
  refine lv_iload_n hx hb dX10_offOf_50 rfl (lv_at hl 5 rfl) ?_
  refine lv_iload hx hb dX10_offOf_51 (lv_at hl 0 rfl) ?_
  refine xj_i (wc := (wD_177 h cs gI gL gA gQ)) (wr := ([] : va_W)) hP hD hS hA [0, 1, 2, 3, 4, 5, 6, 7, 8, 9, 10, 11, 12, 13, 14, 15, 16] [] rfl rfl (by decide) (by decide) (va_runV (As := [.int (nI 0), .int (nI 1)]) (rest := [.int (nI 0), .int (nI 0)]) ⟨hx, hb, hml, hown, hts⟩ (a_X10_letter_183 l dC dI h cs H.size gI gL gA gQ ) (cwV 2 hts gX10_offOf_X10_letter rfl rfl rfl (by decide +kernel) ⟨Nat.le_of_ble_eq_true rfl, Nat.le_of_ble_eq_true rfl⟩) (xpV (wc := (wD_177 h cs gI gL gA gQ)) hP hD hK hN [0, 1, 2, 3, 4, 5, 6, 7, 8, 9, 10, 11, 12, 13, 14, 15, 16] rfl (by decide) 0 (ci := 10) rfl rfl _) rfl rfl hl.1 rfl (lv_room (Nat.le_of_ble_eq_true rfl)) dX10_offOf_53 ⟨Nat.zero_le _, Nat.zero_le _⟩) (fun r_5 u_4 H locs hw hP hD hS => ?_)
  obtain ⟨hf_6, rfl⟩ := hw
  have hP : va_P (dC, dI) vwCl (wD_177 h cs gI gL gA gQ) H := hP
  have hD : va_D A0 (wD_177 h cs gI gL gA gQ) := hD
  obtain rfl := hf_6
  refine lv_imul hx hb dX10_offOf_56 ?_
  refine xt_i (y := nI 0) (by decide +kernel) ?_
  refine lv_isub hx hb dX10_offOf_57 ?_
  refine xt_i (y := nI 0) (by decide +kernel) ?_
  refine lv_istore (lv' := [(4, .int (nI 0)), (5, .int (nI 1)), (3, .int (nI 0)), (2, .int (nI 0)), (0, .ref (h 0)), (1, .int (nI 0))]) hx hb dX10_offOf_58 hl (by decide) rfl (fun ls hl => ?_)
  refine lv_iinc (v := nI 2) (lv' := [(5, .int (nI 2)), (4, .int (nI 0)), (3, .int (nI 0)), (2, .int (nI 0)), (0, .ref (h 0)), (1, .int (nI 0))]) hx hb dX10_offOf_60 hl (k := 1) rfl (by decide +kernel) (by decide) rfl (fun ls hl => ?_)
  refine lv_goto (tgt := 27) hx hb dX10_offOf_63 (by decide) ?_
  refine lv_iload hx hb dX10_offOf_27 (lv_at hl 0 rfl) ?_
  refine lv_aload_n hx hb dX10_offOf_29 rfl (lv_at hl 4 rfl) ?_
  refine va_get (D := (dC, dI)) (ci := 10) (v := .int (gI 1)) (C := RX10) (T := TX10) (N := 28) hx hb hts hinX10 hown hK hP 0 rfl rfl 1 (by decide) (hts (.fieldLink RX10 13 "MixedWordsModel" "columns" "I") (by decide +kernel)) (fun _ h9 => h9) rfl dX10_offOf_30 ?_
  refine xt_i (y := nI 2) (by decide +kernel) ?_
  refine lv_icmp_ge (tgt := 66) hx hb dX10_offOf_33 (by decide) (fun _ => ?_) (fun c9 => False.elim (by revert c9; decide +kernel))
  refine lv_iload_n hx hb dX10_offOf_66 rfl (lv_at hl 3 rfl) ?_
  refine lv_iload hx hb dX10_offOf_67 (lv_at hl 1 rfl) ?_
  refine lv_iload hx hb dX10_offOf_69 (lv_at hl 1 rfl) ?_
  refine lv_imul hx hb dX10_offOf_71 ?_
  refine xt_i (y := nI 0) (by decide +kernel) ?_
  refine lv_iadd hx hb dX10_offOf_72 ?_
  refine xt_i (y := nI 0) (by decide +kernel) ?_
  refine lv_istore_n (lv' := [(2, .int (nI 0)), (5, .int (nI 2)), (4, .int (nI 0)), (3, .int (nI 0)), (0, .ref (h 0)), (1, .int (nI 0))]) hx hb dX10_offOf_73 rfl hl (by decide) rfl (fun ls hl => ?_)
  refine lv_iinc (v := nI 1) (lv' := [(3, .int (nI 1)), (2, .int (nI 0)), (5, .int (nI 2)), (4, .int (nI 0)), (0, .ref (h 0)), (1, .int (nI 0))]) hx hb dX10_offOf_74 hl (k := 3) rfl (by decide +kernel) (by decide) rfl (fun ls hl => ?_)
  refine lv_goto (tgt := 4) hx hb dX10_offOf_77 (by decide) ?_
  refine lv_iload_n hx hb dX10_offOf_4 rfl (lv_at hl 0 rfl) ?_
  refine lv_aload_n hx hb dX10_offOf_5 rfl (lv_at hl 4 rfl) ?_
  refine va_get (D := (dC, dI)) (ci := 10) (v := .int (gI 0)) (C := RX10) (T := TX10) (N := 28) hx hb hts hinX10 hown hK hP 0 rfl rfl 0 (by decide) (hts (.fieldLink RX10 7 "MixedWordsModel" "rows" "I") (by decide +kernel)) (fun _ h9 => h9) rfl dX10_offOf_6 ?_
  refine xt_i (y := nI 2) (by decide +kernel) ?_
  refine lv_icmp_ge (tgt := 80) hx hb dX10_offOf_9 (by decide) (fun c9 => False.elim (by revert c9; decide +kernel)) (fun _ => ?_)
  refine lv_aload_n hx hb dX10_offOf_12 rfl (lv_at hl 4 rfl) ?_
  refine va_get (D := (dC, dI)) (ci := 10) (v := .ref (h 3)) (C := RX10) (T := TX10) (N := 28) hx hb hts hinX10 hown hK hP 0 rfl rfl 3 (by decide) (hts (.fieldLink RX10 19 "MixedWordsModel" "told" "[I") (by decide +kernel)) (fun _ h9 => h9) rfl dX10_offOf_13 ?_
  refine lv_iconst (v := nI 5) hx hb dX10_offOf_16 (by decide) ?_
  refine lv_iload_n hx hb dX10_offOf_17 rfl (lv_at hl 0 rfl) ?_
  refine lv_imul hx hb dX10_offOf_18 ?_
  refine xt_i (y := nI 5) (by decide +kernel) ?_
  refine lv_iconst (v := nI 4) hx hb dX10_offOf_19 (by decide) ?_
  refine lv_iadd hx hb dX10_offOf_20 ?_
  refine xt_i (y := nI 9) (by decide +kernel) ?_
  refine xa_iald hx hb hK hP 1 0 rfl rfl (by omega) (by decide) dX10_offOf_21 ?_
  refine xt_i (y := nI 0) (by decide +kernel) ?_
  refine lv_istore (lv' := [(4, .int (nI 0)), (3, .int (nI 1)), (2, .int (nI 0)), (5, .int (nI 2)), (0, .ref (h 0)), (1, .int (nI 0))]) hx hb dX10_offOf_22 hl (by decide) rfl (fun ls hl => ?_)
  refine lv_iconst (v := nI 0) hx hb dX10_offOf_24 (by decide) ?_
  refine lv_istore (lv' := [(5, .int (nI 0)), (4, .int (nI 0)), (3, .int (nI 1)), (2, .int (nI 0)), (0, .ref (h 0)), (1, .int (nI 0))]) hx hb dX10_offOf_25 hl (by decide) rfl (fun ls hl => ?_)
  refine lv_iload hx hb dX10_offOf_27 (lv_at hl 0 rfl) ?_
  refine lv_aload_n hx hb dX10_offOf_29 rfl (lv_at hl 4 rfl) ?_
  refine va_get (D := (dC, dI)) (ci := 10) (v := .int (gI 1)) (C := RX10) (T := TX10) (N := 28) hx hb hts hinX10 hown hK hP 0 rfl rfl 1 (by decide) (hts (.fieldLink RX10 13 "MixedWordsModel" "columns" "I") (by decide +kernel)) (fun _ h9 => h9) rfl dX10_offOf_30 ?_
  refine xt_i (y := nI 2) (by decide +kernel) ?_
  refine lv_icmp_ge (tgt := 66) hx hb dX10_offOf_33 (by decide) (fun c9 => False.elim (by revert c9; decide +kernel)) (fun _ => ?_)
  refine lv_iload hx hb dX10_offOf_36 (lv_at hl 1 rfl) ?_
  refine lv_aload_n hx hb dX10_offOf_38 rfl (lv_at hl 4 rfl) ?_
  refine va_get (D := (dC, dI)) (ci := 10) (v := .ref (h 3)) (C := RX10) (T := TX10) (N := 28) hx hb hts hinX10 hown hK hP 0 rfl rfl 3 (by decide) (hts (.fieldLink RX10 19 "MixedWordsModel" "told" "[I") (by decide +kernel)) (fun _ h9 => h9) rfl dX10_offOf_39 ?_
  refine lv_iconst (v := nI 5) hx hb dX10_offOf_42 (by decide) ?_
  refine lv_iload_n hx hb dX10_offOf_43 rfl (lv_at hl 2 rfl) ?_
  refine lv_imul hx hb dX10_offOf_44 ?_
  refine xt_i (y := nI 5) (by decide +kernel) ?_
  refine lv_iload hx hb dX10_offOf_45 (lv_at hl 0 rfl) ?_
  refine lv_iadd hx hb dX10_offOf_47 ?_
  refine xt_i (y := nI 5) (by decide +kernel) ?_
  refine xa_iald hx hb hK hP 1 0 rfl rfl (by omega) (by decide) dX10_offOf_48 ?_
  refine xt_i (y := nI 0) (by decide +kernel) ?_
  refine lv_aload_n hx hb dX10_offOf_49 rfl (lv_at hl 4 rfl) ?_
  refine lv_iload_n hx hb dX10_offOf_50 rfl (lv_at hl 5 rfl) ?_
  refine lv_iload hx hb dX10_offOf_51 (lv_at hl 0 rfl) ?_
  refine xj_i (wc := (wD_177 h cs gI gL gA gQ)) (wr := ([] : va_W)) hP hD hS hA [0, 1, 2, 3, 4, 5, 6, 7, 8, 9, 10, 11, 12, 13, 14, 15, 16] [] rfl rfl (by decide) (by decide) (va_runV (As := [.int (nI 0), .int (nI 0)]) (rest := [.int (nI 0), .int (nI 0)]) ⟨hx, hb, hml, hown, hts⟩ (a_X10_letter_182 l dC dI h cs H.size gI gL gA gQ ) (cwV 2 hts gX10_offOf_X10_letter rfl rfl rfl (by decide +kernel) ⟨Nat.le_of_ble_eq_true rfl, Nat.le_of_ble_eq_true rfl⟩) (xpV (wc := (wD_177 h cs gI gL gA gQ)) hP hD hK hN [0, 1, 2, 3, 4, 5, 6, 7, 8, 9, 10, 11, 12, 13, 14, 15, 16] rfl (by decide) 0 (ci := 10) rfl rfl _) rfl rfl hl.1 rfl (lv_room (Nat.le_of_ble_eq_true rfl)) dX10_offOf_53 ⟨Nat.zero_le _, Nat.zero_le _⟩) (fun r_8 u_7 H locs hw hP hD hS => ?_)
  obtain ⟨hf_9, rfl⟩ := hw
  have hP : va_P (dC, dI) vwCl (wD_177 h cs gI gL gA gQ) H := hP
  have hD : va_D A0 (wD_177 h cs gI gL gA gQ) := hD
  obtain rfl := hf_9
  refine lv_imul hx hb dX10_offOf_56 ?_
  refine xt_i (y := nI 0) (by decide +kernel) ?_
  refine lv_isub hx hb dX10_offOf_57 ?_
  refine xt_i (y := nI 0) (by decide +kernel) ?_
  refine lv_istore (lv' := [(4, .int (nI 0)), (5, .int (nI 0)), (3, .int (nI 1)), (2, .int (nI 0)), (0, .ref (h 0)), (1, .int (nI 0))]) hx hb dX10_offOf_58 hl (by decide) rfl (fun ls hl => ?_)
  refine lv_iinc (v := nI 1) (lv' := [(5, .int (nI 1)), (4, .int (nI 0)), (3, .int (nI 1)), (2, .int (nI 0)), (0, .ref (h 0)), (1, .int (nI 0))]) hx hb dX10_offOf_60 hl (k := 1) rfl (by decide +kernel) (by decide) rfl (fun ls hl => ?_)
  refine lv_goto (tgt := 27) hx hb dX10_offOf_63 (by decide) ?_
  refine lv_iload hx hb dX10_offOf_27 (lv_at hl 0 rfl) ?_
  refine lv_aload_n hx hb dX10_offOf_29 rfl (lv_at hl 4 rfl) ?_
  refine va_get (D := (dC, dI)) (ci := 10) (v := .int (gI 1)) (C := RX10) (T := TX10) (N := 28) hx hb hts hinX10 hown hK hP 0 rfl rfl 1 (by decide) (hts (.fieldLink RX10 13 "MixedWordsModel" "columns" "I") (by decide +kernel)) (fun _ h9 => h9) rfl dX10_offOf_30 ?_
  refine xt_i (y := nI 2) (by decide +kernel) ?_
  refine lv_icmp_ge (tgt := 66) hx hb dX10_offOf_33 (by decide) (fun c9 => False.elim (by revert c9; decide +kernel)) (fun _ => ?_)
  refine lv_iload hx hb dX10_offOf_36 (lv_at hl 1 rfl) ?_
  refine lv_aload_n hx hb dX10_offOf_38 rfl (lv_at hl 4 rfl) ?_
  refine va_get (D := (dC, dI)) (ci := 10) (v := .ref (h 3)) (C := RX10) (T := TX10) (N := 28) hx hb hts hinX10 hown hK hP 0 rfl rfl 3 (by decide) (hts (.fieldLink RX10 19 "MixedWordsModel" "told" "[I") (by decide +kernel)) (fun _ h9 => h9) rfl dX10_offOf_39 ?_
  refine lv_iconst (v := nI 5) hx hb dX10_offOf_42 (by decide) ?_
  refine lv_iload_n hx hb dX10_offOf_43 rfl (lv_at hl 2 rfl) ?_
  refine lv_imul hx hb dX10_offOf_44 ?_
  refine xt_i (y := nI 5) (by decide +kernel) ?_
  refine lv_iload hx hb dX10_offOf_45 (lv_at hl 0 rfl) ?_
  refine lv_iadd hx hb dX10_offOf_47 ?_
  refine xt_i (y := nI 6) (by decide +kernel) ?_
  refine xa_iald hx hb hK hP 1 0 rfl rfl (by omega) (by decide) dX10_offOf_48 ?_
  refine xt_i (y := nI 0) (by decide +kernel) ?_
  refine lv_aload_n hx hb dX10_offOf_49 rfl (lv_at hl 4 rfl) ?_
  refine lv_iload_n hx hb dX10_offOf_50 rfl (lv_at hl 5 rfl) ?_
  refine lv_iload hx hb dX10_offOf_51 (lv_at hl 0 rfl) ?_
  refine xj_i (wc := (wD_177 h cs gI gL gA gQ)) (wr := ([] : va_W)) hP hD hS hA [0, 1, 2, 3, 4, 5, 6, 7, 8, 9, 10, 11, 12, 13, 14, 15, 16] [] rfl rfl (by decide) (by decide) (va_runV (As := [.int (nI 0), .int (nI 1)]) (rest := [.int (nI 0), .int (nI 0)]) ⟨hx, hb, hml, hown, hts⟩ (a_X10_letter_183 l dC dI h cs H.size gI gL gA gQ ) (cwV 2 hts gX10_offOf_X10_letter rfl rfl rfl (by decide +kernel) ⟨Nat.le_of_ble_eq_true rfl, Nat.le_of_ble_eq_true rfl⟩) (xpV (wc := (wD_177 h cs gI gL gA gQ)) hP hD hK hN [0, 1, 2, 3, 4, 5, 6, 7, 8, 9, 10, 11, 12, 13, 14, 15, 16] rfl (by decide) 0 (ci := 10) rfl rfl _) rfl rfl hl.1 rfl (lv_room (Nat.le_of_ble_eq_true rfl)) dX10_offOf_53 ⟨Nat.zero_le _, Nat.zero_le _⟩) (fun r_11 u_10 H locs hw hP hD hS => ?_)
  obtain ⟨hf_12, rfl⟩ := hw
  have hP : va_P (dC, dI) vwCl (wD_177 h cs gI gL gA gQ) H := hP
  have hD : va_D A0 (wD_177 h cs gI gL gA gQ) := hD
  obtain rfl := hf_12
  refine lv_imul hx hb dX10_offOf_56 ?_
  refine xt_i (y := nI 0) (by decide +kernel) ?_
  refine lv_isub hx hb dX10_offOf_57 ?_
  refine xt_i (y := nI 0) (by decide +kernel) ?_
  refine lv_istore (lv' := [(4, .int (nI 0)), (5, .int (nI 1)), (3, .int (nI 1)), (2, .int (nI 0)), (0, .ref (h 0)), (1, .int (nI 0))]) hx hb dX10_offOf_58 hl (by decide) rfl (fun ls hl => ?_)
  refine lv_iinc (v := nI 2) (lv' := [(5, .int (nI 2)), (4, .int (nI 0)), (3, .int (nI 1)), (2, .int (nI 0)), (0, .ref (h 0)), (1, .int (nI 0))]) hx hb dX10_offOf_60 hl (k := 1) rfl (by decide +kernel) (by decide) rfl (fun ls hl => ?_)
  refine lv_goto (tgt := 27) hx hb dX10_offOf_63 (by decide) ?_
  refine lv_iload hx hb dX10_offOf_27 (lv_at hl 0 rfl) ?_
  refine lv_aload_n hx hb dX10_offOf_29 rfl (lv_at hl 4 rfl) ?_
  refine va_get (D := (dC, dI)) (ci := 10) (v := .int (gI 1)) (C := RX10) (T := TX10) (N := 28) hx hb hts hinX10 hown hK hP 0 rfl rfl 1 (by decide) (hts (.fieldLink RX10 13 "MixedWordsModel" "columns" "I") (by decide +kernel)) (fun _ h9 => h9) rfl dX10_offOf_30 ?_
  refine xt_i (y := nI 2) (by decide +kernel) ?_
  refine lv_icmp_ge (tgt := 66) hx hb dX10_offOf_33 (by decide) (fun _ => ?_) (fun c9 => False.elim (by revert c9; decide +kernel))
  refine lv_iload_n hx hb dX10_offOf_66 rfl (lv_at hl 3 rfl) ?_
  refine lv_iload hx hb dX10_offOf_67 (lv_at hl 1 rfl) ?_
  refine lv_iload hx hb dX10_offOf_69 (lv_at hl 1 rfl) ?_
  refine lv_imul hx hb dX10_offOf_71 ?_
  refine xt_i (y := nI 0) (by decide +kernel) ?_
  refine lv_iadd hx hb dX10_offOf_72 ?_
  refine xt_i (y := nI 0) (by decide +kernel) ?_
  refine lv_istore_n (lv' := [(2, .int (nI 0)), (5, .int (nI 2)), (4, .int (nI 0)), (3, .int (nI 1)), (0, .ref (h 0)), (1, .int (nI 0))]) hx hb dX10_offOf_73 rfl hl (by decide) rfl (fun ls hl => ?_)
  refine lv_iinc (v := nI 2) (lv' := [(3, .int (nI 2)), (2, .int (nI 0)), (5, .int (nI 2)), (4, .int (nI 0)), (0, .ref (h 0)), (1, .int (nI 0))]) hx hb dX10_offOf_74 hl (k := 3) rfl (by decide +kernel) (by decide) rfl (fun ls hl => ?_)
  refine lv_goto (tgt := 4) hx hb dX10_offOf_77 (by decide) ?_
  refine lv_iload_n hx hb dX10_offOf_4 rfl (lv_at hl 0 rfl) ?_
  refine lv_aload_n hx hb dX10_offOf_5 rfl (lv_at hl 4 rfl) ?_
  refine va_get (D := (dC, dI)) (ci := 10) (v := .int (gI 0)) (C := RX10) (T := TX10) (N := 28) hx hb hts hinX10 hown hK hP 0 rfl rfl 0 (by decide) (hts (.fieldLink RX10 7 "MixedWordsModel" "rows" "I") (by decide +kernel)) (fun _ h9 => h9) rfl dX10_offOf_6 ?_
  refine xt_i (y := nI 2) (by decide +kernel) ?_
  refine lv_icmp_ge (tgt := 80) hx hb dX10_offOf_9 (by decide) (fun _ => ?_) (fun c9 => False.elim (by revert c9; decide +kernel))
  refine lv_iload_n hx hb dX10_offOf_80 rfl (lv_at hl 1 rfl) ?_
  exact xr_i (v := (nI 0)) hx hb hr hlocks hK hS dX10_offOf_81 (gI, gL, gA, gQ) ⟨rfl, rfl⟩ hP hD
set_option maxHeartbeats 4000000 in
set_option maxRecDepth 100000 in
theorem a_X10_in_185 (l : Launch) (dC : Nat → ClassId) (dI : Nat → Nat → Nat) (h : Nat → Nat) (cs : Nat → ClassId) (sz : Nat) (I : Nat → Int32) (L : Nat → Int64) (A : Nat → Nat → Int32) (Q : Nat → Nat → Int64) : Met l yX10_in wsX10_in ({ frames := 0, cells := 0, slots := 0, locals := 0 }) (va_Pc [.long (1 : Int64), .long (0 : Int64), .long (3 : Int64)] (xPre (dC, dI) ([] : va_W) (tysA cs) sz)) (va_Qi (fun (r : Int32) (u : RS) => (r = nI 1) ∧ u = (I, L, A, Q)) (xB (dC, dI) (tysA cs) (va_A ([] : va_W) sz) (fun _ : RS => ([] : va_W))) (va_A ([] : va_W) sz)) 0 0 (va_A ([] : va_W) sz) := by
  refine Met.ofW (cc := cX10_in) (maxL := 6) (ret := (some .boolean)) (by decide) rfl ?_
  intro p e s m args below meth c s₁ B hml hv
  obtain ⟨rfl, hsz, hP, hK, hD0, hN⟩ := hv
  have hx := B.exec
  have hb := B.bytes
  have hr := B.returns
  have hts := atoms_spec (ws := wsX10_in) B.pre
  have hown : s.vm.findClass RX10 = some m.cls := findClass_of_methodNamed B.named
  have hlocks := B.notSynchronized
  subst hsz
  have hD := hD0.self (sz := s.heap.size)
  generalize hAe : va_A ([] : va_W) s.heap.size = A0 at hD ⊢
  have hA : ∀ q : Nat, s.heap.size ≤ q → A0 q := fun q h => by rw [← hAe]; exact Or.inr h
  have hl := lv_entry ([.long (1 : Int64), .long (0 : Int64), .long (3 : Int64)]) (n := 6) (Nat.le_of_ble_eq_true rfl)
  rw [lg_entry_eq]
  generalize (lg_sl ([.long (1 : Int64), .long (0 : Int64), .long (3 : Int64)]) ++ List.replicate (6 - (lg_sl ([.long (1 : Int64), .long (0 : Int64), .long (3 : Int64)])).length) Slot.unset).toArray = ls at hl ⊢
  have hl : lv_has ls 6 [(0, .long (1 : Int64)), (2, .long (0 : Int64)), (4, .long (3 : Int64))] := hl
  generalize hH : s.heap = H at hP ⊢
  have hS : va_S A0 s.heap H [] := by rw [← hH]; exact va_S.rf
  refine lv_lload_n hx hb dX10_in_0 rfl (lv_at hl 0 rfl) ?_
  refine lv_lload_n hx hb dX10_in_1 rfl (lv_at hl 1 rfl) ?_
  refine xl_lt (tgt := 17) hx hb dX10_in_2 dX10_in_3 (by decide) (fun c9 => False.elim (by revert c9; decide +kernel)) (fun _ => ?_)
  refine lv_lload_n hx hb dX10_in_6 rfl (lv_at hl 0 rfl) ?_
  refine lv_lload hx hb dX10_in_7 (lv_at hl 2 rfl) ?_
  refine xl_gt (tgt := 17) hx hb dX10_in_9 dX10_in_10 (by decide) (fun c9 => False.elim (by revert c9; decide +kernel)) (fun _ => ?_)
  refine lv_iconst (v := nI 1) hx hb dX10_in_13 (by decide) ?_
  refine lv_goto (tgt := 18) hx hb dX10_in_14 (by decide) ?_
  exact xr_z (v := (nI 1)) hx hb hr hlocks hK hS dX10_in_18 (rfl) (I, L, A, Q) ⟨rfl, rfl⟩ hP hD
set_option maxHeartbeats 4000000 in
set_option maxRecDepth 100000 in
theorem a_X10_isWord_184 (l : Launch) (dC : Nat → ClassId) (dI : Nat → Nat → Nat) (h : Nat → Nat) (cs : Nat → ClassId) (sz : Nat) (I : Nat → Int32) (L : Nat → Int64) (A : Nat → Nat → Int32) (Q : Nat → Nat → Int64) : Met l yX10_isWord wsX10_isWord ({ frames := 1, cells := 0, slots := 0, locals := 25 }) (va_Pc [.ref (h 0), .int (nI 1)] (xPre (dC, dI) (wD_177 h cs gI gL gA gQ) (tysA cs) sz)) (va_Qi (fun (r : Int32) (u : RS) => (r = nI 1) ∧ u = (gI, gL, gA, gQ)) (xB (dC, dI) (tysA cs) (va_A (wD_177 h cs gI gL gA gQ) sz) (fun u : RS => wD_177 h cs u.1 u.2.1 u.2.2.1 u.2.2.2)) (va_A (wD_177 h cs gI gL gA gQ) sz)) 0 0 (va_A (wD_177 h cs gI gL gA gQ) sz) := by
  refine Met.ofW (cc := cX10_isWord) (maxL := 2) (ret := (some .boolean)) (by decide) rfl ?_
  intro p e s m args below meth c s₁ B hml hv
  obtain ⟨rfl, hsz, hP, hK, hD0, hN⟩ := hv
  have hx := B.exec
  have hb := B.bytes
  have hr := B.returns
  have hts := atoms_spec (ws := wsX10_isWord) B.pre
  have hown : s.vm.findClass RX10 = some m.cls := findClass_of_methodNamed B.named
  have hlocks := B.notSynchronized
  subst hsz
  have hD := hD0.self (sz := s.heap.size)
  generalize hAe : va_A (wD_177 h cs gI gL gA gQ) s.heap.size = A0 at hD ⊢
  have hA : ∀ q : Nat, s.heap.size ≤ q → A0 q := fun q h => by rw [← hAe]; exact Or.inr h
  have hl := lv_entry ([.ref (h 0), .int (nI 1)]) (n := 2) (Nat.le_of_ble_eq_true rfl)
  rw [lg_entry_eq]
  generalize (lg_sl ([.ref (h 0), .int (nI 1)]) ++ List.replicate (2 - (lg_sl ([.ref (h 0), .int (nI 1)])).length) Slot.unset).toArray = ls at hl ⊢
  have hl : lv_has ls 2 [(0, .ref (h 0)), (1, .int (nI 1))] := hl
  generalize hH : s.heap = H at hP ⊢
  have hS : va_S A0 s.heap H [] := by rw [← hH]; exact va_S.rf
  refine lv_iload_n hx hb dX10_isWord_0 rfl (lv_at hl 1 rfl) ?_
  refine lv_i2l (v := (1 : Int64)) hx hb dX10_isWord_1 (by decide +kernel) ?_
  refine lv_lconst (v := 0) hx hb dX10_isWord_2 rfl ?_
  refine lv_aload_n hx hb dX10_isWord_3 rfl (lv_at hl 0 rfl) ?_
  refine xj_i (wc := (wD_177 h cs gI gL gA gQ)) (wr := ([] : va_W)) hP hD hS hA [0, 1, 2, 3, 4, 5, 6, 7, 8, 9, 10, 11, 12, 13, 14, 15, 16] [] rfl rfl (by decide) (by decide) (va_runV (As := []) (rest := [.long (0 : Int64), .long (1 : Int64)]) ⟨hx, hb, hml, hown, hts⟩ (a_X10_words_179 l dC dI h cs H.size gI gL gA gQ ) (cwV 0 hts gX10_isWord_X10_words rfl rfl rfl (by decide +kernel) ⟨Nat.le_of_ble_eq_true rfl, Nat.le_of_ble_eq_true rfl⟩) (xpV (wc := (wD_177 h cs gI gL gA gQ)) hP hD hK hN [0, 1, 2, 3, 4, 5, 6, 7, 8, 9, 10, 11, 12, 13, 14, 15, 16] rfl (by decide) 0 (ci := 10) rfl rfl _) rfl rfl hl.1 rfl (lv_room (Nat.le_of_ble_eq_true rfl)) dX10_isWord_4 ⟨Nat.zero_le _, Nat.zero_le _⟩) (fun r_2 u_1 H locs hw hP hD hS => ?_)
  obtain ⟨hf_3, rfl⟩ := hw
  have hP : va_P (dC, dI) vwCl (wD_177 h cs gI gL gA gQ) H := hP
  have hD : va_D A0 (wD_177 h cs gI gL gA gQ) := hD
  obtain rfl := hf_3
  refine lv_iconst (v := nI 1) hx hb dX10_isWord_7 (by decide) ?_
  refine lv_isub hx hb dX10_isWord_8 ?_
  refine xt_i (y := nI 3) (by decide +kernel) ?_
  refine lv_i2l (v := (3 : Int64)) hx hb dX10_isWord_9 (by decide +kernel) ?_
  refine xj_i (wc := ([] : va_W)) (wr := (wD_177 h cs gI gL gA gQ)) hP hD hS hA [] [0, 1, 2, 3, 4, 5, 6, 7, 8, 9, 10, 11, 12, 13, 14, 15, 16] rfl rfl (by decide) (by decide) (va_runS (As := [.long (1 : Int64), .long (0 : Int64), .long (3 : Int64)]) (rest := []) ⟨hx, hb, hml, hown, hts⟩ (a_X10_in_185 l dC dI h cs H.size I L A Q ) (va_cwS 3 hts gX10_isWord_X10_in rfl rfl rfl (by decide +kernel) ⟨Nat.le_of_ble_eq_true rfl, Nat.le_of_ble_eq_true rfl⟩) (xpS (wc := ([] : va_W)) hP hD hK hN [] rfl (by decide) _) rfl rfl hl.1 rfl (lv_room (Nat.le_of_ble_eq_true rfl)) dX10_isWord_10 ⟨Nat.zero_le _, Nat.zero_le _⟩) (fun r_5 u_4 H locs hw hP hD hS => ?_)
  obtain ⟨hf_6, rfl⟩ := hw
  have hP : va_P (dC, dI) vwCl (wD_177 h cs gI gL gA gQ) H := hP
  have hD : va_D A0 (wD_177 h cs gI gL gA gQ) := hD
  obtain rfl := hf_6
  exact xr_z (v := (nI 1)) hx hb hr hlocks hK hS dX10_isWord_13 (rfl) (gI, gL, gA, gQ) ⟨rfl, rfl⟩ hP hD
set_option maxHeartbeats 4000000 in
set_option maxRecDepth 100000 in
theorem a_X10_letter_187 (l : Launch) (dC : Nat → ClassId) (dI : Nat → Nat → Nat) (h : Nat → Nat) (cs : Nat → ClassId) (sz : Nat) (I : Nat → Int32) (L : Nat → Int64) (A : Nat → Nat → Int32) (Q : Nat → Nat → Int64) : Met l yX10_letter wsX10_letter ({ frames := 0, cells := 0, slots := 0, locals := 0 }) (va_Pc [.ref (h 0), .int (nI 1), .int (nI 0)] (xPre (dC, dI) (wD_177 h cs gI gL gA gQ) (tysA cs) sz)) (va_Qi (fun (r : Int32) (u : RS) => (r = (-1 : Int32)) ∧ u = (gI, gL, gA, gQ)) (xB (dC, dI) (tysA cs) (va_A (wD_177 h cs gI gL gA gQ) sz) (fun u : RS => wD_177 h cs u.1 u.2.1 u.2.2.1 u.2.2.2)) (va_A (wD_177 h cs gI gL gA gQ) sz)) 0 0 (va_A (wD_177 h cs gI gL gA gQ) sz) := by
  refine Met.ofW (cc := cX10_letter) (maxL := 5) (ret := (some .int)) (by decide) rfl ?_
  intro p e s m args below meth c s₁ B hml hv
  obtain ⟨rfl, hsz, hP, hK, hD0, hN⟩ := hv
  have hx := B.exec
  have hb := B.bytes
  have hr := B.returns
  have hts := atoms_spec (ws := wsX10_letter) B.pre
  have hown : s.vm.findClass RX10 = some m.cls := findClass_of_methodNamed B.named
  have hlocks := B.notSynchronized
  subst hsz
  have hD := hD0.self (sz := s.heap.size)
  generalize hAe : va_A (wD_177 h cs gI gL gA gQ) s.heap.size = A0 at hD ⊢
  have hA : ∀ q : Nat, s.heap.size ≤ q → A0 q := fun q h => by rw [← hAe]; exact Or.inr h
  have hl := lv_entry ([.ref (h 0), .int (nI 1), .int (nI 0)]) (n := 5) (Nat.le_of_ble_eq_true rfl)
  rw [lg_entry_eq]
  generalize (lg_sl ([.ref (h 0), .int (nI 1), .int (nI 0)]) ++ List.replicate (5 - (lg_sl ([.ref (h 0), .int (nI 1), .int (nI 0)])).length) Slot.unset).toArray = ls at hl ⊢
  have hl : lv_has ls 5 [(0, .ref (h 0)), (1, .int (nI 1)), (2, .int (nI 0))] := hl
  generalize hH : s.heap = H at hP ⊢
  have hS : va_S A0 s.heap H [] := by rw [← hH]; exact va_S.rf
  have hinX10 : ∀ w ∈ wsX100, w ∈ wsX10_letter := by decide +kernel
  refine lv_iload_n hx hb dX10_letter_0 rfl (lv_at hl 1 rfl) ?_
  refine lv_istore_n (lv' := [(3, .int (nI 1)), (0, .ref (h 0)), (1, .int (nI 1)), (2, .int (nI 0))]) hx hb dX10_letter_1 rfl hl (by decide) rfl (fun ls hl => ?_)
  refine lv_aload_n hx hb dX10_letter_2 rfl (lv_at hl 1 rfl) ?_
  refine va_get (D := (dC, dI)) (ci := 10) (v := .int (gI 1)) (C := RX10) (T := TX10) (N := 28) hx hb hts hinX10 hown hK hP 0 rfl rfl 1 (by decide) (hts (.fieldLink RX10 13 "MixedWordsModel" "columns" "I") (by decide +kernel)) (fun _ h9 => h9) rfl dX10_letter_3 ?_
  refine xt_i (y := nI 2) (by decide +kernel) ?_
  refine lv_iconst (v := nI 1) hx hb dX10_letter_6 (by decide) ?_
  refine lv_isub hx hb dX10_letter_7 ?_
  refine xt_i (y := nI 1) (by decide +kernel) ?_
  refine lv_istore (lv' := [(4, .int (nI 1)), (3, .int (nI 1)), (0, .ref (h 0)), (1, .int (nI 1)), (2, .int (nI 0))]) hx hb dX10_letter_8 hl (by decide) rfl (fun ls hl => ?_)
  refine lv_iload hx hb dX10_letter_10 (lv_at hl 0 rfl) ?_
  refine lv_iload_n hx hb dX10_letter_12 rfl (lv_at hl 4 rfl) ?_
  refine lv_icmp_le (tgt := 29) hx hb dX10_letter_13 (by decide) (fun c9 => False.elim (by revert c9; decide +kernel)) (fun _ => ?_)
  refine lv_iload_n hx hb dX10_letter_16 rfl (lv_at hl 1 rfl) ?_
  refine lv_aload_n hx hb dX10_letter_17 rfl (lv_at hl 2 rfl) ?_
  refine va_get (D := (dC, dI)) (ci := 10) (v := .int (gI 2)) (C := RX10) (T := TX10) (N := 28) hx hb hts hinX10 hown hK hP 0 rfl rfl 2 (by decide) (hts (.fieldLink RX10 16 "MixedWordsModel" "a" "I") (by decide +kernel)) (fun _ h9 => h9) rfl dX10_letter_18 ?_
  refine xt_i (y := nI 2) (by decide +kernel) ?_
  refine lv_idiv hx hb dX10_letter_21 (by decide +kernel) ?_
  refine xt_i (y := nI 0) (by decide +kernel) ?_
  refine lv_istore_n (lv' := [(3, .int (nI 0)), (4, .int (nI 1)), (0, .ref (h 0)), (1, .int (nI 1)), (2, .int (nI 0))]) hx hb dX10_letter_22 rfl hl (by decide) rfl (fun ls hl => ?_)
  refine lv_iinc (v := nI 0) (lv' := [(4, .int (nI 0)), (3, .int (nI 0)), (0, .ref (h 0)), (1, .int (nI 1)), (2, .int (nI 0))]) hx hb dX10_letter_23 hl (k := 1) rfl (by decide +kernel) (by decide) rfl (fun ls hl => ?_)
  refine lv_goto (tgt := 10) hx hb dX10_letter_26 (by decide) ?_
  refine lv_iload hx hb dX10_letter_10 (lv_at hl 0 rfl) ?_
  refine lv_iload_n hx hb dX10_letter_12 rfl (lv_at hl 4 rfl) ?_
  refine lv_icmp_le (tgt := 29) hx hb dX10_letter_13 (by decide) (fun _ => ?_) (fun c9 => False.elim (by revert c9; decide +kernel))
  refine lv_iconst (v := nI 2) hx hb dX10_letter_29 (by decide) ?_
  refine lv_iload_n hx hb dX10_letter_30 rfl (lv_at hl 1 rfl) ?_
  refine lv_aload_n hx hb dX10_letter_31 rfl (lv_at hl 2 rfl) ?_
  refine va_get (D := (dC, dI)) (ci := 10) (v := .int (gI 2)) (C := RX10) (T := TX10) (N := 28) hx hb hts hinX10 hown hK hP 0 rfl rfl 2 (by decide) (hts (.fieldLink RX10 16 "MixedWordsModel" "a" "I") (by decide +kernel)) (fun _ h9 => h9) rfl dX10_letter_32 ?_
  refine xt_i (y := nI 2) (by decide +kernel) ?_
  refine lv_irem hx hb dX10_letter_35 (by decide +kernel) ?_
  refine xt_i (y := nI 0) (by decide +kernel) ?_
  refine lv_imul hx hb dX10_letter_36 ?_
  refine xt_i (y := nI 0) (by decide +kernel) ?_
  refine lv_aload_n hx hb dX10_letter_37 rfl (lv_at hl 2 rfl) ?_
  refine va_get (D := (dC, dI)) (ci := 10) (v := .int (gI 2)) (C := RX10) (T := TX10) (N := 28) hx hb hts hinX10 hown hK hP 0 rfl rfl 2 (by decide) (hts (.fieldLink RX10 16 "MixedWordsModel" "a" "I") (by decide +kernel)) (fun _ h9 => h9) rfl dX10_letter_38 ?_
  refine xt_i (y := nI 2) (by decide +kernel) ?_
  refine lv_isub hx hb dX10_letter_41 ?_
  refine xt_i (y := (-2 : Int32)) (by decide +kernel) ?_
  refine lv_iconst (v := nI 1) hx hb dX10_letter_42 (by decide) ?_
  refine lv_iadd hx hb dX10_letter_43 ?_
  refine xt_i (y := (-1 : Int32)) (by decide +kernel) ?_
  exact xr_i (v := (-1 : Int32)) hx hb hr hlocks hK hS dX10_letter_44 (gI, gL, gA, gQ) ⟨rfl, rfl⟩ hP hD
set_option maxHeartbeats 4000000 in
set_option maxRecDepth 100000 in
theorem a_X10_letter_188 (l : Launch) (dC : Nat → ClassId) (dI : Nat → Nat → Nat) (h : Nat → Nat) (cs : Nat → ClassId) (sz : Nat) (I : Nat → Int32) (L : Nat → Int64) (A : Nat → Nat → Int32) (Q : Nat → Nat → Int64) : Met l yX10_letter wsX10_letter ({ frames := 0, cells := 0, slots := 0, locals := 0 }) (va_Pc [.ref (h 0), .int (nI 1), .int (nI 1)] (xPre (dC, dI) (wD_177 h cs gI gL gA gQ) (tysA cs) sz)) (va_Qi (fun (r : Int32) (u : RS) => (r = nI 1) ∧ u = (gI, gL, gA, gQ)) (xB (dC, dI) (tysA cs) (va_A (wD_177 h cs gI gL gA gQ) sz) (fun u : RS => wD_177 h cs u.1 u.2.1 u.2.2.1 u.2.2.2)) (va_A (wD_177 h cs gI gL gA gQ) sz)) 0 0 (va_A (wD_177 h cs gI gL gA gQ) sz) := by
  refine Met.ofW (cc := cX10_letter) (maxL := 5) (ret := (some .int)) (by decide) rfl ?_
  intro p e s m args below meth c s₁ B hml hv
  obtain ⟨rfl, hsz, hP, hK, hD0, hN⟩ := hv
  have hx := B.exec
  have hb := B.bytes
  have hr := B.returns
  have hts := atoms_spec (ws := wsX10_letter) B.pre
  have hown : s.vm.findClass RX10 = some m.cls := findClass_of_methodNamed B.named
  have hlocks := B.notSynchronized
  subst hsz
  have hD := hD0.self (sz := s.heap.size)
  generalize hAe : va_A (wD_177 h cs gI gL gA gQ) s.heap.size = A0 at hD ⊢
  have hA : ∀ q : Nat, s.heap.size ≤ q → A0 q := fun q h => by rw [← hAe]; exact Or.inr h
  have hl := lv_entry ([.ref (h 0), .int (nI 1), .int (nI 1)]) (n := 5) (Nat.le_of_ble_eq_true rfl)
  rw [lg_entry_eq]
  generalize (lg_sl ([.ref (h 0), .int (nI 1), .int (nI 1)]) ++ List.replicate (5 - (lg_sl ([.ref (h 0), .int (nI 1), .int (nI 1)])).length) Slot.unset).toArray = ls at hl ⊢
  have hl : lv_has ls 5 [(0, .ref (h 0)), (1, .int (nI 1)), (2, .int (nI 1))] := hl
  generalize hH : s.heap = H at hP ⊢
  have hS : va_S A0 s.heap H [] := by rw [← hH]; exact va_S.rf
  have hinX10 : ∀ w ∈ wsX100, w ∈ wsX10_letter := by decide +kernel
  refine lv_iload_n hx hb dX10_letter_0 rfl (lv_at hl 1 rfl) ?_
  refine lv_istore_n (lv' := [(3, .int (nI 1)), (0, .ref (h 0)), (1, .int (nI 1)), (2, .int (nI 1))]) hx hb dX10_letter_1 rfl hl (by decide) rfl (fun ls hl => ?_)
  refine lv_aload_n hx hb dX10_letter_2 rfl (lv_at hl 1 rfl) ?_
  refine va_get (D := (dC, dI)) (ci := 10) (v := .int (gI 1)) (C := RX10) (T := TX10) (N := 28) hx hb hts hinX10 hown hK hP 0 rfl rfl 1 (by decide) (hts (.fieldLink RX10 13 "MixedWordsModel" "columns" "I") (by decide +kernel)) (fun _ h9 => h9) rfl dX10_letter_3 ?_
  refine xt_i (y := nI 2) (by decide +kernel) ?_
  refine lv_iconst (v := nI 1) hx hb dX10_letter_6 (by decide) ?_
  refine lv_isub hx hb dX10_letter_7 ?_
  refine xt_i (y := nI 1) (by decide +kernel) ?_
  refine lv_istore (lv' := [(4, .int (nI 1)), (3, .int (nI 1)), (0, .ref (h 0)), (1, .int (nI 1)), (2, .int (nI 1))]) hx hb dX10_letter_8 hl (by decide) rfl (fun ls hl => ?_)
  refine lv_iload hx hb dX10_letter_10 (lv_at hl 0 rfl) ?_
  refine lv_iload_n hx hb dX10_letter_12 rfl (lv_at hl 4 rfl) ?_
  refine lv_icmp_le (tgt := 29) hx hb dX10_letter_13 (by decide) (fun _ => ?_) (fun c9 => False.elim (by revert c9; decide +kernel))
  refine lv_iconst (v := nI 2) hx hb dX10_letter_29 (by decide) ?_
  refine lv_iload_n hx hb dX10_letter_30 rfl (lv_at hl 1 rfl) ?_
  refine lv_aload_n hx hb dX10_letter_31 rfl (lv_at hl 2 rfl) ?_
  refine va_get (D := (dC, dI)) (ci := 10) (v := .int (gI 2)) (C := RX10) (T := TX10) (N := 28) hx hb hts hinX10 hown hK hP 0 rfl rfl 2 (by decide) (hts (.fieldLink RX10 16 "MixedWordsModel" "a" "I") (by decide +kernel)) (fun _ h9 => h9) rfl dX10_letter_32 ?_
  refine xt_i (y := nI 2) (by decide +kernel) ?_
  refine lv_irem hx hb dX10_letter_35 (by decide +kernel) ?_
  refine xt_i (y := nI 1) (by decide +kernel) ?_
  refine lv_imul hx hb dX10_letter_36 ?_
  refine xt_i (y := nI 2) (by decide +kernel) ?_
  refine lv_aload_n hx hb dX10_letter_37 rfl (lv_at hl 2 rfl) ?_
  refine va_get (D := (dC, dI)) (ci := 10) (v := .int (gI 2)) (C := RX10) (T := TX10) (N := 28) hx hb hts hinX10 hown hK hP 0 rfl rfl 2 (by decide) (hts (.fieldLink RX10 16 "MixedWordsModel" "a" "I") (by decide +kernel)) (fun _ h9 => h9) rfl dX10_letter_38 ?_
  refine xt_i (y := nI 2) (by decide +kernel) ?_
  refine lv_isub hx hb dX10_letter_41 ?_
  refine xt_i (y := nI 0) (by decide +kernel) ?_
  refine lv_iconst (v := nI 1) hx hb dX10_letter_42 (by decide) ?_
  refine lv_iadd hx hb dX10_letter_43 ?_
  refine xt_i (y := nI 1) (by decide +kernel) ?_
  exact xr_i (v := (nI 1)) hx hb hr hlocks hK hS dX10_letter_44 (gI, gL, gA, gQ) ⟨rfl, rfl⟩ hP hD
set_option maxHeartbeats 4000000 in
set_option maxRecDepth 100000 in
theorem a_X10_offOf_186 (l : Launch) (dC : Nat → ClassId) (dI : Nat → Nat → Nat) (h : Nat → Nat) (cs : Nat → ClassId) (sz : Nat) (I : Nat → Int32) (L : Nat → Int64) (A : Nat → Nat → Int32) (Q : Nat → Nat → Int64) : Met l yX10_offOf wsX10_offOf ({ frames := 1, cells := 0, slots := 0, locals := 24 }) (va_Pc [.ref (h 0), .int (nI 1)] (xPre (dC, dI) (wD_177 h cs gI gL gA gQ) (tysA cs) sz)) (va_Qi (fun (r : Int32) (u : RS) => (r = nI 0) ∧ u = (gI, gL, gA, gQ)) (xB (dC, dI) (tysA cs) (va_A (wD_177 h cs gI gL gA gQ) sz) (fun u : RS => wD_177 h cs u.1 u.2.1 u.2.2.1 u.2.2.2)) (va_A (wD_177 h cs gI gL gA gQ) sz)) 0 0 (va_A (wD_177 h cs gI gL gA gQ) sz) := by
  refine Met.ofW (cc := cX10_offOf) (maxL := 6) (ret := (some .int)) (by decide) rfl ?_
  intro p e s m args below meth c s₁ B hml hv
  obtain ⟨rfl, hsz, hP, hK, hD0, hN⟩ := hv
  have hx := B.exec
  have hb := B.bytes
  have hr := B.returns
  have hts := atoms_spec (ws := wsX10_offOf) B.pre
  have hown : s.vm.findClass RX10 = some m.cls := findClass_of_methodNamed B.named
  have hlocks := B.notSynchronized
  subst hsz
  have hD := hD0.self (sz := s.heap.size)
  generalize hAe : va_A (wD_177 h cs gI gL gA gQ) s.heap.size = A0 at hD ⊢
  have hA : ∀ q : Nat, s.heap.size ≤ q → A0 q := fun q h => by rw [← hAe]; exact Or.inr h
  have hl := lv_entry ([.ref (h 0), .int (nI 1)]) (n := 6) (Nat.le_of_ble_eq_true rfl)
  rw [lg_entry_eq]
  generalize (lg_sl ([.ref (h 0), .int (nI 1)]) ++ List.replicate (6 - (lg_sl ([.ref (h 0), .int (nI 1)])).length) Slot.unset).toArray = ls at hl ⊢
  have hl : lv_has ls 6 [(0, .ref (h 0)), (1, .int (nI 1))] := hl
  generalize hH : s.heap = H at hP ⊢
  have hS : va_S A0 s.heap H [] := by rw [← hH]; exact va_S.rf
  have hinX10 : ∀ w ∈ wsX100, w ∈ wsX10_offOf := by decide +kernel
  refine lv_iconst (v := nI 0) hx hb dX10_offOf_0 (by decide) ?_
  refine lv_istore_n (lv' := [(2, .int (nI 0)), (0, .ref (h 0)), (1, .int (nI 1))]) hx hb dX10_offOf_1 rfl hl (by decide) rfl (fun ls hl => ?_)
  refine lv_iconst (v := nI 0) hx hb dX10_offOf_2 (by decide) ?_
  refine lv_istore_n (lv' := [(3, .int (nI 0)), (2, .int (nI 0)), (0, .ref (h 0)), (1, .int (nI 1))]) hx hb dX10_offOf_3 rfl hl (by decide) rfl (fun ls hl => ?_)
  refine lv_iload_n hx hb dX10_offOf_4 rfl (lv_at hl 0 rfl) ?_
  refine lv_aload_n hx hb dX10_offOf_5 rfl (lv_at hl 2 rfl) ?_
  refine va_get (D := (dC, dI)) (ci := 10) (v := .int (gI 0)) (C := RX10) (T := TX10) (N := 28) hx hb hts hinX10 hown hK hP 0 rfl rfl 0 (by decide) (hts (.fieldLink RX10 7 "MixedWordsModel" "rows" "I") (by decide +kernel)) (fun _ h9 => h9) rfl dX10_offOf_6 ?_
  refine xt_i (y := nI 2) (by decide +kernel) ?_
  refine lv_icmp_ge (tgt := 80) hx hb dX10_offOf_9 (by decide) (fun c9 => False.elim (by revert c9; decide +kernel)) (fun _ => ?_)
  refine lv_aload_n hx hb dX10_offOf_12 rfl (lv_at hl 2 rfl) ?_
  refine va_get (D := (dC, dI)) (ci := 10) (v := .ref (h 3)) (C := RX10) (T := TX10) (N := 28) hx hb hts hinX10 hown hK hP 0 rfl rfl 3 (by decide) (hts (.fieldLink RX10 19 "MixedWordsModel" "told" "[I") (by decide +kernel)) (fun _ h9 => h9) rfl dX10_offOf_13 ?_
  refine lv_iconst (v := nI 5) hx hb dX10_offOf_16 (by decide) ?_
  refine lv_iload_n hx hb dX10_offOf_17 rfl (lv_at hl 0 rfl) ?_
  refine lv_imul hx hb dX10_offOf_18 ?_
  refine xt_i (y := nI 0) (by decide +kernel) ?_
  refine lv_iconst (v := nI 4) hx hb dX10_offOf_19 (by decide) ?_
  refine lv_iadd hx hb dX10_offOf_20 ?_
  refine xt_i (y := nI 4) (by decide +kernel) ?_
  refine xa_iald hx hb hK hP 1 0 rfl rfl (by omega) (by decide) dX10_offOf_21 ?_
  refine xt_i (y := nI 0) (by decide +kernel) ?_
  refine lv_istore (lv' := [(4, .int (nI 0)), (3, .int (nI 0)), (2, .int (nI 0)), (0, .ref (h 0)), (1, .int (nI 1))]) hx hb dX10_offOf_22 hl (by decide) rfl (fun ls hl => ?_)
  refine lv_iconst (v := nI 0) hx hb dX10_offOf_24 (by decide) ?_
  refine lv_istore (lv' := [(5, .int (nI 0)), (4, .int (nI 0)), (3, .int (nI 0)), (2, .int (nI 0)), (0, .ref (h 0)), (1, .int (nI 1))]) hx hb dX10_offOf_25 hl (by decide) rfl (fun ls hl => ?_)
  refine lv_iload hx hb dX10_offOf_27 (lv_at hl 0 rfl) ?_
  refine lv_aload_n hx hb dX10_offOf_29 rfl (lv_at hl 4 rfl) ?_
  refine va_get (D := (dC, dI)) (ci := 10) (v := .int (gI 1)) (C := RX10) (T := TX10) (N := 28) hx hb hts hinX10 hown hK hP 0 rfl rfl 1 (by decide) (hts (.fieldLink RX10 13 "MixedWordsModel" "columns" "I") (by decide +kernel)) (fun _ h9 => h9) rfl dX10_offOf_30 ?_
  refine xt_i (y := nI 2) (by decide +kernel) ?_
  refine lv_icmp_ge (tgt := 66) hx hb dX10_offOf_33 (by decide) (fun c9 => False.elim (by revert c9; decide +kernel)) (fun _ => ?_)
  refine lv_iload hx hb dX10_offOf_36 (lv_at hl 1 rfl) ?_
  refine lv_aload_n hx hb dX10_offOf_38 rfl (lv_at hl 4 rfl) ?_
  refine va_get (D := (dC, dI)) (ci := 10) (v := .ref (h 3)) (C := RX10) (T := TX10) (N := 28) hx hb hts hinX10 hown hK hP 0 rfl rfl 3 (by decide) (hts (.fieldLink RX10 19 "MixedWordsModel" "told" "[I") (by decide +kernel)) (fun _ h9 => h9) rfl dX10_offOf_39 ?_
  refine lv_iconst (v := nI 5) hx hb dX10_offOf_42 (by decide) ?_
  refine lv_iload_n hx hb dX10_offOf_43 rfl (lv_at hl 2 rfl) ?_
  refine lv_imul hx hb dX10_offOf_44 ?_
  refine xt_i (y := nI 0) (by decide +kernel) ?_
  refine lv_iload hx hb dX10_offOf_45 (lv_at hl 0 rfl) ?_
  refine lv_iadd hx hb dX10_offOf_47 ?_
  refine xt_i (y := nI 0) (by decide +kernel) ?_
  refine xa_iald hx hb hK hP 1 0 rfl rfl (by omega) (by decide) dX10_offOf_48 ?_
  refine xt_i (y := nI 0) (by decide +kernel) ?_
  refine lv_aload_n hx hb dX10_offOf_49 rfl (lv_at hl 4 rfl) ?_
  refine lv_iload_n hx hb dX10_offOf_50 rfl (lv_at hl 5 rfl) ?_
  refine lv_iload hx hb dX10_offOf_51 (lv_at hl 0 rfl) ?_
  refine xj_i (wc := (wD_177 h cs gI gL gA gQ)) (wr := ([] : va_W)) hP hD hS hA [0, 1, 2, 3, 4, 5, 6, 7, 8, 9, 10, 11, 12, 13, 14, 15, 16] [] rfl rfl (by decide) (by decide) (va_runV (As := [.int (nI 1), .int (nI 0)]) (rest := [.int (nI 0), .int (nI 0)]) ⟨hx, hb, hml, hown, hts⟩ (a_X10_letter_187 l dC dI h cs H.size gI gL gA gQ ) (cwV 2 hts gX10_offOf_X10_letter rfl rfl rfl (by decide +kernel) ⟨Nat.le_of_ble_eq_true rfl, Nat.le_of_ble_eq_true rfl⟩) (xpV (wc := (wD_177 h cs gI gL gA gQ)) hP hD hK hN [0, 1, 2, 3, 4, 5, 6, 7, 8, 9, 10, 11, 12, 13, 14, 15, 16] rfl (by decide) 0 (ci := 10) rfl rfl _) rfl rfl hl.1 rfl (lv_room (Nat.le_of_ble_eq_true rfl)) dX10_offOf_53 ⟨Nat.zero_le _, Nat.zero_le _⟩) (fun r_2 u_1 H locs hw hP hD hS => ?_)
  obtain ⟨hf_3, rfl⟩ := hw
  have hP : va_P (dC, dI) vwCl (wD_177 h cs gI gL gA gQ) H := hP
  have hD : va_D A0 (wD_177 h cs gI gL gA gQ) := hD
  obtain rfl := hf_3
  refine lv_imul hx hb dX10_offOf_56 ?_
  refine xt_i (y := nI 0) (by decide +kernel) ?_
  refine lv_isub hx hb dX10_offOf_57 ?_
  refine xt_i (y := nI 0) (by decide +kernel) ?_
  refine lv_istore (lv' := [(4, .int (nI 0)), (5, .int (nI 0)), (3, .int (nI 0)), (2, .int (nI 0)), (0, .ref (h 0)), (1, .int (nI 1))]) hx hb dX10_offOf_58 hl (by decide) rfl (fun ls hl => ?_)
  refine lv_iinc (v := nI 1) (lv' := [(5, .int (nI 1)), (4, .int (nI 0)), (3, .int (nI 0)), (2, .int (nI 0)), (0, .ref (h 0)), (1, .int (nI 1))]) hx hb dX10_offOf_60 hl (k := 1) rfl (by decide +kernel) (by decide) rfl (fun ls hl => ?_)
  refine lv_goto (tgt := 27) hx hb dX10_offOf_63 (by decide) ?_
  refine lv_iload hx hb dX10_offOf_27 (lv_at hl 0 rfl) ?_
  refine lv_aload_n hx hb dX10_offOf_29 rfl (lv_at hl 4 rfl) ?_
  refine va_get (D := (dC, dI)) (ci := 10) (v := .int (gI 1)) (C := RX10) (T := TX10) (N := 28) hx hb hts hinX10 hown hK hP 0 rfl rfl 1 (by decide) (hts (.fieldLink RX10 13 "MixedWordsModel" "columns" "I") (by decide +kernel)) (fun _ h9 => h9) rfl dX10_offOf_30 ?_
  refine xt_i (y := nI 2) (by decide +kernel) ?_
  refine lv_icmp_ge (tgt := 66) hx hb dX10_offOf_33 (by decide) (fun c9 => False.elim (by revert c9; decide +kernel)) (fun _ => ?_)
  refine lv_iload hx hb dX10_offOf_36 (lv_at hl 1 rfl) ?_
  refine lv_aload_n hx hb dX10_offOf_38 rfl (lv_at hl 4 rfl) ?_
  refine va_get (D := (dC, dI)) (ci := 10) (v := .ref (h 3)) (C := RX10) (T := TX10) (N := 28) hx hb hts hinX10 hown hK hP 0 rfl rfl 3 (by decide) (hts (.fieldLink RX10 19 "MixedWordsModel" "told" "[I") (by decide +kernel)) (fun _ h9 => h9) rfl dX10_offOf_39 ?_
  refine lv_iconst (v := nI 5) hx hb dX10_offOf_42 (by decide) ?_
  refine lv_iload_n hx hb dX10_offOf_43 rfl (lv_at hl 2 rfl) ?_
  refine lv_imul hx hb dX10_offOf_44 ?_
  refine xt_i (y := nI 0) (by decide +kernel) ?_
  refine lv_iload hx hb dX10_offOf_45 (lv_at hl 0 rfl) ?_
  refine lv_iadd hx hb dX10_offOf_47 ?_
  refine xt_i (y := nI 1) (by decide +kernel) ?_
  refine xa_iald hx hb hK hP 1 0 rfl rfl (by omega) (by decide) dX10_offOf_48 ?_
  refine xt_i (y := nI 0) (by decide +kernel) ?_
  refine lv_aload_n hx hb dX10_offOf_49 rfl (lv_at hl 4 rfl) ?_
  refine lv_iload_n hx hb dX10_offOf_50 rfl (lv_at hl 5 rfl) ?_
  refine lv_iload hx hb dX10_offOf_51 (lv_at hl 0 rfl) ?_
  refine xj_i (wc := (wD_177 h cs gI gL gA gQ)) (wr := ([] : va_W)) hP hD hS hA [0, 1, 2, 3, 4, 5, 6, 7, 8, 9, 10, 11, 12, 13, 14, 15, 16] [] rfl rfl (by decide) (by decide) (va_runV (As := [.int (nI 1), .int (nI 1)]) (rest := [.int (nI 0), .int (nI 0)]) ⟨hx, hb, hml, hown, hts⟩ (a_X10_letter_188 l dC dI h cs H.size gI gL gA gQ ) (cwV 2 hts gX10_offOf_X10_letter rfl rfl rfl (by decide +kernel) ⟨Nat.le_of_ble_eq_true rfl, Nat.le_of_ble_eq_true rfl⟩) (xpV (wc := (wD_177 h cs gI gL gA gQ)) hP hD hK hN [0, 1, 2, 3, 4, 5, 6, 7, 8, 9, 10, 11, 12, 13, 14, 15, 16] rfl (by decide) 0 (ci := 10) rfl rfl _) rfl rfl hl.1 rfl (lv_room (Nat.le_of_ble_eq_true rfl)) dX10_offOf_53 ⟨Nat.zero_le _, Nat.zero_le _⟩) (fun r_5 u_4 H locs hw hP hD hS => ?_)
  obtain ⟨hf_6, rfl⟩ := hw
  have hP : va_P (dC, dI) vwCl (wD_177 h cs gI gL gA gQ) H := hP
  have hD : va_D A0 (wD_177 h cs gI gL gA gQ) := hD
  obtain rfl := hf_6
  refine lv_imul hx hb dX10_offOf_56 ?_
  refine xt_i (y := nI 0) (by decide +kernel) ?_
  refine lv_isub hx hb dX10_offOf_57 ?_
  refine xt_i (y := nI 0) (by decide +kernel) ?_
  refine lv_istore (lv' := [(4, .int (nI 0)), (5, .int (nI 1)), (3, .int (nI 0)), (2, .int (nI 0)), (0, .ref (h 0)), (1, .int (nI 1))]) hx hb dX10_offOf_58 hl (by decide) rfl (fun ls hl => ?_)
  refine lv_iinc (v := nI 2) (lv' := [(5, .int (nI 2)), (4, .int (nI 0)), (3, .int (nI 0)), (2, .int (nI 0)), (0, .ref (h 0)), (1, .int (nI 1))]) hx hb dX10_offOf_60 hl (k := 1) rfl (by decide +kernel) (by decide) rfl (fun ls hl => ?_)
  refine lv_goto (tgt := 27) hx hb dX10_offOf_63 (by decide) ?_
  refine lv_iload hx hb dX10_offOf_27 (lv_at hl 0 rfl) ?_
  refine lv_aload_n hx hb dX10_offOf_29 rfl (lv_at hl 4 rfl) ?_
  refine va_get (D := (dC, dI)) (ci := 10) (v := .int (gI 1)) (C := RX10) (T := TX10) (N := 28) hx hb hts hinX10 hown hK hP 0 rfl rfl 1 (by decide) (hts (.fieldLink RX10 13 "MixedWordsModel" "columns" "I") (by decide +kernel)) (fun _ h9 => h9) rfl dX10_offOf_30 ?_
  refine xt_i (y := nI 2) (by decide +kernel) ?_
  refine lv_icmp_ge (tgt := 66) hx hb dX10_offOf_33 (by decide) (fun _ => ?_) (fun c9 => False.elim (by revert c9; decide +kernel))
  refine lv_iload_n hx hb dX10_offOf_66 rfl (lv_at hl 3 rfl) ?_
  refine lv_iload hx hb dX10_offOf_67 (lv_at hl 1 rfl) ?_
  refine lv_iload hx hb dX10_offOf_69 (lv_at hl 1 rfl) ?_
  refine lv_imul hx hb dX10_offOf_71 ?_
  refine xt_i (y := nI 0) (by decide +kernel) ?_
  refine lv_iadd hx hb dX10_offOf_72 ?_
  refine xt_i (y := nI 0) (by decide +kernel) ?_
  refine lv_istore_n (lv' := [(2, .int (nI 0)), (5, .int (nI 2)), (4, .int (nI 0)), (3, .int (nI 0)), (0, .ref (h 0)), (1, .int (nI 1))]) hx hb dX10_offOf_73 rfl hl (by decide) rfl (fun ls hl => ?_)
  refine lv_iinc (v := nI 1) (lv' := [(3, .int (nI 1)), (2, .int (nI 0)), (5, .int (nI 2)), (4, .int (nI 0)), (0, .ref (h 0)), (1, .int (nI 1))]) hx hb dX10_offOf_74 hl (k := 3) rfl (by decide +kernel) (by decide) rfl (fun ls hl => ?_)
  refine lv_goto (tgt := 4) hx hb dX10_offOf_77 (by decide) ?_
  refine lv_iload_n hx hb dX10_offOf_4 rfl (lv_at hl 0 rfl) ?_
  refine lv_aload_n hx hb dX10_offOf_5 rfl (lv_at hl 4 rfl) ?_
  refine va_get (D := (dC, dI)) (ci := 10) (v := .int (gI 0)) (C := RX10) (T := TX10) (N := 28) hx hb hts hinX10 hown hK hP 0 rfl rfl 0 (by decide) (hts (.fieldLink RX10 7 "MixedWordsModel" "rows" "I") (by decide +kernel)) (fun _ h9 => h9) rfl dX10_offOf_6 ?_
  refine xt_i (y := nI 2) (by decide +kernel) ?_
  refine lv_icmp_ge (tgt := 80) hx hb dX10_offOf_9 (by decide) (fun c9 => False.elim (by revert c9; decide +kernel)) (fun _ => ?_)
  refine lv_aload_n hx hb dX10_offOf_12 rfl (lv_at hl 4 rfl) ?_
  refine va_get (D := (dC, dI)) (ci := 10) (v := .ref (h 3)) (C := RX10) (T := TX10) (N := 28) hx hb hts hinX10 hown hK hP 0 rfl rfl 3 (by decide) (hts (.fieldLink RX10 19 "MixedWordsModel" "told" "[I") (by decide +kernel)) (fun _ h9 => h9) rfl dX10_offOf_13 ?_
  refine lv_iconst (v := nI 5) hx hb dX10_offOf_16 (by decide) ?_
  refine lv_iload_n hx hb dX10_offOf_17 rfl (lv_at hl 0 rfl) ?_
  refine lv_imul hx hb dX10_offOf_18 ?_
  refine xt_i (y := nI 5) (by decide +kernel) ?_
  refine lv_iconst (v := nI 4) hx hb dX10_offOf_19 (by decide) ?_
  refine lv_iadd hx hb dX10_offOf_20 ?_
  refine xt_i (y := nI 9) (by decide +kernel) ?_
  refine xa_iald hx hb hK hP 1 0 rfl rfl (by omega) (by decide) dX10_offOf_21 ?_
  refine xt_i (y := nI 0) (by decide +kernel) ?_
  refine lv_istore (lv' := [(4, .int (nI 0)), (3, .int (nI 1)), (2, .int (nI 0)), (5, .int (nI 2)), (0, .ref (h 0)), (1, .int (nI 1))]) hx hb dX10_offOf_22 hl (by decide) rfl (fun ls hl => ?_)
  refine lv_iconst (v := nI 0) hx hb dX10_offOf_24 (by decide) ?_
  refine lv_istore (lv' := [(5, .int (nI 0)), (4, .int (nI 0)), (3, .int (nI 1)), (2, .int (nI 0)), (0, .ref (h 0)), (1, .int (nI 1))]) hx hb dX10_offOf_25 hl (by decide) rfl (fun ls hl => ?_)
  refine lv_iload hx hb dX10_offOf_27 (lv_at hl 0 rfl) ?_
  refine lv_aload_n hx hb dX10_offOf_29 rfl (lv_at hl 4 rfl) ?_
  refine va_get (D := (dC, dI)) (ci := 10) (v := .int (gI 1)) (C := RX10) (T := TX10) (N := 28) hx hb hts hinX10 hown hK hP 0 rfl rfl 1 (by decide) (hts (.fieldLink RX10 13 "MixedWordsModel" "columns" "I") (by decide +kernel)) (fun _ h9 => h9) rfl dX10_offOf_30 ?_
  refine xt_i (y := nI 2) (by decide +kernel) ?_
  refine lv_icmp_ge (tgt := 66) hx hb dX10_offOf_33 (by decide) (fun c9 => False.elim (by revert c9; decide +kernel)) (fun _ => ?_)
  refine lv_iload hx hb dX10_offOf_36 (lv_at hl 1 rfl) ?_
  refine lv_aload_n hx hb dX10_offOf_38 rfl (lv_at hl 4 rfl) ?_
  refine va_get (D := (dC, dI)) (ci := 10) (v := .ref (h 3)) (C := RX10) (T := TX10) (N := 28) hx hb hts hinX10 hown hK hP 0 rfl rfl 3 (by decide) (hts (.fieldLink RX10 19 "MixedWordsModel" "told" "[I") (by decide +kernel)) (fun _ h9 => h9) rfl dX10_offOf_39 ?_
  refine lv_iconst (v := nI 5) hx hb dX10_offOf_42 (by decide) ?_
  refine lv_iload_n hx hb dX10_offOf_43 rfl (lv_at hl 2 rfl) ?_
  refine lv_imul hx hb dX10_offOf_44 ?_
  refine xt_i (y := nI 5) (by decide +kernel) ?_
  refine lv_iload hx hb dX10_offOf_45 (lv_at hl 0 rfl) ?_
  refine lv_iadd hx hb dX10_offOf_47 ?_
  refine xt_i (y := nI 5) (by decide +kernel) ?_
  refine xa_iald hx hb hK hP 1 0 rfl rfl (by omega) (by decide) dX10_offOf_48 ?_
  refine xt_i (y := nI 0) (by decide +kernel) ?_
  refine lv_aload_n hx hb dX10_offOf_49 rfl (lv_at hl 4 rfl) ?_
  refine lv_iload_n hx hb dX10_offOf_50 rfl (lv_at hl 5 rfl) ?_
  refine lv_iload hx hb dX10_offOf_51 (lv_at hl 0 rfl) ?_
  refine xj_i (wc := (wD_177 h cs gI gL gA gQ)) (wr := ([] : va_W)) hP hD hS hA [0, 1, 2, 3, 4, 5, 6, 7, 8, 9, 10, 11, 12, 13, 14, 15, 16] [] rfl rfl (by decide) (by decide) (va_runV (As := [.int (nI 1), .int (nI 0)]) (rest := [.int (nI 0), .int (nI 0)]) ⟨hx, hb, hml, hown, hts⟩ (a_X10_letter_187 l dC dI h cs H.size gI gL gA gQ ) (cwV 2 hts gX10_offOf_X10_letter rfl rfl rfl (by decide +kernel) ⟨Nat.le_of_ble_eq_true rfl, Nat.le_of_ble_eq_true rfl⟩) (xpV (wc := (wD_177 h cs gI gL gA gQ)) hP hD hK hN [0, 1, 2, 3, 4, 5, 6, 7, 8, 9, 10, 11, 12, 13, 14, 15, 16] rfl (by decide) 0 (ci := 10) rfl rfl _) rfl rfl hl.1 rfl (lv_room (Nat.le_of_ble_eq_true rfl)) dX10_offOf_53 ⟨Nat.zero_le _, Nat.zero_le _⟩) (fun r_8 u_7 H locs hw hP hD hS => ?_)
  obtain ⟨hf_9, rfl⟩ := hw
  have hP : va_P (dC, dI) vwCl (wD_177 h cs gI gL gA gQ) H := hP
  have hD : va_D A0 (wD_177 h cs gI gL gA gQ) := hD
  obtain rfl := hf_9
  refine lv_imul hx hb dX10_offOf_56 ?_
  refine xt_i (y := nI 0) (by decide +kernel) ?_
  refine lv_isub hx hb dX10_offOf_57 ?_
  refine xt_i (y := nI 0) (by decide +kernel) ?_
  refine lv_istore (lv' := [(4, .int (nI 0)), (5, .int (nI 0)), (3, .int (nI 1)), (2, .int (nI 0)), (0, .ref (h 0)), (1, .int (nI 1))]) hx hb dX10_offOf_58 hl (by decide) rfl (fun ls hl => ?_)
  refine lv_iinc (v := nI 1) (lv' := [(5, .int (nI 1)), (4, .int (nI 0)), (3, .int (nI 1)), (2, .int (nI 0)), (0, .ref (h 0)), (1, .int (nI 1))]) hx hb dX10_offOf_60 hl (k := 1) rfl (by decide +kernel) (by decide) rfl (fun ls hl => ?_)
  refine lv_goto (tgt := 27) hx hb dX10_offOf_63 (by decide) ?_
  refine lv_iload hx hb dX10_offOf_27 (lv_at hl 0 rfl) ?_
  refine lv_aload_n hx hb dX10_offOf_29 rfl (lv_at hl 4 rfl) ?_
  refine va_get (D := (dC, dI)) (ci := 10) (v := .int (gI 1)) (C := RX10) (T := TX10) (N := 28) hx hb hts hinX10 hown hK hP 0 rfl rfl 1 (by decide) (hts (.fieldLink RX10 13 "MixedWordsModel" "columns" "I") (by decide +kernel)) (fun _ h9 => h9) rfl dX10_offOf_30 ?_
  refine xt_i (y := nI 2) (by decide +kernel) ?_
  refine lv_icmp_ge (tgt := 66) hx hb dX10_offOf_33 (by decide) (fun c9 => False.elim (by revert c9; decide +kernel)) (fun _ => ?_)
  refine lv_iload hx hb dX10_offOf_36 (lv_at hl 1 rfl) ?_
  refine lv_aload_n hx hb dX10_offOf_38 rfl (lv_at hl 4 rfl) ?_
  refine va_get (D := (dC, dI)) (ci := 10) (v := .ref (h 3)) (C := RX10) (T := TX10) (N := 28) hx hb hts hinX10 hown hK hP 0 rfl rfl 3 (by decide) (hts (.fieldLink RX10 19 "MixedWordsModel" "told" "[I") (by decide +kernel)) (fun _ h9 => h9) rfl dX10_offOf_39 ?_
  refine lv_iconst (v := nI 5) hx hb dX10_offOf_42 (by decide) ?_
  refine lv_iload_n hx hb dX10_offOf_43 rfl (lv_at hl 2 rfl) ?_
  refine lv_imul hx hb dX10_offOf_44 ?_
  refine xt_i (y := nI 5) (by decide +kernel) ?_
  refine lv_iload hx hb dX10_offOf_45 (lv_at hl 0 rfl) ?_
  refine lv_iadd hx hb dX10_offOf_47 ?_
  refine xt_i (y := nI 6) (by decide +kernel) ?_
  refine xa_iald hx hb hK hP 1 0 rfl rfl (by omega) (by decide) dX10_offOf_48 ?_
  refine xt_i (y := nI 0) (by decide +kernel) ?_
  refine lv_aload_n hx hb dX10_offOf_49 rfl (lv_at hl 4 rfl) ?_
  refine lv_iload_n hx hb dX10_offOf_50 rfl (lv_at hl 5 rfl) ?_
  refine lv_iload hx hb dX10_offOf_51 (lv_at hl 0 rfl) ?_
  refine xj_i (wc := (wD_177 h cs gI gL gA gQ)) (wr := ([] : va_W)) hP hD hS hA [0, 1, 2, 3, 4, 5, 6, 7, 8, 9, 10, 11, 12, 13, 14, 15, 16] [] rfl rfl (by decide) (by decide) (va_runV (As := [.int (nI 1), .int (nI 1)]) (rest := [.int (nI 0), .int (nI 0)]) ⟨hx, hb, hml, hown, hts⟩ (a_X10_letter_188 l dC dI h cs H.size gI gL gA gQ ) (cwV 2 hts gX10_offOf_X10_letter rfl rfl rfl (by decide +kernel) ⟨Nat.le_of_ble_eq_true rfl, Nat.le_of_ble_eq_true rfl⟩) (xpV (wc := (wD_177 h cs gI gL gA gQ)) hP hD hK hN [0, 1, 2, 3, 4, 5, 6, 7, 8, 9, 10, 11, 12, 13, 14, 15, 16] rfl (by decide) 0 (ci := 10) rfl rfl _) rfl rfl hl.1 rfl (lv_room (Nat.le_of_ble_eq_true rfl)) dX10_offOf_53 ⟨Nat.zero_le _, Nat.zero_le _⟩) (fun r_11 u_10 H locs hw hP hD hS => ?_)
  obtain ⟨hf_12, rfl⟩ := hw
  have hP : va_P (dC, dI) vwCl (wD_177 h cs gI gL gA gQ) H := hP
  have hD : va_D A0 (wD_177 h cs gI gL gA gQ) := hD
  obtain rfl := hf_12
  refine lv_imul hx hb dX10_offOf_56 ?_
  refine xt_i (y := nI 0) (by decide +kernel) ?_
  refine lv_isub hx hb dX10_offOf_57 ?_
  refine xt_i (y := nI 0) (by decide +kernel) ?_
  refine lv_istore (lv' := [(4, .int (nI 0)), (5, .int (nI 1)), (3, .int (nI 1)), (2, .int (nI 0)), (0, .ref (h 0)), (1, .int (nI 1))]) hx hb dX10_offOf_58 hl (by decide) rfl (fun ls hl => ?_)
  refine lv_iinc (v := nI 2) (lv' := [(5, .int (nI 2)), (4, .int (nI 0)), (3, .int (nI 1)), (2, .int (nI 0)), (0, .ref (h 0)), (1, .int (nI 1))]) hx hb dX10_offOf_60 hl (k := 1) rfl (by decide +kernel) (by decide) rfl (fun ls hl => ?_)
  refine lv_goto (tgt := 27) hx hb dX10_offOf_63 (by decide) ?_
  refine lv_iload hx hb dX10_offOf_27 (lv_at hl 0 rfl) ?_
  refine lv_aload_n hx hb dX10_offOf_29 rfl (lv_at hl 4 rfl) ?_
  refine va_get (D := (dC, dI)) (ci := 10) (v := .int (gI 1)) (C := RX10) (T := TX10) (N := 28) hx hb hts hinX10 hown hK hP 0 rfl rfl 1 (by decide) (hts (.fieldLink RX10 13 "MixedWordsModel" "columns" "I") (by decide +kernel)) (fun _ h9 => h9) rfl dX10_offOf_30 ?_
  refine xt_i (y := nI 2) (by decide +kernel) ?_
  refine lv_icmp_ge (tgt := 66) hx hb dX10_offOf_33 (by decide) (fun _ => ?_) (fun c9 => False.elim (by revert c9; decide +kernel))
  refine lv_iload_n hx hb dX10_offOf_66 rfl (lv_at hl 3 rfl) ?_
  refine lv_iload hx hb dX10_offOf_67 (lv_at hl 1 rfl) ?_
  refine lv_iload hx hb dX10_offOf_69 (lv_at hl 1 rfl) ?_
  refine lv_imul hx hb dX10_offOf_71 ?_
  refine xt_i (y := nI 0) (by decide +kernel) ?_
  refine lv_iadd hx hb dX10_offOf_72 ?_
  refine xt_i (y := nI 0) (by decide +kernel) ?_
  refine lv_istore_n (lv' := [(2, .int (nI 0)), (5, .int (nI 2)), (4, .int (nI 0)), (3, .int (nI 1)), (0, .ref (h 0)), (1, .int (nI 1))]) hx hb dX10_offOf_73 rfl hl (by decide) rfl (fun ls hl => ?_)
  refine lv_iinc (v := nI 2) (lv' := [(3, .int (nI 2)), (2, .int (nI 0)), (5, .int (nI 2)), (4, .int (nI 0)), (0, .ref (h 0)), (1, .int (nI 1))]) hx hb dX10_offOf_74 hl (k := 3) rfl (by decide +kernel) (by decide) rfl (fun ls hl => ?_)
  refine lv_goto (tgt := 4) hx hb dX10_offOf_77 (by decide) ?_
  refine lv_iload_n hx hb dX10_offOf_4 rfl (lv_at hl 0 rfl) ?_
  refine lv_aload_n hx hb dX10_offOf_5 rfl (lv_at hl 4 rfl) ?_
  refine va_get (D := (dC, dI)) (ci := 10) (v := .int (gI 0)) (C := RX10) (T := TX10) (N := 28) hx hb hts hinX10 hown hK hP 0 rfl rfl 0 (by decide) (hts (.fieldLink RX10 7 "MixedWordsModel" "rows" "I") (by decide +kernel)) (fun _ h9 => h9) rfl dX10_offOf_6 ?_
  refine xt_i (y := nI 2) (by decide +kernel) ?_
  refine lv_icmp_ge (tgt := 80) hx hb dX10_offOf_9 (by decide) (fun _ => ?_) (fun c9 => False.elim (by revert c9; decide +kernel))
  refine lv_iload_n hx hb dX10_offOf_80 rfl (lv_at hl 1 rfl) ?_
  exact xr_i (v := (nI 0)) hx hb hr hlocks hK hS dX10_offOf_81 (gI, gL, gA, gQ) ⟨rfl, rfl⟩ hP hD
set_option maxHeartbeats 4000000 in
set_option maxRecDepth 100000 in
theorem a_X10_in_190 (l : Launch) (dC : Nat → ClassId) (dI : Nat → Nat → Nat) (h : Nat → Nat) (cs : Nat → ClassId) (sz : Nat) (I : Nat → Int32) (L : Nat → Int64) (A : Nat → Nat → Int32) (Q : Nat → Nat → Int64) : Met l yX10_in wsX10_in ({ frames := 0, cells := 0, slots := 0, locals := 0 }) (va_Pc [.long (2 : Int64), .long (0 : Int64), .long (3 : Int64)] (xPre (dC, dI) ([] : va_W) (tysA cs) sz)) (va_Qi (fun (r : Int32) (u : RS) => (r = nI 1) ∧ u = (I, L, A, Q)) (xB (dC, dI) (tysA cs) (va_A ([] : va_W) sz) (fun _ : RS => ([] : va_W))) (va_A ([] : va_W) sz)) 0 0 (va_A ([] : va_W) sz) := by
  refine Met.ofW (cc := cX10_in) (maxL := 6) (ret := (some .boolean)) (by decide) rfl ?_
  intro p e s m args below meth c s₁ B hml hv
  obtain ⟨rfl, hsz, hP, hK, hD0, hN⟩ := hv
  have hx := B.exec
  have hb := B.bytes
  have hr := B.returns
  have hts := atoms_spec (ws := wsX10_in) B.pre
  have hown : s.vm.findClass RX10 = some m.cls := findClass_of_methodNamed B.named
  have hlocks := B.notSynchronized
  subst hsz
  have hD := hD0.self (sz := s.heap.size)
  generalize hAe : va_A ([] : va_W) s.heap.size = A0 at hD ⊢
  have hA : ∀ q : Nat, s.heap.size ≤ q → A0 q := fun q h => by rw [← hAe]; exact Or.inr h
  have hl := lv_entry ([.long (2 : Int64), .long (0 : Int64), .long (3 : Int64)]) (n := 6) (Nat.le_of_ble_eq_true rfl)
  rw [lg_entry_eq]
  generalize (lg_sl ([.long (2 : Int64), .long (0 : Int64), .long (3 : Int64)]) ++ List.replicate (6 - (lg_sl ([.long (2 : Int64), .long (0 : Int64), .long (3 : Int64)])).length) Slot.unset).toArray = ls at hl ⊢
  have hl : lv_has ls 6 [(0, .long (2 : Int64)), (2, .long (0 : Int64)), (4, .long (3 : Int64))] := hl
  generalize hH : s.heap = H at hP ⊢
  have hS : va_S A0 s.heap H [] := by rw [← hH]; exact va_S.rf
  refine lv_lload_n hx hb dX10_in_0 rfl (lv_at hl 0 rfl) ?_
  refine lv_lload_n hx hb dX10_in_1 rfl (lv_at hl 1 rfl) ?_
  refine xl_lt (tgt := 17) hx hb dX10_in_2 dX10_in_3 (by decide) (fun c9 => False.elim (by revert c9; decide +kernel)) (fun _ => ?_)
  refine lv_lload_n hx hb dX10_in_6 rfl (lv_at hl 0 rfl) ?_
  refine lv_lload hx hb dX10_in_7 (lv_at hl 2 rfl) ?_
  refine xl_gt (tgt := 17) hx hb dX10_in_9 dX10_in_10 (by decide) (fun c9 => False.elim (by revert c9; decide +kernel)) (fun _ => ?_)
  refine lv_iconst (v := nI 1) hx hb dX10_in_13 (by decide) ?_
  refine lv_goto (tgt := 18) hx hb dX10_in_14 (by decide) ?_
  exact xr_z (v := (nI 1)) hx hb hr hlocks hK hS dX10_in_18 (rfl) (I, L, A, Q) ⟨rfl, rfl⟩ hP hD
set_option maxHeartbeats 4000000 in
set_option maxRecDepth 100000 in
theorem a_X10_isWord_189 (l : Launch) (dC : Nat → ClassId) (dI : Nat → Nat → Nat) (h : Nat → Nat) (cs : Nat → ClassId) (sz : Nat) (I : Nat → Int32) (L : Nat → Int64) (A : Nat → Nat → Int32) (Q : Nat → Nat → Int64) : Met l yX10_isWord wsX10_isWord ({ frames := 1, cells := 0, slots := 0, locals := 25 }) (va_Pc [.ref (h 0), .int (nI 2)] (xPre (dC, dI) (wD_177 h cs gI gL gA gQ) (tysA cs) sz)) (va_Qi (fun (r : Int32) (u : RS) => (r = nI 1) ∧ u = (gI, gL, gA, gQ)) (xB (dC, dI) (tysA cs) (va_A (wD_177 h cs gI gL gA gQ) sz) (fun u : RS => wD_177 h cs u.1 u.2.1 u.2.2.1 u.2.2.2)) (va_A (wD_177 h cs gI gL gA gQ) sz)) 0 0 (va_A (wD_177 h cs gI gL gA gQ) sz) := by
  refine Met.ofW (cc := cX10_isWord) (maxL := 2) (ret := (some .boolean)) (by decide) rfl ?_
  intro p e s m args below meth c s₁ B hml hv
  obtain ⟨rfl, hsz, hP, hK, hD0, hN⟩ := hv
  have hx := B.exec
  have hb := B.bytes
  have hr := B.returns
  have hts := atoms_spec (ws := wsX10_isWord) B.pre
  have hown : s.vm.findClass RX10 = some m.cls := findClass_of_methodNamed B.named
  have hlocks := B.notSynchronized
  subst hsz
  have hD := hD0.self (sz := s.heap.size)
  generalize hAe : va_A (wD_177 h cs gI gL gA gQ) s.heap.size = A0 at hD ⊢
  have hA : ∀ q : Nat, s.heap.size ≤ q → A0 q := fun q h => by rw [← hAe]; exact Or.inr h
  have hl := lv_entry ([.ref (h 0), .int (nI 2)]) (n := 2) (Nat.le_of_ble_eq_true rfl)
  rw [lg_entry_eq]
  generalize (lg_sl ([.ref (h 0), .int (nI 2)]) ++ List.replicate (2 - (lg_sl ([.ref (h 0), .int (nI 2)])).length) Slot.unset).toArray = ls at hl ⊢
  have hl : lv_has ls 2 [(0, .ref (h 0)), (1, .int (nI 2))] := hl
  generalize hH : s.heap = H at hP ⊢
  have hS : va_S A0 s.heap H [] := by rw [← hH]; exact va_S.rf
  refine lv_iload_n hx hb dX10_isWord_0 rfl (lv_at hl 1 rfl) ?_
  refine lv_i2l (v := (2 : Int64)) hx hb dX10_isWord_1 (by decide +kernel) ?_
  refine lv_lconst (v := 0) hx hb dX10_isWord_2 rfl ?_
  refine lv_aload_n hx hb dX10_isWord_3 rfl (lv_at hl 0 rfl) ?_
  refine xj_i (wc := (wD_177 h cs gI gL gA gQ)) (wr := ([] : va_W)) hP hD hS hA [0, 1, 2, 3, 4, 5, 6, 7, 8, 9, 10, 11, 12, 13, 14, 15, 16] [] rfl rfl (by decide) (by decide) (va_runV (As := []) (rest := [.long (0 : Int64), .long (2 : Int64)]) ⟨hx, hb, hml, hown, hts⟩ (a_X10_words_179 l dC dI h cs H.size gI gL gA gQ ) (cwV 0 hts gX10_isWord_X10_words rfl rfl rfl (by decide +kernel) ⟨Nat.le_of_ble_eq_true rfl, Nat.le_of_ble_eq_true rfl⟩) (xpV (wc := (wD_177 h cs gI gL gA gQ)) hP hD hK hN [0, 1, 2, 3, 4, 5, 6, 7, 8, 9, 10, 11, 12, 13, 14, 15, 16] rfl (by decide) 0 (ci := 10) rfl rfl _) rfl rfl hl.1 rfl (lv_room (Nat.le_of_ble_eq_true rfl)) dX10_isWord_4 ⟨Nat.zero_le _, Nat.zero_le _⟩) (fun r_2 u_1 H locs hw hP hD hS => ?_)
  obtain ⟨hf_3, rfl⟩ := hw
  have hP : va_P (dC, dI) vwCl (wD_177 h cs gI gL gA gQ) H := hP
  have hD : va_D A0 (wD_177 h cs gI gL gA gQ) := hD
  obtain rfl := hf_3
  refine lv_iconst (v := nI 1) hx hb dX10_isWord_7 (by decide) ?_
  refine lv_isub hx hb dX10_isWord_8 ?_
  refine xt_i (y := nI 3) (by decide +kernel) ?_
  refine lv_i2l (v := (3 : Int64)) hx hb dX10_isWord_9 (by decide +kernel) ?_
  refine xj_i (wc := ([] : va_W)) (wr := (wD_177 h cs gI gL gA gQ)) hP hD hS hA [] [0, 1, 2, 3, 4, 5, 6, 7, 8, 9, 10, 11, 12, 13, 14, 15, 16] rfl rfl (by decide) (by decide) (va_runS (As := [.long (2 : Int64), .long (0 : Int64), .long (3 : Int64)]) (rest := []) ⟨hx, hb, hml, hown, hts⟩ (a_X10_in_190 l dC dI h cs H.size I L A Q ) (va_cwS 3 hts gX10_isWord_X10_in rfl rfl rfl (by decide +kernel) ⟨Nat.le_of_ble_eq_true rfl, Nat.le_of_ble_eq_true rfl⟩) (xpS (wc := ([] : va_W)) hP hD hK hN [] rfl (by decide) _) rfl rfl hl.1 rfl (lv_room (Nat.le_of_ble_eq_true rfl)) dX10_isWord_10 ⟨Nat.zero_le _, Nat.zero_le _⟩) (fun r_5 u_4 H locs hw hP hD hS => ?_)
  obtain ⟨hf_6, rfl⟩ := hw
  have hP : va_P (dC, dI) vwCl (wD_177 h cs gI gL gA gQ) H := hP
  have hD : va_D A0 (wD_177 h cs gI gL gA gQ) := hD
  obtain rfl := hf_6
  exact xr_z (v := (nI 1)) hx hb hr hlocks hK hS dX10_isWord_13 (rfl) (gI, gL, gA, gQ) ⟨rfl, rfl⟩ hP hD
set_option maxHeartbeats 4000000 in
set_option maxRecDepth 100000 in
theorem a_X10_letter_192 (l : Launch) (dC : Nat → ClassId) (dI : Nat → Nat → Nat) (h : Nat → Nat) (cs : Nat → ClassId) (sz : Nat) (I : Nat → Int32) (L : Nat → Int64) (A : Nat → Nat → Int32) (Q : Nat → Nat → Int64) : Met l yX10_letter wsX10_letter ({ frames := 0, cells := 0, slots := 0, locals := 0 }) (va_Pc [.ref (h 0), .int (nI 2), .int (nI 0)] (xPre (dC, dI) (wD_177 h cs gI gL gA gQ) (tysA cs) sz)) (va_Qi (fun (r : Int32) (u : RS) => (r = nI 1) ∧ u = (gI, gL, gA, gQ)) (xB (dC, dI) (tysA cs) (va_A (wD_177 h cs gI gL gA gQ) sz) (fun u : RS => wD_177 h cs u.1 u.2.1 u.2.2.1 u.2.2.2)) (va_A (wD_177 h cs gI gL gA gQ) sz)) 0 0 (va_A (wD_177 h cs gI gL gA gQ) sz) := by
  refine Met.ofW (cc := cX10_letter) (maxL := 5) (ret := (some .int)) (by decide) rfl ?_
  intro p e s m args below meth c s₁ B hml hv
  obtain ⟨rfl, hsz, hP, hK, hD0, hN⟩ := hv
  have hx := B.exec
  have hb := B.bytes
  have hr := B.returns
  have hts := atoms_spec (ws := wsX10_letter) B.pre
  have hown : s.vm.findClass RX10 = some m.cls := findClass_of_methodNamed B.named
  have hlocks := B.notSynchronized
  subst hsz
  have hD := hD0.self (sz := s.heap.size)
  generalize hAe : va_A (wD_177 h cs gI gL gA gQ) s.heap.size = A0 at hD ⊢
  have hA : ∀ q : Nat, s.heap.size ≤ q → A0 q := fun q h => by rw [← hAe]; exact Or.inr h
  have hl := lv_entry ([.ref (h 0), .int (nI 2), .int (nI 0)]) (n := 5) (Nat.le_of_ble_eq_true rfl)
  rw [lg_entry_eq]
  generalize (lg_sl ([.ref (h 0), .int (nI 2), .int (nI 0)]) ++ List.replicate (5 - (lg_sl ([.ref (h 0), .int (nI 2), .int (nI 0)])).length) Slot.unset).toArray = ls at hl ⊢
  have hl : lv_has ls 5 [(0, .ref (h 0)), (1, .int (nI 2)), (2, .int (nI 0))] := hl
  generalize hH : s.heap = H at hP ⊢
  have hS : va_S A0 s.heap H [] := by rw [← hH]; exact va_S.rf
  have hinX10 : ∀ w ∈ wsX100, w ∈ wsX10_letter := by decide +kernel
  refine lv_iload_n hx hb dX10_letter_0 rfl (lv_at hl 1 rfl) ?_
  refine lv_istore_n (lv' := [(3, .int (nI 2)), (0, .ref (h 0)), (1, .int (nI 2)), (2, .int (nI 0))]) hx hb dX10_letter_1 rfl hl (by decide) rfl (fun ls hl => ?_)
  refine lv_aload_n hx hb dX10_letter_2 rfl (lv_at hl 1 rfl) ?_
  refine va_get (D := (dC, dI)) (ci := 10) (v := .int (gI 1)) (C := RX10) (T := TX10) (N := 28) hx hb hts hinX10 hown hK hP 0 rfl rfl 1 (by decide) (hts (.fieldLink RX10 13 "MixedWordsModel" "columns" "I") (by decide +kernel)) (fun _ h9 => h9) rfl dX10_letter_3 ?_
  refine xt_i (y := nI 2) (by decide +kernel) ?_
  refine lv_iconst (v := nI 1) hx hb dX10_letter_6 (by decide) ?_
  refine lv_isub hx hb dX10_letter_7 ?_
  refine xt_i (y := nI 1) (by decide +kernel) ?_
  refine lv_istore (lv' := [(4, .int (nI 1)), (3, .int (nI 2)), (0, .ref (h 0)), (1, .int (nI 2)), (2, .int (nI 0))]) hx hb dX10_letter_8 hl (by decide) rfl (fun ls hl => ?_)
  refine lv_iload hx hb dX10_letter_10 (lv_at hl 0 rfl) ?_
  refine lv_iload_n hx hb dX10_letter_12 rfl (lv_at hl 4 rfl) ?_
  refine lv_icmp_le (tgt := 29) hx hb dX10_letter_13 (by decide) (fun c9 => False.elim (by revert c9; decide +kernel)) (fun _ => ?_)
  refine lv_iload_n hx hb dX10_letter_16 rfl (lv_at hl 1 rfl) ?_
  refine lv_aload_n hx hb dX10_letter_17 rfl (lv_at hl 2 rfl) ?_
  refine va_get (D := (dC, dI)) (ci := 10) (v := .int (gI 2)) (C := RX10) (T := TX10) (N := 28) hx hb hts hinX10 hown hK hP 0 rfl rfl 2 (by decide) (hts (.fieldLink RX10 16 "MixedWordsModel" "a" "I") (by decide +kernel)) (fun _ h9 => h9) rfl dX10_letter_18 ?_
  refine xt_i (y := nI 2) (by decide +kernel) ?_
  refine lv_idiv hx hb dX10_letter_21 (by decide +kernel) ?_
  refine xt_i (y := nI 1) (by decide +kernel) ?_
  refine lv_istore_n (lv' := [(3, .int (nI 1)), (4, .int (nI 1)), (0, .ref (h 0)), (1, .int (nI 2)), (2, .int (nI 0))]) hx hb dX10_letter_22 rfl hl (by decide) rfl (fun ls hl => ?_)
  refine lv_iinc (v := nI 0) (lv' := [(4, .int (nI 0)), (3, .int (nI 1)), (0, .ref (h 0)), (1, .int (nI 2)), (2, .int (nI 0))]) hx hb dX10_letter_23 hl (k := 1) rfl (by decide +kernel) (by decide) rfl (fun ls hl => ?_)
  refine lv_goto (tgt := 10) hx hb dX10_letter_26 (by decide) ?_
  refine lv_iload hx hb dX10_letter_10 (lv_at hl 0 rfl) ?_
  refine lv_iload_n hx hb dX10_letter_12 rfl (lv_at hl 4 rfl) ?_
  refine lv_icmp_le (tgt := 29) hx hb dX10_letter_13 (by decide) (fun _ => ?_) (fun c9 => False.elim (by revert c9; decide +kernel))
  refine lv_iconst (v := nI 2) hx hb dX10_letter_29 (by decide) ?_
  refine lv_iload_n hx hb dX10_letter_30 rfl (lv_at hl 1 rfl) ?_
  refine lv_aload_n hx hb dX10_letter_31 rfl (lv_at hl 2 rfl) ?_
  refine va_get (D := (dC, dI)) (ci := 10) (v := .int (gI 2)) (C := RX10) (T := TX10) (N := 28) hx hb hts hinX10 hown hK hP 0 rfl rfl 2 (by decide) (hts (.fieldLink RX10 16 "MixedWordsModel" "a" "I") (by decide +kernel)) (fun _ h9 => h9) rfl dX10_letter_32 ?_
  refine xt_i (y := nI 2) (by decide +kernel) ?_
  refine lv_irem hx hb dX10_letter_35 (by decide +kernel) ?_
  refine xt_i (y := nI 1) (by decide +kernel) ?_
  refine lv_imul hx hb dX10_letter_36 ?_
  refine xt_i (y := nI 2) (by decide +kernel) ?_
  refine lv_aload_n hx hb dX10_letter_37 rfl (lv_at hl 2 rfl) ?_
  refine va_get (D := (dC, dI)) (ci := 10) (v := .int (gI 2)) (C := RX10) (T := TX10) (N := 28) hx hb hts hinX10 hown hK hP 0 rfl rfl 2 (by decide) (hts (.fieldLink RX10 16 "MixedWordsModel" "a" "I") (by decide +kernel)) (fun _ h9 => h9) rfl dX10_letter_38 ?_
  refine xt_i (y := nI 2) (by decide +kernel) ?_
  refine lv_isub hx hb dX10_letter_41 ?_
  refine xt_i (y := nI 0) (by decide +kernel) ?_
  refine lv_iconst (v := nI 1) hx hb dX10_letter_42 (by decide) ?_
  refine lv_iadd hx hb dX10_letter_43 ?_
  refine xt_i (y := nI 1) (by decide +kernel) ?_
  exact xr_i (v := (nI 1)) hx hb hr hlocks hK hS dX10_letter_44 (gI, gL, gA, gQ) ⟨rfl, rfl⟩ hP hD
set_option maxHeartbeats 4000000 in
set_option maxRecDepth 100000 in
theorem a_X10_letter_193 (l : Launch) (dC : Nat → ClassId) (dI : Nat → Nat → Nat) (h : Nat → Nat) (cs : Nat → ClassId) (sz : Nat) (I : Nat → Int32) (L : Nat → Int64) (A : Nat → Nat → Int32) (Q : Nat → Nat → Int64) : Met l yX10_letter wsX10_letter ({ frames := 0, cells := 0, slots := 0, locals := 0 }) (va_Pc [.ref (h 0), .int (nI 2), .int (nI 1)] (xPre (dC, dI) (wD_177 h cs gI gL gA gQ) (tysA cs) sz)) (va_Qi (fun (r : Int32) (u : RS) => (r = (-1 : Int32)) ∧ u = (gI, gL, gA, gQ)) (xB (dC, dI) (tysA cs) (va_A (wD_177 h cs gI gL gA gQ) sz) (fun u : RS => wD_177 h cs u.1 u.2.1 u.2.2.1 u.2.2.2)) (va_A (wD_177 h cs gI gL gA gQ) sz)) 0 0 (va_A (wD_177 h cs gI gL gA gQ) sz) := by
  refine Met.ofW (cc := cX10_letter) (maxL := 5) (ret := (some .int)) (by decide) rfl ?_
  intro p e s m args below meth c s₁ B hml hv
  obtain ⟨rfl, hsz, hP, hK, hD0, hN⟩ := hv
  have hx := B.exec
  have hb := B.bytes
  have hr := B.returns
  have hts := atoms_spec (ws := wsX10_letter) B.pre
  have hown : s.vm.findClass RX10 = some m.cls := findClass_of_methodNamed B.named
  have hlocks := B.notSynchronized
  subst hsz
  have hD := hD0.self (sz := s.heap.size)
  generalize hAe : va_A (wD_177 h cs gI gL gA gQ) s.heap.size = A0 at hD ⊢
  have hA : ∀ q : Nat, s.heap.size ≤ q → A0 q := fun q h => by rw [← hAe]; exact Or.inr h
  have hl := lv_entry ([.ref (h 0), .int (nI 2), .int (nI 1)]) (n := 5) (Nat.le_of_ble_eq_true rfl)
  rw [lg_entry_eq]
  generalize (lg_sl ([.ref (h 0), .int (nI 2), .int (nI 1)]) ++ List.replicate (5 - (lg_sl ([.ref (h 0), .int (nI 2), .int (nI 1)])).length) Slot.unset).toArray = ls at hl ⊢
  have hl : lv_has ls 5 [(0, .ref (h 0)), (1, .int (nI 2)), (2, .int (nI 1))] := hl
  generalize hH : s.heap = H at hP ⊢
  have hS : va_S A0 s.heap H [] := by rw [← hH]; exact va_S.rf
  have hinX10 : ∀ w ∈ wsX100, w ∈ wsX10_letter := by decide +kernel
  refine lv_iload_n hx hb dX10_letter_0 rfl (lv_at hl 1 rfl) ?_
  refine lv_istore_n (lv' := [(3, .int (nI 2)), (0, .ref (h 0)), (1, .int (nI 2)), (2, .int (nI 1))]) hx hb dX10_letter_1 rfl hl (by decide) rfl (fun ls hl => ?_)
  refine lv_aload_n hx hb dX10_letter_2 rfl (lv_at hl 1 rfl) ?_
  refine va_get (D := (dC, dI)) (ci := 10) (v := .int (gI 1)) (C := RX10) (T := TX10) (N := 28) hx hb hts hinX10 hown hK hP 0 rfl rfl 1 (by decide) (hts (.fieldLink RX10 13 "MixedWordsModel" "columns" "I") (by decide +kernel)) (fun _ h9 => h9) rfl dX10_letter_3 ?_
  refine xt_i (y := nI 2) (by decide +kernel) ?_
  refine lv_iconst (v := nI 1) hx hb dX10_letter_6 (by decide) ?_
  refine lv_isub hx hb dX10_letter_7 ?_
  refine xt_i (y := nI 1) (by decide +kernel) ?_
  refine lv_istore (lv' := [(4, .int (nI 1)), (3, .int (nI 2)), (0, .ref (h 0)), (1, .int (nI 2)), (2, .int (nI 1))]) hx hb dX10_letter_8 hl (by decide) rfl (fun ls hl => ?_)
  refine lv_iload hx hb dX10_letter_10 (lv_at hl 0 rfl) ?_
  refine lv_iload_n hx hb dX10_letter_12 rfl (lv_at hl 4 rfl) ?_
  refine lv_icmp_le (tgt := 29) hx hb dX10_letter_13 (by decide) (fun _ => ?_) (fun c9 => False.elim (by revert c9; decide +kernel))
  refine lv_iconst (v := nI 2) hx hb dX10_letter_29 (by decide) ?_
  refine lv_iload_n hx hb dX10_letter_30 rfl (lv_at hl 1 rfl) ?_
  refine lv_aload_n hx hb dX10_letter_31 rfl (lv_at hl 2 rfl) ?_
  refine va_get (D := (dC, dI)) (ci := 10) (v := .int (gI 2)) (C := RX10) (T := TX10) (N := 28) hx hb hts hinX10 hown hK hP 0 rfl rfl 2 (by decide) (hts (.fieldLink RX10 16 "MixedWordsModel" "a" "I") (by decide +kernel)) (fun _ h9 => h9) rfl dX10_letter_32 ?_
  refine xt_i (y := nI 2) (by decide +kernel) ?_
  refine lv_irem hx hb dX10_letter_35 (by decide +kernel) ?_
  refine xt_i (y := nI 0) (by decide +kernel) ?_
  refine lv_imul hx hb dX10_letter_36 ?_
  refine xt_i (y := nI 0) (by decide +kernel) ?_
  refine lv_aload_n hx hb dX10_letter_37 rfl (lv_at hl 2 rfl) ?_
  refine va_get (D := (dC, dI)) (ci := 10) (v := .int (gI 2)) (C := RX10) (T := TX10) (N := 28) hx hb hts hinX10 hown hK hP 0 rfl rfl 2 (by decide) (hts (.fieldLink RX10 16 "MixedWordsModel" "a" "I") (by decide +kernel)) (fun _ h9 => h9) rfl dX10_letter_38 ?_
  refine xt_i (y := nI 2) (by decide +kernel) ?_
  refine lv_isub hx hb dX10_letter_41 ?_
  refine xt_i (y := (-2 : Int32)) (by decide +kernel) ?_
  refine lv_iconst (v := nI 1) hx hb dX10_letter_42 (by decide) ?_
  refine lv_iadd hx hb dX10_letter_43 ?_
  refine xt_i (y := (-1 : Int32)) (by decide +kernel) ?_
  exact xr_i (v := (-1 : Int32)) hx hb hr hlocks hK hS dX10_letter_44 (gI, gL, gA, gQ) ⟨rfl, rfl⟩ hP hD
set_option maxHeartbeats 4000000 in
set_option maxRecDepth 100000 in
theorem a_X10_offOf_191 (l : Launch) (dC : Nat → ClassId) (dI : Nat → Nat → Nat) (h : Nat → Nat) (cs : Nat → ClassId) (sz : Nat) (I : Nat → Int32) (L : Nat → Int64) (A : Nat → Nat → Int32) (Q : Nat → Nat → Int64) : Met l yX10_offOf wsX10_offOf ({ frames := 1, cells := 0, slots := 0, locals := 24 }) (va_Pc [.ref (h 0), .int (nI 2)] (xPre (dC, dI) (wD_177 h cs gI gL gA gQ) (tysA cs) sz)) (va_Qi (fun (r : Int32) (u : RS) => (r = nI 0) ∧ u = (gI, gL, gA, gQ)) (xB (dC, dI) (tysA cs) (va_A (wD_177 h cs gI gL gA gQ) sz) (fun u : RS => wD_177 h cs u.1 u.2.1 u.2.2.1 u.2.2.2)) (va_A (wD_177 h cs gI gL gA gQ) sz)) 0 0 (va_A (wD_177 h cs gI gL gA gQ) sz) := by
  refine Met.ofW (cc := cX10_offOf) (maxL := 6) (ret := (some .int)) (by decide) rfl ?_
  intro p e s m args below meth c s₁ B hml hv
  obtain ⟨rfl, hsz, hP, hK, hD0, hN⟩ := hv
  have hx := B.exec
  have hb := B.bytes
  have hr := B.returns
  have hts := atoms_spec (ws := wsX10_offOf) B.pre
  have hown : s.vm.findClass RX10 = some m.cls := findClass_of_methodNamed B.named
  have hlocks := B.notSynchronized
  subst hsz
  have hD := hD0.self (sz := s.heap.size)
  generalize hAe : va_A (wD_177 h cs gI gL gA gQ) s.heap.size = A0 at hD ⊢
  have hA : ∀ q : Nat, s.heap.size ≤ q → A0 q := fun q h => by rw [← hAe]; exact Or.inr h
  have hl := lv_entry ([.ref (h 0), .int (nI 2)]) (n := 6) (Nat.le_of_ble_eq_true rfl)
  rw [lg_entry_eq]
  generalize (lg_sl ([.ref (h 0), .int (nI 2)]) ++ List.replicate (6 - (lg_sl ([.ref (h 0), .int (nI 2)])).length) Slot.unset).toArray = ls at hl ⊢
  have hl : lv_has ls 6 [(0, .ref (h 0)), (1, .int (nI 2))] := hl
  generalize hH : s.heap = H at hP ⊢
  have hS : va_S A0 s.heap H [] := by rw [← hH]; exact va_S.rf
  have hinX10 : ∀ w ∈ wsX100, w ∈ wsX10_offOf := by decide +kernel
  refine lv_iconst (v := nI 0) hx hb dX10_offOf_0 (by decide) ?_
  refine lv_istore_n (lv' := [(2, .int (nI 0)), (0, .ref (h 0)), (1, .int (nI 2))]) hx hb dX10_offOf_1 rfl hl (by decide) rfl (fun ls hl => ?_)
  refine lv_iconst (v := nI 0) hx hb dX10_offOf_2 (by decide) ?_
  refine lv_istore_n (lv' := [(3, .int (nI 0)), (2, .int (nI 0)), (0, .ref (h 0)), (1, .int (nI 2))]) hx hb dX10_offOf_3 rfl hl (by decide) rfl (fun ls hl => ?_)
  refine lv_iload_n hx hb dX10_offOf_4 rfl (lv_at hl 0 rfl) ?_
  refine lv_aload_n hx hb dX10_offOf_5 rfl (lv_at hl 2 rfl) ?_
  refine va_get (D := (dC, dI)) (ci := 10) (v := .int (gI 0)) (C := RX10) (T := TX10) (N := 28) hx hb hts hinX10 hown hK hP 0 rfl rfl 0 (by decide) (hts (.fieldLink RX10 7 "MixedWordsModel" "rows" "I") (by decide +kernel)) (fun _ h9 => h9) rfl dX10_offOf_6 ?_
  refine xt_i (y := nI 2) (by decide +kernel) ?_
  refine lv_icmp_ge (tgt := 80) hx hb dX10_offOf_9 (by decide) (fun c9 => False.elim (by revert c9; decide +kernel)) (fun _ => ?_)
  refine lv_aload_n hx hb dX10_offOf_12 rfl (lv_at hl 2 rfl) ?_
  refine va_get (D := (dC, dI)) (ci := 10) (v := .ref (h 3)) (C := RX10) (T := TX10) (N := 28) hx hb hts hinX10 hown hK hP 0 rfl rfl 3 (by decide) (hts (.fieldLink RX10 19 "MixedWordsModel" "told" "[I") (by decide +kernel)) (fun _ h9 => h9) rfl dX10_offOf_13 ?_
  refine lv_iconst (v := nI 5) hx hb dX10_offOf_16 (by decide) ?_
  refine lv_iload_n hx hb dX10_offOf_17 rfl (lv_at hl 0 rfl) ?_
  refine lv_imul hx hb dX10_offOf_18 ?_
  refine xt_i (y := nI 0) (by decide +kernel) ?_
  refine lv_iconst (v := nI 4) hx hb dX10_offOf_19 (by decide) ?_
  refine lv_iadd hx hb dX10_offOf_20 ?_
  refine xt_i (y := nI 4) (by decide +kernel) ?_
  refine xa_iald hx hb hK hP 1 0 rfl rfl (by omega) (by decide) dX10_offOf_21 ?_
  refine xt_i (y := nI 0) (by decide +kernel) ?_
  refine lv_istore (lv' := [(4, .int (nI 0)), (3, .int (nI 0)), (2, .int (nI 0)), (0, .ref (h 0)), (1, .int (nI 2))]) hx hb dX10_offOf_22 hl (by decide) rfl (fun ls hl => ?_)
  refine lv_iconst (v := nI 0) hx hb dX10_offOf_24 (by decide) ?_
  refine lv_istore (lv' := [(5, .int (nI 0)), (4, .int (nI 0)), (3, .int (nI 0)), (2, .int (nI 0)), (0, .ref (h 0)), (1, .int (nI 2))]) hx hb dX10_offOf_25 hl (by decide) rfl (fun ls hl => ?_)
  refine lv_iload hx hb dX10_offOf_27 (lv_at hl 0 rfl) ?_
  refine lv_aload_n hx hb dX10_offOf_29 rfl (lv_at hl 4 rfl) ?_
  refine va_get (D := (dC, dI)) (ci := 10) (v := .int (gI 1)) (C := RX10) (T := TX10) (N := 28) hx hb hts hinX10 hown hK hP 0 rfl rfl 1 (by decide) (hts (.fieldLink RX10 13 "MixedWordsModel" "columns" "I") (by decide +kernel)) (fun _ h9 => h9) rfl dX10_offOf_30 ?_
  refine xt_i (y := nI 2) (by decide +kernel) ?_
  refine lv_icmp_ge (tgt := 66) hx hb dX10_offOf_33 (by decide) (fun c9 => False.elim (by revert c9; decide +kernel)) (fun _ => ?_)
  refine lv_iload hx hb dX10_offOf_36 (lv_at hl 1 rfl) ?_
  refine lv_aload_n hx hb dX10_offOf_38 rfl (lv_at hl 4 rfl) ?_
  refine va_get (D := (dC, dI)) (ci := 10) (v := .ref (h 3)) (C := RX10) (T := TX10) (N := 28) hx hb hts hinX10 hown hK hP 0 rfl rfl 3 (by decide) (hts (.fieldLink RX10 19 "MixedWordsModel" "told" "[I") (by decide +kernel)) (fun _ h9 => h9) rfl dX10_offOf_39 ?_
  refine lv_iconst (v := nI 5) hx hb dX10_offOf_42 (by decide) ?_
  refine lv_iload_n hx hb dX10_offOf_43 rfl (lv_at hl 2 rfl) ?_
  refine lv_imul hx hb dX10_offOf_44 ?_
  refine xt_i (y := nI 0) (by decide +kernel) ?_
  refine lv_iload hx hb dX10_offOf_45 (lv_at hl 0 rfl) ?_
  refine lv_iadd hx hb dX10_offOf_47 ?_
  refine xt_i (y := nI 0) (by decide +kernel) ?_
  refine xa_iald hx hb hK hP 1 0 rfl rfl (by omega) (by decide) dX10_offOf_48 ?_
  refine xt_i (y := nI 0) (by decide +kernel) ?_
  refine lv_aload_n hx hb dX10_offOf_49 rfl (lv_at hl 4 rfl) ?_
  refine lv_iload_n hx hb dX10_offOf_50 rfl (lv_at hl 5 rfl) ?_
  refine lv_iload hx hb dX10_offOf_51 (lv_at hl 0 rfl) ?_
  refine xj_i (wc := (wD_177 h cs gI gL gA gQ)) (wr := ([] : va_W)) hP hD hS hA [0, 1, 2, 3, 4, 5, 6, 7, 8, 9, 10, 11, 12, 13, 14, 15, 16] [] rfl rfl (by decide) (by decide) (va_runV (As := [.int (nI 2), .int (nI 0)]) (rest := [.int (nI 0), .int (nI 0)]) ⟨hx, hb, hml, hown, hts⟩ (a_X10_letter_192 l dC dI h cs H.size gI gL gA gQ ) (cwV 2 hts gX10_offOf_X10_letter rfl rfl rfl (by decide +kernel) ⟨Nat.le_of_ble_eq_true rfl, Nat.le_of_ble_eq_true rfl⟩) (xpV (wc := (wD_177 h cs gI gL gA gQ)) hP hD hK hN [0, 1, 2, 3, 4, 5, 6, 7, 8, 9, 10, 11, 12, 13, 14, 15, 16] rfl (by decide) 0 (ci := 10) rfl rfl _) rfl rfl hl.1 rfl (lv_room (Nat.le_of_ble_eq_true rfl)) dX10_offOf_53 ⟨Nat.zero_le _, Nat.zero_le _⟩) (fun r_2 u_1 H locs hw hP hD hS => ?_)
  obtain ⟨hf_3, rfl⟩ := hw
  have hP : va_P (dC, dI) vwCl (wD_177 h cs gI gL gA gQ) H := hP
  have hD : va_D A0 (wD_177 h cs gI gL gA gQ) := hD
  obtain rfl := hf_3
  refine lv_imul hx hb dX10_offOf_56 ?_
  refine xt_i (y := nI 0) (by decide +kernel) ?_
  refine lv_isub hx hb dX10_offOf_57 ?_
  refine xt_i (y := nI 0) (by decide +kernel) ?_
  refine lv_istore (lv' := [(4, .int (nI 0)), (5, .int (nI 0)), (3, .int (nI 0)), (2, .int (nI 0)), (0, .ref (h 0)), (1, .int (nI 2))]) hx hb dX10_offOf_58 hl (by decide) rfl (fun ls hl => ?_)
  refine lv_iinc (v := nI 1) (lv' := [(5, .int (nI 1)), (4, .int (nI 0)), (3, .int (nI 0)), (2, .int (nI 0)), (0, .ref (h 0)), (1, .int (nI 2))]) hx hb dX10_offOf_60 hl (k := 1) rfl (by decide +kernel) (by decide) rfl (fun ls hl => ?_)
  refine lv_goto (tgt := 27) hx hb dX10_offOf_63 (by decide) ?_
  refine lv_iload hx hb dX10_offOf_27 (lv_at hl 0 rfl) ?_
  refine lv_aload_n hx hb dX10_offOf_29 rfl (lv_at hl 4 rfl) ?_
  refine va_get (D := (dC, dI)) (ci := 10) (v := .int (gI 1)) (C := RX10) (T := TX10) (N := 28) hx hb hts hinX10 hown hK hP 0 rfl rfl 1 (by decide) (hts (.fieldLink RX10 13 "MixedWordsModel" "columns" "I") (by decide +kernel)) (fun _ h9 => h9) rfl dX10_offOf_30 ?_
  refine xt_i (y := nI 2) (by decide +kernel) ?_
  refine lv_icmp_ge (tgt := 66) hx hb dX10_offOf_33 (by decide) (fun c9 => False.elim (by revert c9; decide +kernel)) (fun _ => ?_)
  refine lv_iload hx hb dX10_offOf_36 (lv_at hl 1 rfl) ?_
  refine lv_aload_n hx hb dX10_offOf_38 rfl (lv_at hl 4 rfl) ?_
  refine va_get (D := (dC, dI)) (ci := 10) (v := .ref (h 3)) (C := RX10) (T := TX10) (N := 28) hx hb hts hinX10 hown hK hP 0 rfl rfl 3 (by decide) (hts (.fieldLink RX10 19 "MixedWordsModel" "told" "[I") (by decide +kernel)) (fun _ h9 => h9) rfl dX10_offOf_39 ?_
  refine lv_iconst (v := nI 5) hx hb dX10_offOf_42 (by decide) ?_
  refine lv_iload_n hx hb dX10_offOf_43 rfl (lv_at hl 2 rfl) ?_
  refine lv_imul hx hb dX10_offOf_44 ?_
  refine xt_i (y := nI 0) (by decide +kernel) ?_
  refine lv_iload hx hb dX10_offOf_45 (lv_at hl 0 rfl) ?_
  refine lv_iadd hx hb dX10_offOf_47 ?_
  refine xt_i (y := nI 1) (by decide +kernel) ?_
  refine xa_iald hx hb hK hP 1 0 rfl rfl (by omega) (by decide) dX10_offOf_48 ?_
  refine xt_i (y := nI 0) (by decide +kernel) ?_
  refine lv_aload_n hx hb dX10_offOf_49 rfl (lv_at hl 4 rfl) ?_
  refine lv_iload_n hx hb dX10_offOf_50 rfl (lv_at hl 5 rfl) ?_
  refine lv_iload hx hb dX10_offOf_51 (lv_at hl 0 rfl) ?_
  refine xj_i (wc := (wD_177 h cs gI gL gA gQ)) (wr := ([] : va_W)) hP hD hS hA [0, 1, 2, 3, 4, 5, 6, 7, 8, 9, 10, 11, 12, 13, 14, 15, 16] [] rfl rfl (by decide) (by decide) (va_runV (As := [.int (nI 2), .int (nI 1)]) (rest := [.int (nI 0), .int (nI 0)]) ⟨hx, hb, hml, hown, hts⟩ (a_X10_letter_193 l dC dI h cs H.size gI gL gA gQ ) (cwV 2 hts gX10_offOf_X10_letter rfl rfl rfl (by decide +kernel) ⟨Nat.le_of_ble_eq_true rfl, Nat.le_of_ble_eq_true rfl⟩) (xpV (wc := (wD_177 h cs gI gL gA gQ)) hP hD hK hN [0, 1, 2, 3, 4, 5, 6, 7, 8, 9, 10, 11, 12, 13, 14, 15, 16] rfl (by decide) 0 (ci := 10) rfl rfl _) rfl rfl hl.1 rfl (lv_room (Nat.le_of_ble_eq_true rfl)) dX10_offOf_53 ⟨Nat.zero_le _, Nat.zero_le _⟩) (fun r_5 u_4 H locs hw hP hD hS => ?_)
  obtain ⟨hf_6, rfl⟩ := hw
  have hP : va_P (dC, dI) vwCl (wD_177 h cs gI gL gA gQ) H := hP
  have hD : va_D A0 (wD_177 h cs gI gL gA gQ) := hD
  obtain rfl := hf_6
  refine lv_imul hx hb dX10_offOf_56 ?_
  refine xt_i (y := nI 0) (by decide +kernel) ?_
  refine lv_isub hx hb dX10_offOf_57 ?_
  refine xt_i (y := nI 0) (by decide +kernel) ?_
  refine lv_istore (lv' := [(4, .int (nI 0)), (5, .int (nI 1)), (3, .int (nI 0)), (2, .int (nI 0)), (0, .ref (h 0)), (1, .int (nI 2))]) hx hb dX10_offOf_58 hl (by decide) rfl (fun ls hl => ?_)
  refine lv_iinc (v := nI 2) (lv' := [(5, .int (nI 2)), (4, .int (nI 0)), (3, .int (nI 0)), (2, .int (nI 0)), (0, .ref (h 0)), (1, .int (nI 2))]) hx hb dX10_offOf_60 hl (k := 1) rfl (by decide +kernel) (by decide) rfl (fun ls hl => ?_)
  refine lv_goto (tgt := 27) hx hb dX10_offOf_63 (by decide) ?_
  refine lv_iload hx hb dX10_offOf_27 (lv_at hl 0 rfl) ?_
  refine lv_aload_n hx hb dX10_offOf_29 rfl (lv_at hl 4 rfl) ?_
  refine va_get (D := (dC, dI)) (ci := 10) (v := .int (gI 1)) (C := RX10) (T := TX10) (N := 28) hx hb hts hinX10 hown hK hP 0 rfl rfl 1 (by decide) (hts (.fieldLink RX10 13 "MixedWordsModel" "columns" "I") (by decide +kernel)) (fun _ h9 => h9) rfl dX10_offOf_30 ?_
  refine xt_i (y := nI 2) (by decide +kernel) ?_
  refine lv_icmp_ge (tgt := 66) hx hb dX10_offOf_33 (by decide) (fun _ => ?_) (fun c9 => False.elim (by revert c9; decide +kernel))
  refine lv_iload_n hx hb dX10_offOf_66 rfl (lv_at hl 3 rfl) ?_
  refine lv_iload hx hb dX10_offOf_67 (lv_at hl 1 rfl) ?_
  refine lv_iload hx hb dX10_offOf_69 (lv_at hl 1 rfl) ?_
  refine lv_imul hx hb dX10_offOf_71 ?_
  refine xt_i (y := nI 0) (by decide +kernel) ?_
  refine lv_iadd hx hb dX10_offOf_72 ?_
  refine xt_i (y := nI 0) (by decide +kernel) ?_
  refine lv_istore_n (lv' := [(2, .int (nI 0)), (5, .int (nI 2)), (4, .int (nI 0)), (3, .int (nI 0)), (0, .ref (h 0)), (1, .int (nI 2))]) hx hb dX10_offOf_73 rfl hl (by decide) rfl (fun ls hl => ?_)
  refine lv_iinc (v := nI 1) (lv' := [(3, .int (nI 1)), (2, .int (nI 0)), (5, .int (nI 2)), (4, .int (nI 0)), (0, .ref (h 0)), (1, .int (nI 2))]) hx hb dX10_offOf_74 hl (k := 3) rfl (by decide +kernel) (by decide) rfl (fun ls hl => ?_)
  refine lv_goto (tgt := 4) hx hb dX10_offOf_77 (by decide) ?_
  refine lv_iload_n hx hb dX10_offOf_4 rfl (lv_at hl 0 rfl) ?_
  refine lv_aload_n hx hb dX10_offOf_5 rfl (lv_at hl 4 rfl) ?_
  refine va_get (D := (dC, dI)) (ci := 10) (v := .int (gI 0)) (C := RX10) (T := TX10) (N := 28) hx hb hts hinX10 hown hK hP 0 rfl rfl 0 (by decide) (hts (.fieldLink RX10 7 "MixedWordsModel" "rows" "I") (by decide +kernel)) (fun _ h9 => h9) rfl dX10_offOf_6 ?_
  refine xt_i (y := nI 2) (by decide +kernel) ?_
  refine lv_icmp_ge (tgt := 80) hx hb dX10_offOf_9 (by decide) (fun c9 => False.elim (by revert c9; decide +kernel)) (fun _ => ?_)
  refine lv_aload_n hx hb dX10_offOf_12 rfl (lv_at hl 4 rfl) ?_
  refine va_get (D := (dC, dI)) (ci := 10) (v := .ref (h 3)) (C := RX10) (T := TX10) (N := 28) hx hb hts hinX10 hown hK hP 0 rfl rfl 3 (by decide) (hts (.fieldLink RX10 19 "MixedWordsModel" "told" "[I") (by decide +kernel)) (fun _ h9 => h9) rfl dX10_offOf_13 ?_
  refine lv_iconst (v := nI 5) hx hb dX10_offOf_16 (by decide) ?_
  refine lv_iload_n hx hb dX10_offOf_17 rfl (lv_at hl 0 rfl) ?_
  refine lv_imul hx hb dX10_offOf_18 ?_
  refine xt_i (y := nI 5) (by decide +kernel) ?_
  refine lv_iconst (v := nI 4) hx hb dX10_offOf_19 (by decide) ?_
  refine lv_iadd hx hb dX10_offOf_20 ?_
  refine xt_i (y := nI 9) (by decide +kernel) ?_
  refine xa_iald hx hb hK hP 1 0 rfl rfl (by omega) (by decide) dX10_offOf_21 ?_
  refine xt_i (y := nI 0) (by decide +kernel) ?_
  refine lv_istore (lv' := [(4, .int (nI 0)), (3, .int (nI 1)), (2, .int (nI 0)), (5, .int (nI 2)), (0, .ref (h 0)), (1, .int (nI 2))]) hx hb dX10_offOf_22 hl (by decide) rfl (fun ls hl => ?_)
  refine lv_iconst (v := nI 0) hx hb dX10_offOf_24 (by decide) ?_
  refine lv_istore (lv' := [(5, .int (nI 0)), (4, .int (nI 0)), (3, .int (nI 1)), (2, .int (nI 0)), (0, .ref (h 0)), (1, .int (nI 2))]) hx hb dX10_offOf_25 hl (by decide) rfl (fun ls hl => ?_)
  refine lv_iload hx hb dX10_offOf_27 (lv_at hl 0 rfl) ?_
  refine lv_aload_n hx hb dX10_offOf_29 rfl (lv_at hl 4 rfl) ?_
  refine va_get (D := (dC, dI)) (ci := 10) (v := .int (gI 1)) (C := RX10) (T := TX10) (N := 28) hx hb hts hinX10 hown hK hP 0 rfl rfl 1 (by decide) (hts (.fieldLink RX10 13 "MixedWordsModel" "columns" "I") (by decide +kernel)) (fun _ h9 => h9) rfl dX10_offOf_30 ?_
  refine xt_i (y := nI 2) (by decide +kernel) ?_
  refine lv_icmp_ge (tgt := 66) hx hb dX10_offOf_33 (by decide) (fun c9 => False.elim (by revert c9; decide +kernel)) (fun _ => ?_)
  refine lv_iload hx hb dX10_offOf_36 (lv_at hl 1 rfl) ?_
  refine lv_aload_n hx hb dX10_offOf_38 rfl (lv_at hl 4 rfl) ?_
  refine va_get (D := (dC, dI)) (ci := 10) (v := .ref (h 3)) (C := RX10) (T := TX10) (N := 28) hx hb hts hinX10 hown hK hP 0 rfl rfl 3 (by decide) (hts (.fieldLink RX10 19 "MixedWordsModel" "told" "[I") (by decide +kernel)) (fun _ h9 => h9) rfl dX10_offOf_39 ?_
  refine lv_iconst (v := nI 5) hx hb dX10_offOf_42 (by decide) ?_
  refine lv_iload_n hx hb dX10_offOf_43 rfl (lv_at hl 2 rfl) ?_
  refine lv_imul hx hb dX10_offOf_44 ?_
  refine xt_i (y := nI 5) (by decide +kernel) ?_
  refine lv_iload hx hb dX10_offOf_45 (lv_at hl 0 rfl) ?_
  refine lv_iadd hx hb dX10_offOf_47 ?_
  refine xt_i (y := nI 5) (by decide +kernel) ?_
  refine xa_iald hx hb hK hP 1 0 rfl rfl (by omega) (by decide) dX10_offOf_48 ?_
  refine xt_i (y := nI 0) (by decide +kernel) ?_
  refine lv_aload_n hx hb dX10_offOf_49 rfl (lv_at hl 4 rfl) ?_
  refine lv_iload_n hx hb dX10_offOf_50 rfl (lv_at hl 5 rfl) ?_
  refine lv_iload hx hb dX10_offOf_51 (lv_at hl 0 rfl) ?_
  refine xj_i (wc := (wD_177 h cs gI gL gA gQ)) (wr := ([] : va_W)) hP hD hS hA [0, 1, 2, 3, 4, 5, 6, 7, 8, 9, 10, 11, 12, 13, 14, 15, 16] [] rfl rfl (by decide) (by decide) (va_runV (As := [.int (nI 2), .int (nI 0)]) (rest := [.int (nI 0), .int (nI 0)]) ⟨hx, hb, hml, hown, hts⟩ (a_X10_letter_192 l dC dI h cs H.size gI gL gA gQ ) (cwV 2 hts gX10_offOf_X10_letter rfl rfl rfl (by decide +kernel) ⟨Nat.le_of_ble_eq_true rfl, Nat.le_of_ble_eq_true rfl⟩) (xpV (wc := (wD_177 h cs gI gL gA gQ)) hP hD hK hN [0, 1, 2, 3, 4, 5, 6, 7, 8, 9, 10, 11, 12, 13, 14, 15, 16] rfl (by decide) 0 (ci := 10) rfl rfl _) rfl rfl hl.1 rfl (lv_room (Nat.le_of_ble_eq_true rfl)) dX10_offOf_53 ⟨Nat.zero_le _, Nat.zero_le _⟩) (fun r_8 u_7 H locs hw hP hD hS => ?_)
  obtain ⟨hf_9, rfl⟩ := hw
  have hP : va_P (dC, dI) vwCl (wD_177 h cs gI gL gA gQ) H := hP
  have hD : va_D A0 (wD_177 h cs gI gL gA gQ) := hD
  obtain rfl := hf_9
  refine lv_imul hx hb dX10_offOf_56 ?_
  refine xt_i (y := nI 0) (by decide +kernel) ?_
  refine lv_isub hx hb dX10_offOf_57 ?_
  refine xt_i (y := nI 0) (by decide +kernel) ?_
  refine lv_istore (lv' := [(4, .int (nI 0)), (5, .int (nI 0)), (3, .int (nI 1)), (2, .int (nI 0)), (0, .ref (h 0)), (1, .int (nI 2))]) hx hb dX10_offOf_58 hl (by decide) rfl (fun ls hl => ?_)
  refine lv_iinc (v := nI 1) (lv' := [(5, .int (nI 1)), (4, .int (nI 0)), (3, .int (nI 1)), (2, .int (nI 0)), (0, .ref (h 0)), (1, .int (nI 2))]) hx hb dX10_offOf_60 hl (k := 1) rfl (by decide +kernel) (by decide) rfl (fun ls hl => ?_)
  refine lv_goto (tgt := 27) hx hb dX10_offOf_63 (by decide) ?_
  refine lv_iload hx hb dX10_offOf_27 (lv_at hl 0 rfl) ?_
  refine lv_aload_n hx hb dX10_offOf_29 rfl (lv_at hl 4 rfl) ?_
  refine va_get (D := (dC, dI)) (ci := 10) (v := .int (gI 1)) (C := RX10) (T := TX10) (N := 28) hx hb hts hinX10 hown hK hP 0 rfl rfl 1 (by decide) (hts (.fieldLink RX10 13 "MixedWordsModel" "columns" "I") (by decide +kernel)) (fun _ h9 => h9) rfl dX10_offOf_30 ?_
  refine xt_i (y := nI 2) (by decide +kernel) ?_
  refine lv_icmp_ge (tgt := 66) hx hb dX10_offOf_33 (by decide) (fun c9 => False.elim (by revert c9; decide +kernel)) (fun _ => ?_)
  refine lv_iload hx hb dX10_offOf_36 (lv_at hl 1 rfl) ?_
  refine lv_aload_n hx hb dX10_offOf_38 rfl (lv_at hl 4 rfl) ?_
  refine va_get (D := (dC, dI)) (ci := 10) (v := .ref (h 3)) (C := RX10) (T := TX10) (N := 28) hx hb hts hinX10 hown hK hP 0 rfl rfl 3 (by decide) (hts (.fieldLink RX10 19 "MixedWordsModel" "told" "[I") (by decide +kernel)) (fun _ h9 => h9) rfl dX10_offOf_39 ?_
  refine lv_iconst (v := nI 5) hx hb dX10_offOf_42 (by decide) ?_
  refine lv_iload_n hx hb dX10_offOf_43 rfl (lv_at hl 2 rfl) ?_
  refine lv_imul hx hb dX10_offOf_44 ?_
  refine xt_i (y := nI 5) (by decide +kernel) ?_
  refine lv_iload hx hb dX10_offOf_45 (lv_at hl 0 rfl) ?_
  refine lv_iadd hx hb dX10_offOf_47 ?_
  refine xt_i (y := nI 6) (by decide +kernel) ?_
  refine xa_iald hx hb hK hP 1 0 rfl rfl (by omega) (by decide) dX10_offOf_48 ?_
  refine xt_i (y := nI 0) (by decide +kernel) ?_
  refine lv_aload_n hx hb dX10_offOf_49 rfl (lv_at hl 4 rfl) ?_
  refine lv_iload_n hx hb dX10_offOf_50 rfl (lv_at hl 5 rfl) ?_
  refine lv_iload hx hb dX10_offOf_51 (lv_at hl 0 rfl) ?_
  refine xj_i (wc := (wD_177 h cs gI gL gA gQ)) (wr := ([] : va_W)) hP hD hS hA [0, 1, 2, 3, 4, 5, 6, 7, 8, 9, 10, 11, 12, 13, 14, 15, 16] [] rfl rfl (by decide) (by decide) (va_runV (As := [.int (nI 2), .int (nI 1)]) (rest := [.int (nI 0), .int (nI 0)]) ⟨hx, hb, hml, hown, hts⟩ (a_X10_letter_193 l dC dI h cs H.size gI gL gA gQ ) (cwV 2 hts gX10_offOf_X10_letter rfl rfl rfl (by decide +kernel) ⟨Nat.le_of_ble_eq_true rfl, Nat.le_of_ble_eq_true rfl⟩) (xpV (wc := (wD_177 h cs gI gL gA gQ)) hP hD hK hN [0, 1, 2, 3, 4, 5, 6, 7, 8, 9, 10, 11, 12, 13, 14, 15, 16] rfl (by decide) 0 (ci := 10) rfl rfl _) rfl rfl hl.1 rfl (lv_room (Nat.le_of_ble_eq_true rfl)) dX10_offOf_53 ⟨Nat.zero_le _, Nat.zero_le _⟩) (fun r_11 u_10 H locs hw hP hD hS => ?_)
  obtain ⟨hf_12, rfl⟩ := hw
  have hP : va_P (dC, dI) vwCl (wD_177 h cs gI gL gA gQ) H := hP
  have hD : va_D A0 (wD_177 h cs gI gL gA gQ) := hD
  obtain rfl := hf_12
  refine lv_imul hx hb dX10_offOf_56 ?_
  refine xt_i (y := nI 0) (by decide +kernel) ?_
  refine lv_isub hx hb dX10_offOf_57 ?_
  refine xt_i (y := nI 0) (by decide +kernel) ?_
  refine lv_istore (lv' := [(4, .int (nI 0)), (5, .int (nI 1)), (3, .int (nI 1)), (2, .int (nI 0)), (0, .ref (h 0)), (1, .int (nI 2))]) hx hb dX10_offOf_58 hl (by decide) rfl (fun ls hl => ?_)
  refine lv_iinc (v := nI 2) (lv' := [(5, .int (nI 2)), (4, .int (nI 0)), (3, .int (nI 1)), (2, .int (nI 0)), (0, .ref (h 0)), (1, .int (nI 2))]) hx hb dX10_offOf_60 hl (k := 1) rfl (by decide +kernel) (by decide) rfl (fun ls hl => ?_)
  refine lv_goto (tgt := 27) hx hb dX10_offOf_63 (by decide) ?_
  refine lv_iload hx hb dX10_offOf_27 (lv_at hl 0 rfl) ?_
  refine lv_aload_n hx hb dX10_offOf_29 rfl (lv_at hl 4 rfl) ?_
  refine va_get (D := (dC, dI)) (ci := 10) (v := .int (gI 1)) (C := RX10) (T := TX10) (N := 28) hx hb hts hinX10 hown hK hP 0 rfl rfl 1 (by decide) (hts (.fieldLink RX10 13 "MixedWordsModel" "columns" "I") (by decide +kernel)) (fun _ h9 => h9) rfl dX10_offOf_30 ?_
  refine xt_i (y := nI 2) (by decide +kernel) ?_
  refine lv_icmp_ge (tgt := 66) hx hb dX10_offOf_33 (by decide) (fun _ => ?_) (fun c9 => False.elim (by revert c9; decide +kernel))
  refine lv_iload_n hx hb dX10_offOf_66 rfl (lv_at hl 3 rfl) ?_
  refine lv_iload hx hb dX10_offOf_67 (lv_at hl 1 rfl) ?_
  refine lv_iload hx hb dX10_offOf_69 (lv_at hl 1 rfl) ?_
  refine lv_imul hx hb dX10_offOf_71 ?_
  refine xt_i (y := nI 0) (by decide +kernel) ?_
  refine lv_iadd hx hb dX10_offOf_72 ?_
  refine xt_i (y := nI 0) (by decide +kernel) ?_
  refine lv_istore_n (lv' := [(2, .int (nI 0)), (5, .int (nI 2)), (4, .int (nI 0)), (3, .int (nI 1)), (0, .ref (h 0)), (1, .int (nI 2))]) hx hb dX10_offOf_73 rfl hl (by decide) rfl (fun ls hl => ?_)
  refine lv_iinc (v := nI 2) (lv' := [(3, .int (nI 2)), (2, .int (nI 0)), (5, .int (nI 2)), (4, .int (nI 0)), (0, .ref (h 0)), (1, .int (nI 2))]) hx hb dX10_offOf_74 hl (k := 3) rfl (by decide +kernel) (by decide) rfl (fun ls hl => ?_)
  refine lv_goto (tgt := 4) hx hb dX10_offOf_77 (by decide) ?_
  refine lv_iload_n hx hb dX10_offOf_4 rfl (lv_at hl 0 rfl) ?_
  refine lv_aload_n hx hb dX10_offOf_5 rfl (lv_at hl 4 rfl) ?_
  refine va_get (D := (dC, dI)) (ci := 10) (v := .int (gI 0)) (C := RX10) (T := TX10) (N := 28) hx hb hts hinX10 hown hK hP 0 rfl rfl 0 (by decide) (hts (.fieldLink RX10 7 "MixedWordsModel" "rows" "I") (by decide +kernel)) (fun _ h9 => h9) rfl dX10_offOf_6 ?_
  refine xt_i (y := nI 2) (by decide +kernel) ?_
  refine lv_icmp_ge (tgt := 80) hx hb dX10_offOf_9 (by decide) (fun _ => ?_) (fun c9 => False.elim (by revert c9; decide +kernel))
  refine lv_iload_n hx hb dX10_offOf_80 rfl (lv_at hl 1 rfl) ?_
  exact xr_i (v := (nI 0)) hx hb hr hlocks hK hS dX10_offOf_81 (gI, gL, gA, gQ) ⟨rfl, rfl⟩ hP hD
set_option maxHeartbeats 4000000 in
set_option maxRecDepth 100000 in
theorem a_X10_in_195 (l : Launch) (dC : Nat → ClassId) (dI : Nat → Nat → Nat) (h : Nat → Nat) (cs : Nat → ClassId) (sz : Nat) (I : Nat → Int32) (L : Nat → Int64) (A : Nat → Nat → Int32) (Q : Nat → Nat → Int64) : Met l yX10_in wsX10_in ({ frames := 0, cells := 0, slots := 0, locals := 0 }) (va_Pc [.long (3 : Int64), .long (0 : Int64), .long (3 : Int64)] (xPre (dC, dI) ([] : va_W) (tysA cs) sz)) (va_Qi (fun (r : Int32) (u : RS) => (r = nI 1) ∧ u = (I, L, A, Q)) (xB (dC, dI) (tysA cs) (va_A ([] : va_W) sz) (fun _ : RS => ([] : va_W))) (va_A ([] : va_W) sz)) 0 0 (va_A ([] : va_W) sz) := by
  refine Met.ofW (cc := cX10_in) (maxL := 6) (ret := (some .boolean)) (by decide) rfl ?_
  intro p e s m args below meth c s₁ B hml hv
  obtain ⟨rfl, hsz, hP, hK, hD0, hN⟩ := hv
  have hx := B.exec
  have hb := B.bytes
  have hr := B.returns
  have hts := atoms_spec (ws := wsX10_in) B.pre
  have hown : s.vm.findClass RX10 = some m.cls := findClass_of_methodNamed B.named
  have hlocks := B.notSynchronized
  subst hsz
  have hD := hD0.self (sz := s.heap.size)
  generalize hAe : va_A ([] : va_W) s.heap.size = A0 at hD ⊢
  have hA : ∀ q : Nat, s.heap.size ≤ q → A0 q := fun q h => by rw [← hAe]; exact Or.inr h
  have hl := lv_entry ([.long (3 : Int64), .long (0 : Int64), .long (3 : Int64)]) (n := 6) (Nat.le_of_ble_eq_true rfl)
  rw [lg_entry_eq]
  generalize (lg_sl ([.long (3 : Int64), .long (0 : Int64), .long (3 : Int64)]) ++ List.replicate (6 - (lg_sl ([.long (3 : Int64), .long (0 : Int64), .long (3 : Int64)])).length) Slot.unset).toArray = ls at hl ⊢
  have hl : lv_has ls 6 [(0, .long (3 : Int64)), (2, .long (0 : Int64)), (4, .long (3 : Int64))] := hl
  generalize hH : s.heap = H at hP ⊢
  have hS : va_S A0 s.heap H [] := by rw [← hH]; exact va_S.rf
  refine lv_lload_n hx hb dX10_in_0 rfl (lv_at hl 0 rfl) ?_
  refine lv_lload_n hx hb dX10_in_1 rfl (lv_at hl 1 rfl) ?_
  refine xl_lt (tgt := 17) hx hb dX10_in_2 dX10_in_3 (by decide) (fun c9 => False.elim (by revert c9; decide +kernel)) (fun _ => ?_)
  refine lv_lload_n hx hb dX10_in_6 rfl (lv_at hl 0 rfl) ?_
  refine lv_lload hx hb dX10_in_7 (lv_at hl 2 rfl) ?_
  refine xl_gt (tgt := 17) hx hb dX10_in_9 dX10_in_10 (by decide) (fun c9 => False.elim (by revert c9; decide +kernel)) (fun _ => ?_)
  refine lv_iconst (v := nI 1) hx hb dX10_in_13 (by decide) ?_
  refine lv_goto (tgt := 18) hx hb dX10_in_14 (by decide) ?_
  exact xr_z (v := (nI 1)) hx hb hr hlocks hK hS dX10_in_18 (rfl) (I, L, A, Q) ⟨rfl, rfl⟩ hP hD
set_option maxHeartbeats 4000000 in
set_option maxRecDepth 100000 in
theorem a_X10_isWord_194 (l : Launch) (dC : Nat → ClassId) (dI : Nat → Nat → Nat) (h : Nat → Nat) (cs : Nat → ClassId) (sz : Nat) (I : Nat → Int32) (L : Nat → Int64) (A : Nat → Nat → Int32) (Q : Nat → Nat → Int64) : Met l yX10_isWord wsX10_isWord ({ frames := 1, cells := 0, slots := 0, locals := 25 }) (va_Pc [.ref (h 0), .int (nI 3)] (xPre (dC, dI) (wD_177 h cs gI gL gA gQ) (tysA cs) sz)) (va_Qi (fun (r : Int32) (u : RS) => (r = nI 1) ∧ u = (gI, gL, gA, gQ)) (xB (dC, dI) (tysA cs) (va_A (wD_177 h cs gI gL gA gQ) sz) (fun u : RS => wD_177 h cs u.1 u.2.1 u.2.2.1 u.2.2.2)) (va_A (wD_177 h cs gI gL gA gQ) sz)) 0 0 (va_A (wD_177 h cs gI gL gA gQ) sz) := by
  refine Met.ofW (cc := cX10_isWord) (maxL := 2) (ret := (some .boolean)) (by decide) rfl ?_
  intro p e s m args below meth c s₁ B hml hv
  obtain ⟨rfl, hsz, hP, hK, hD0, hN⟩ := hv
  have hx := B.exec
  have hb := B.bytes
  have hr := B.returns
  have hts := atoms_spec (ws := wsX10_isWord) B.pre
  have hown : s.vm.findClass RX10 = some m.cls := findClass_of_methodNamed B.named
  have hlocks := B.notSynchronized
  subst hsz
  have hD := hD0.self (sz := s.heap.size)
  generalize hAe : va_A (wD_177 h cs gI gL gA gQ) s.heap.size = A0 at hD ⊢
  have hA : ∀ q : Nat, s.heap.size ≤ q → A0 q := fun q h => by rw [← hAe]; exact Or.inr h
  have hl := lv_entry ([.ref (h 0), .int (nI 3)]) (n := 2) (Nat.le_of_ble_eq_true rfl)
  rw [lg_entry_eq]
  generalize (lg_sl ([.ref (h 0), .int (nI 3)]) ++ List.replicate (2 - (lg_sl ([.ref (h 0), .int (nI 3)])).length) Slot.unset).toArray = ls at hl ⊢
  have hl : lv_has ls 2 [(0, .ref (h 0)), (1, .int (nI 3))] := hl
  generalize hH : s.heap = H at hP ⊢
  have hS : va_S A0 s.heap H [] := by rw [← hH]; exact va_S.rf
  refine lv_iload_n hx hb dX10_isWord_0 rfl (lv_at hl 1 rfl) ?_
  refine lv_i2l (v := (3 : Int64)) hx hb dX10_isWord_1 (by decide +kernel) ?_
  refine lv_lconst (v := 0) hx hb dX10_isWord_2 rfl ?_
  refine lv_aload_n hx hb dX10_isWord_3 rfl (lv_at hl 0 rfl) ?_
  refine xj_i (wc := (wD_177 h cs gI gL gA gQ)) (wr := ([] : va_W)) hP hD hS hA [0, 1, 2, 3, 4, 5, 6, 7, 8, 9, 10, 11, 12, 13, 14, 15, 16] [] rfl rfl (by decide) (by decide) (va_runV (As := []) (rest := [.long (0 : Int64), .long (3 : Int64)]) ⟨hx, hb, hml, hown, hts⟩ (a_X10_words_179 l dC dI h cs H.size gI gL gA gQ ) (cwV 0 hts gX10_isWord_X10_words rfl rfl rfl (by decide +kernel) ⟨Nat.le_of_ble_eq_true rfl, Nat.le_of_ble_eq_true rfl⟩) (xpV (wc := (wD_177 h cs gI gL gA gQ)) hP hD hK hN [0, 1, 2, 3, 4, 5, 6, 7, 8, 9, 10, 11, 12, 13, 14, 15, 16] rfl (by decide) 0 (ci := 10) rfl rfl _) rfl rfl hl.1 rfl (lv_room (Nat.le_of_ble_eq_true rfl)) dX10_isWord_4 ⟨Nat.zero_le _, Nat.zero_le _⟩) (fun r_2 u_1 H locs hw hP hD hS => ?_)
  obtain ⟨hf_3, rfl⟩ := hw
  have hP : va_P (dC, dI) vwCl (wD_177 h cs gI gL gA gQ) H := hP
  have hD : va_D A0 (wD_177 h cs gI gL gA gQ) := hD
  obtain rfl := hf_3
  refine lv_iconst (v := nI 1) hx hb dX10_isWord_7 (by decide) ?_
  refine lv_isub hx hb dX10_isWord_8 ?_
  refine xt_i (y := nI 3) (by decide +kernel) ?_
  refine lv_i2l (v := (3 : Int64)) hx hb dX10_isWord_9 (by decide +kernel) ?_
  refine xj_i (wc := ([] : va_W)) (wr := (wD_177 h cs gI gL gA gQ)) hP hD hS hA [] [0, 1, 2, 3, 4, 5, 6, 7, 8, 9, 10, 11, 12, 13, 14, 15, 16] rfl rfl (by decide) (by decide) (va_runS (As := [.long (3 : Int64), .long (0 : Int64), .long (3 : Int64)]) (rest := []) ⟨hx, hb, hml, hown, hts⟩ (a_X10_in_195 l dC dI h cs H.size I L A Q ) (va_cwS 3 hts gX10_isWord_X10_in rfl rfl rfl (by decide +kernel) ⟨Nat.le_of_ble_eq_true rfl, Nat.le_of_ble_eq_true rfl⟩) (xpS (wc := ([] : va_W)) hP hD hK hN [] rfl (by decide) _) rfl rfl hl.1 rfl (lv_room (Nat.le_of_ble_eq_true rfl)) dX10_isWord_10 ⟨Nat.zero_le _, Nat.zero_le _⟩) (fun r_5 u_4 H locs hw hP hD hS => ?_)
  obtain ⟨hf_6, rfl⟩ := hw
  have hP : va_P (dC, dI) vwCl (wD_177 h cs gI gL gA gQ) H := hP
  have hD : va_D A0 (wD_177 h cs gI gL gA gQ) := hD
  obtain rfl := hf_6
  exact xr_z (v := (nI 1)) hx hb hr hlocks hK hS dX10_isWord_13 (rfl) (gI, gL, gA, gQ) ⟨rfl, rfl⟩ hP hD
set_option maxHeartbeats 4000000 in
set_option maxRecDepth 100000 in
theorem a_X10_letter_197 (l : Launch) (dC : Nat → ClassId) (dI : Nat → Nat → Nat) (h : Nat → Nat) (cs : Nat → ClassId) (sz : Nat) (I : Nat → Int32) (L : Nat → Int64) (A : Nat → Nat → Int32) (Q : Nat → Nat → Int64) : Met l yX10_letter wsX10_letter ({ frames := 0, cells := 0, slots := 0, locals := 0 }) (va_Pc [.ref (h 0), .int (nI 3), .int (nI 0)] (xPre (dC, dI) (wD_177 h cs gI gL gA gQ) (tysA cs) sz)) (va_Qi (fun (r : Int32) (u : RS) => (r = nI 1) ∧ u = (gI, gL, gA, gQ)) (xB (dC, dI) (tysA cs) (va_A (wD_177 h cs gI gL gA gQ) sz) (fun u : RS => wD_177 h cs u.1 u.2.1 u.2.2.1 u.2.2.2)) (va_A (wD_177 h cs gI gL gA gQ) sz)) 0 0 (va_A (wD_177 h cs gI gL gA gQ) sz) := by
  refine Met.ofW (cc := cX10_letter) (maxL := 5) (ret := (some .int)) (by decide) rfl ?_
  intro p e s m args below meth c s₁ B hml hv
  obtain ⟨rfl, hsz, hP, hK, hD0, hN⟩ := hv
  have hx := B.exec
  have hb := B.bytes
  have hr := B.returns
  have hts := atoms_spec (ws := wsX10_letter) B.pre
  have hown : s.vm.findClass RX10 = some m.cls := findClass_of_methodNamed B.named
  have hlocks := B.notSynchronized
  subst hsz
  have hD := hD0.self (sz := s.heap.size)
  generalize hAe : va_A (wD_177 h cs gI gL gA gQ) s.heap.size = A0 at hD ⊢
  have hA : ∀ q : Nat, s.heap.size ≤ q → A0 q := fun q h => by rw [← hAe]; exact Or.inr h
  have hl := lv_entry ([.ref (h 0), .int (nI 3), .int (nI 0)]) (n := 5) (Nat.le_of_ble_eq_true rfl)
  rw [lg_entry_eq]
  generalize (lg_sl ([.ref (h 0), .int (nI 3), .int (nI 0)]) ++ List.replicate (5 - (lg_sl ([.ref (h 0), .int (nI 3), .int (nI 0)])).length) Slot.unset).toArray = ls at hl ⊢
  have hl : lv_has ls 5 [(0, .ref (h 0)), (1, .int (nI 3)), (2, .int (nI 0))] := hl
  generalize hH : s.heap = H at hP ⊢
  have hS : va_S A0 s.heap H [] := by rw [← hH]; exact va_S.rf
  have hinX10 : ∀ w ∈ wsX100, w ∈ wsX10_letter := by decide +kernel
  refine lv_iload_n hx hb dX10_letter_0 rfl (lv_at hl 1 rfl) ?_
  refine lv_istore_n (lv' := [(3, .int (nI 3)), (0, .ref (h 0)), (1, .int (nI 3)), (2, .int (nI 0))]) hx hb dX10_letter_1 rfl hl (by decide) rfl (fun ls hl => ?_)
  refine lv_aload_n hx hb dX10_letter_2 rfl (lv_at hl 1 rfl) ?_
  refine va_get (D := (dC, dI)) (ci := 10) (v := .int (gI 1)) (C := RX10) (T := TX10) (N := 28) hx hb hts hinX10 hown hK hP 0 rfl rfl 1 (by decide) (hts (.fieldLink RX10 13 "MixedWordsModel" "columns" "I") (by decide +kernel)) (fun _ h9 => h9) rfl dX10_letter_3 ?_
  refine xt_i (y := nI 2) (by decide +kernel) ?_
  refine lv_iconst (v := nI 1) hx hb dX10_letter_6 (by decide) ?_
  refine lv_isub hx hb dX10_letter_7 ?_
  refine xt_i (y := nI 1) (by decide +kernel) ?_
  refine lv_istore (lv' := [(4, .int (nI 1)), (3, .int (nI 3)), (0, .ref (h 0)), (1, .int (nI 3)), (2, .int (nI 0))]) hx hb dX10_letter_8 hl (by decide) rfl (fun ls hl => ?_)
  refine lv_iload hx hb dX10_letter_10 (lv_at hl 0 rfl) ?_
  refine lv_iload_n hx hb dX10_letter_12 rfl (lv_at hl 4 rfl) ?_
  refine lv_icmp_le (tgt := 29) hx hb dX10_letter_13 (by decide) (fun c9 => False.elim (by revert c9; decide +kernel)) (fun _ => ?_)
  refine lv_iload_n hx hb dX10_letter_16 rfl (lv_at hl 1 rfl) ?_
  refine lv_aload_n hx hb dX10_letter_17 rfl (lv_at hl 2 rfl) ?_
  refine va_get (D := (dC, dI)) (ci := 10) (v := .int (gI 2)) (C := RX10) (T := TX10) (N := 28) hx hb hts hinX10 hown hK hP 0 rfl rfl 2 (by decide) (hts (.fieldLink RX10 16 "MixedWordsModel" "a" "I") (by decide +kernel)) (fun _ h9 => h9) rfl dX10_letter_18 ?_
  refine xt_i (y := nI 2) (by decide +kernel) ?_
  refine lv_idiv hx hb dX10_letter_21 (by decide +kernel) ?_
  refine xt_i (y := nI 1) (by decide +kernel) ?_
  refine lv_istore_n (lv' := [(3, .int (nI 1)), (4, .int (nI 1)), (0, .ref (h 0)), (1, .int (nI 3)), (2, .int (nI 0))]) hx hb dX10_letter_22 rfl hl (by decide) rfl (fun ls hl => ?_)
  refine lv_iinc (v := nI 0) (lv' := [(4, .int (nI 0)), (3, .int (nI 1)), (0, .ref (h 0)), (1, .int (nI 3)), (2, .int (nI 0))]) hx hb dX10_letter_23 hl (k := 1) rfl (by decide +kernel) (by decide) rfl (fun ls hl => ?_)
  refine lv_goto (tgt := 10) hx hb dX10_letter_26 (by decide) ?_
  refine lv_iload hx hb dX10_letter_10 (lv_at hl 0 rfl) ?_
  refine lv_iload_n hx hb dX10_letter_12 rfl (lv_at hl 4 rfl) ?_
  refine lv_icmp_le (tgt := 29) hx hb dX10_letter_13 (by decide) (fun _ => ?_) (fun c9 => False.elim (by revert c9; decide +kernel))
  refine lv_iconst (v := nI 2) hx hb dX10_letter_29 (by decide) ?_
  refine lv_iload_n hx hb dX10_letter_30 rfl (lv_at hl 1 rfl) ?_
  refine lv_aload_n hx hb dX10_letter_31 rfl (lv_at hl 2 rfl) ?_
  refine va_get (D := (dC, dI)) (ci := 10) (v := .int (gI 2)) (C := RX10) (T := TX10) (N := 28) hx hb hts hinX10 hown hK hP 0 rfl rfl 2 (by decide) (hts (.fieldLink RX10 16 "MixedWordsModel" "a" "I") (by decide +kernel)) (fun _ h9 => h9) rfl dX10_letter_32 ?_
  refine xt_i (y := nI 2) (by decide +kernel) ?_
  refine lv_irem hx hb dX10_letter_35 (by decide +kernel) ?_
  refine xt_i (y := nI 1) (by decide +kernel) ?_
  refine lv_imul hx hb dX10_letter_36 ?_
  refine xt_i (y := nI 2) (by decide +kernel) ?_
  refine lv_aload_n hx hb dX10_letter_37 rfl (lv_at hl 2 rfl) ?_
  refine va_get (D := (dC, dI)) (ci := 10) (v := .int (gI 2)) (C := RX10) (T := TX10) (N := 28) hx hb hts hinX10 hown hK hP 0 rfl rfl 2 (by decide) (hts (.fieldLink RX10 16 "MixedWordsModel" "a" "I") (by decide +kernel)) (fun _ h9 => h9) rfl dX10_letter_38 ?_
  refine xt_i (y := nI 2) (by decide +kernel) ?_
  refine lv_isub hx hb dX10_letter_41 ?_
  refine xt_i (y := nI 0) (by decide +kernel) ?_
  refine lv_iconst (v := nI 1) hx hb dX10_letter_42 (by decide) ?_
  refine lv_iadd hx hb dX10_letter_43 ?_
  refine xt_i (y := nI 1) (by decide +kernel) ?_
  exact xr_i (v := (nI 1)) hx hb hr hlocks hK hS dX10_letter_44 (gI, gL, gA, gQ) ⟨rfl, rfl⟩ hP hD
set_option maxHeartbeats 4000000 in
set_option maxRecDepth 100000 in
theorem a_X10_letter_198 (l : Launch) (dC : Nat → ClassId) (dI : Nat → Nat → Nat) (h : Nat → Nat) (cs : Nat → ClassId) (sz : Nat) (I : Nat → Int32) (L : Nat → Int64) (A : Nat → Nat → Int32) (Q : Nat → Nat → Int64) : Met l yX10_letter wsX10_letter ({ frames := 0, cells := 0, slots := 0, locals := 0 }) (va_Pc [.ref (h 0), .int (nI 3), .int (nI 1)] (xPre (dC, dI) (wD_177 h cs gI gL gA gQ) (tysA cs) sz)) (va_Qi (fun (r : Int32) (u : RS) => (r = nI 1) ∧ u = (gI, gL, gA, gQ)) (xB (dC, dI) (tysA cs) (va_A (wD_177 h cs gI gL gA gQ) sz) (fun u : RS => wD_177 h cs u.1 u.2.1 u.2.2.1 u.2.2.2)) (va_A (wD_177 h cs gI gL gA gQ) sz)) 0 0 (va_A (wD_177 h cs gI gL gA gQ) sz) := by
  refine Met.ofW (cc := cX10_letter) (maxL := 5) (ret := (some .int)) (by decide) rfl ?_
  intro p e s m args below meth c s₁ B hml hv
  obtain ⟨rfl, hsz, hP, hK, hD0, hN⟩ := hv
  have hx := B.exec
  have hb := B.bytes
  have hr := B.returns
  have hts := atoms_spec (ws := wsX10_letter) B.pre
  have hown : s.vm.findClass RX10 = some m.cls := findClass_of_methodNamed B.named
  have hlocks := B.notSynchronized
  subst hsz
  have hD := hD0.self (sz := s.heap.size)
  generalize hAe : va_A (wD_177 h cs gI gL gA gQ) s.heap.size = A0 at hD ⊢
  have hA : ∀ q : Nat, s.heap.size ≤ q → A0 q := fun q h => by rw [← hAe]; exact Or.inr h
  have hl := lv_entry ([.ref (h 0), .int (nI 3), .int (nI 1)]) (n := 5) (Nat.le_of_ble_eq_true rfl)
  rw [lg_entry_eq]
  generalize (lg_sl ([.ref (h 0), .int (nI 3), .int (nI 1)]) ++ List.replicate (5 - (lg_sl ([.ref (h 0), .int (nI 3), .int (nI 1)])).length) Slot.unset).toArray = ls at hl ⊢
  have hl : lv_has ls 5 [(0, .ref (h 0)), (1, .int (nI 3)), (2, .int (nI 1))] := hl
  generalize hH : s.heap = H at hP ⊢
  have hS : va_S A0 s.heap H [] := by rw [← hH]; exact va_S.rf
  have hinX10 : ∀ w ∈ wsX100, w ∈ wsX10_letter := by decide +kernel
  refine lv_iload_n hx hb dX10_letter_0 rfl (lv_at hl 1 rfl) ?_
  refine lv_istore_n (lv' := [(3, .int (nI 3)), (0, .ref (h 0)), (1, .int (nI 3)), (2, .int (nI 1))]) hx hb dX10_letter_1 rfl hl (by decide) rfl (fun ls hl => ?_)
  refine lv_aload_n hx hb dX10_letter_2 rfl (lv_at hl 1 rfl) ?_
  refine va_get (D := (dC, dI)) (ci := 10) (v := .int (gI 1)) (C := RX10) (T := TX10) (N := 28) hx hb hts hinX10 hown hK hP 0 rfl rfl 1 (by decide) (hts (.fieldLink RX10 13 "MixedWordsModel" "columns" "I") (by decide +kernel)) (fun _ h9 => h9) rfl dX10_letter_3 ?_
  refine xt_i (y := nI 2) (by decide +kernel) ?_
  refine lv_iconst (v := nI 1) hx hb dX10_letter_6 (by decide) ?_
  refine lv_isub hx hb dX10_letter_7 ?_
  refine xt_i (y := nI 1) (by decide +kernel) ?_
  refine lv_istore (lv' := [(4, .int (nI 1)), (3, .int (nI 3)), (0, .ref (h 0)), (1, .int (nI 3)), (2, .int (nI 1))]) hx hb dX10_letter_8 hl (by decide) rfl (fun ls hl => ?_)
  refine lv_iload hx hb dX10_letter_10 (lv_at hl 0 rfl) ?_
  refine lv_iload_n hx hb dX10_letter_12 rfl (lv_at hl 4 rfl) ?_
  refine lv_icmp_le (tgt := 29) hx hb dX10_letter_13 (by decide) (fun _ => ?_) (fun c9 => False.elim (by revert c9; decide +kernel))
  refine lv_iconst (v := nI 2) hx hb dX10_letter_29 (by decide) ?_
  refine lv_iload_n hx hb dX10_letter_30 rfl (lv_at hl 1 rfl) ?_
  refine lv_aload_n hx hb dX10_letter_31 rfl (lv_at hl 2 rfl) ?_
  refine va_get (D := (dC, dI)) (ci := 10) (v := .int (gI 2)) (C := RX10) (T := TX10) (N := 28) hx hb hts hinX10 hown hK hP 0 rfl rfl 2 (by decide) (hts (.fieldLink RX10 16 "MixedWordsModel" "a" "I") (by decide +kernel)) (fun _ h9 => h9) rfl dX10_letter_32 ?_
  refine xt_i (y := nI 2) (by decide +kernel) ?_
  refine lv_irem hx hb dX10_letter_35 (by decide +kernel) ?_
  refine xt_i (y := nI 1) (by decide +kernel) ?_
  refine lv_imul hx hb dX10_letter_36 ?_
  refine xt_i (y := nI 2) (by decide +kernel) ?_
  refine lv_aload_n hx hb dX10_letter_37 rfl (lv_at hl 2 rfl) ?_
  refine va_get (D := (dC, dI)) (ci := 10) (v := .int (gI 2)) (C := RX10) (T := TX10) (N := 28) hx hb hts hinX10 hown hK hP 0 rfl rfl 2 (by decide) (hts (.fieldLink RX10 16 "MixedWordsModel" "a" "I") (by decide +kernel)) (fun _ h9 => h9) rfl dX10_letter_38 ?_
  refine xt_i (y := nI 2) (by decide +kernel) ?_
  refine lv_isub hx hb dX10_letter_41 ?_
  refine xt_i (y := nI 0) (by decide +kernel) ?_
  refine lv_iconst (v := nI 1) hx hb dX10_letter_42 (by decide) ?_
  refine lv_iadd hx hb dX10_letter_43 ?_
  refine xt_i (y := nI 1) (by decide +kernel) ?_
  exact xr_i (v := (nI 1)) hx hb hr hlocks hK hS dX10_letter_44 (gI, gL, gA, gQ) ⟨rfl, rfl⟩ hP hD
set_option maxHeartbeats 4000000 in
set_option maxRecDepth 100000 in
theorem a_X10_offOf_196 (l : Launch) (dC : Nat → ClassId) (dI : Nat → Nat → Nat) (h : Nat → Nat) (cs : Nat → ClassId) (sz : Nat) (I : Nat → Int32) (L : Nat → Int64) (A : Nat → Nat → Int32) (Q : Nat → Nat → Int64) : Met l yX10_offOf wsX10_offOf ({ frames := 1, cells := 0, slots := 0, locals := 24 }) (va_Pc [.ref (h 0), .int (nI 3)] (xPre (dC, dI) (wD_177 h cs gI gL gA gQ) (tysA cs) sz)) (va_Qi (fun (r : Int32) (u : RS) => (r = nI 0) ∧ u = (gI, gL, gA, gQ)) (xB (dC, dI) (tysA cs) (va_A (wD_177 h cs gI gL gA gQ) sz) (fun u : RS => wD_177 h cs u.1 u.2.1 u.2.2.1 u.2.2.2)) (va_A (wD_177 h cs gI gL gA gQ) sz)) 0 0 (va_A (wD_177 h cs gI gL gA gQ) sz) := by
  refine Met.ofW (cc := cX10_offOf) (maxL := 6) (ret := (some .int)) (by decide) rfl ?_
  intro p e s m args below meth c s₁ B hml hv
  obtain ⟨rfl, hsz, hP, hK, hD0, hN⟩ := hv
  have hx := B.exec
  have hb := B.bytes
  have hr := B.returns
  have hts := atoms_spec (ws := wsX10_offOf) B.pre
  have hown : s.vm.findClass RX10 = some m.cls := findClass_of_methodNamed B.named
  have hlocks := B.notSynchronized
  subst hsz
  have hD := hD0.self (sz := s.heap.size)
  generalize hAe : va_A (wD_177 h cs gI gL gA gQ) s.heap.size = A0 at hD ⊢
  have hA : ∀ q : Nat, s.heap.size ≤ q → A0 q := fun q h => by rw [← hAe]; exact Or.inr h
  have hl := lv_entry ([.ref (h 0), .int (nI 3)]) (n := 6) (Nat.le_of_ble_eq_true rfl)
  rw [lg_entry_eq]
  generalize (lg_sl ([.ref (h 0), .int (nI 3)]) ++ List.replicate (6 - (lg_sl ([.ref (h 0), .int (nI 3)])).length) Slot.unset).toArray = ls at hl ⊢
  have hl : lv_has ls 6 [(0, .ref (h 0)), (1, .int (nI 3))] := hl
  generalize hH : s.heap = H at hP ⊢
  have hS : va_S A0 s.heap H [] := by rw [← hH]; exact va_S.rf
  have hinX10 : ∀ w ∈ wsX100, w ∈ wsX10_offOf := by decide +kernel
  refine lv_iconst (v := nI 0) hx hb dX10_offOf_0 (by decide) ?_
  refine lv_istore_n (lv' := [(2, .int (nI 0)), (0, .ref (h 0)), (1, .int (nI 3))]) hx hb dX10_offOf_1 rfl hl (by decide) rfl (fun ls hl => ?_)
  refine lv_iconst (v := nI 0) hx hb dX10_offOf_2 (by decide) ?_
  refine lv_istore_n (lv' := [(3, .int (nI 0)), (2, .int (nI 0)), (0, .ref (h 0)), (1, .int (nI 3))]) hx hb dX10_offOf_3 rfl hl (by decide) rfl (fun ls hl => ?_)
  refine lv_iload_n hx hb dX10_offOf_4 rfl (lv_at hl 0 rfl) ?_
  refine lv_aload_n hx hb dX10_offOf_5 rfl (lv_at hl 2 rfl) ?_
  refine va_get (D := (dC, dI)) (ci := 10) (v := .int (gI 0)) (C := RX10) (T := TX10) (N := 28) hx hb hts hinX10 hown hK hP 0 rfl rfl 0 (by decide) (hts (.fieldLink RX10 7 "MixedWordsModel" "rows" "I") (by decide +kernel)) (fun _ h9 => h9) rfl dX10_offOf_6 ?_
  refine xt_i (y := nI 2) (by decide +kernel) ?_
  refine lv_icmp_ge (tgt := 80) hx hb dX10_offOf_9 (by decide) (fun c9 => False.elim (by revert c9; decide +kernel)) (fun _ => ?_)
  refine lv_aload_n hx hb dX10_offOf_12 rfl (lv_at hl 2 rfl) ?_
  refine va_get (D := (dC, dI)) (ci := 10) (v := .ref (h 3)) (C := RX10) (T := TX10) (N := 28) hx hb hts hinX10 hown hK hP 0 rfl rfl 3 (by decide) (hts (.fieldLink RX10 19 "MixedWordsModel" "told" "[I") (by decide +kernel)) (fun _ h9 => h9) rfl dX10_offOf_13 ?_
  refine lv_iconst (v := nI 5) hx hb dX10_offOf_16 (by decide) ?_
  refine lv_iload_n hx hb dX10_offOf_17 rfl (lv_at hl 0 rfl) ?_
  refine lv_imul hx hb dX10_offOf_18 ?_
  refine xt_i (y := nI 0) (by decide +kernel) ?_
  refine lv_iconst (v := nI 4) hx hb dX10_offOf_19 (by decide) ?_
  refine lv_iadd hx hb dX10_offOf_20 ?_
  refine xt_i (y := nI 4) (by decide +kernel) ?_
  refine xa_iald hx hb hK hP 1 0 rfl rfl (by omega) (by decide) dX10_offOf_21 ?_
  refine xt_i (y := nI 0) (by decide +kernel) ?_
  refine lv_istore (lv' := [(4, .int (nI 0)), (3, .int (nI 0)), (2, .int (nI 0)), (0, .ref (h 0)), (1, .int (nI 3))]) hx hb dX10_offOf_22 hl (by decide) rfl (fun ls hl => ?_)
  refine lv_iconst (v := nI 0) hx hb dX10_offOf_24 (by decide) ?_
  refine lv_istore (lv' := [(5, .int (nI 0)), (4, .int (nI 0)), (3, .int (nI 0)), (2, .int (nI 0)), (0, .ref (h 0)), (1, .int (nI 3))]) hx hb dX10_offOf_25 hl (by decide) rfl (fun ls hl => ?_)
  refine lv_iload hx hb dX10_offOf_27 (lv_at hl 0 rfl) ?_
  refine lv_aload_n hx hb dX10_offOf_29 rfl (lv_at hl 4 rfl) ?_
  refine va_get (D := (dC, dI)) (ci := 10) (v := .int (gI 1)) (C := RX10) (T := TX10) (N := 28) hx hb hts hinX10 hown hK hP 0 rfl rfl 1 (by decide) (hts (.fieldLink RX10 13 "MixedWordsModel" "columns" "I") (by decide +kernel)) (fun _ h9 => h9) rfl dX10_offOf_30 ?_
  refine xt_i (y := nI 2) (by decide +kernel) ?_
  refine lv_icmp_ge (tgt := 66) hx hb dX10_offOf_33 (by decide) (fun c9 => False.elim (by revert c9; decide +kernel)) (fun _ => ?_)
  refine lv_iload hx hb dX10_offOf_36 (lv_at hl 1 rfl) ?_
  refine lv_aload_n hx hb dX10_offOf_38 rfl (lv_at hl 4 rfl) ?_
  refine va_get (D := (dC, dI)) (ci := 10) (v := .ref (h 3)) (C := RX10) (T := TX10) (N := 28) hx hb hts hinX10 hown hK hP 0 rfl rfl 3 (by decide) (hts (.fieldLink RX10 19 "MixedWordsModel" "told" "[I") (by decide +kernel)) (fun _ h9 => h9) rfl dX10_offOf_39 ?_
  refine lv_iconst (v := nI 5) hx hb dX10_offOf_42 (by decide) ?_
  refine lv_iload_n hx hb dX10_offOf_43 rfl (lv_at hl 2 rfl) ?_
  refine lv_imul hx hb dX10_offOf_44 ?_
  refine xt_i (y := nI 0) (by decide +kernel) ?_
  refine lv_iload hx hb dX10_offOf_45 (lv_at hl 0 rfl) ?_
  refine lv_iadd hx hb dX10_offOf_47 ?_
  refine xt_i (y := nI 0) (by decide +kernel) ?_
  refine xa_iald hx hb hK hP 1 0 rfl rfl (by omega) (by decide) dX10_offOf_48 ?_
  refine xt_i (y := nI 0) (by decide +kernel) ?_
  refine lv_aload_n hx hb dX10_offOf_49 rfl (lv_at hl 4 rfl) ?_
  refine lv_iload_n hx hb dX10_offOf_50 rfl (lv_at hl 5 rfl) ?_
  refine lv_iload hx hb dX10_offOf_51 (lv_at hl 0 rfl) ?_
  refine xj_i (wc := (wD_177 h cs gI gL gA gQ)) (wr := ([] : va_W)) hP hD hS hA [0, 1, 2, 3, 4, 5, 6, 7, 8, 9, 10, 11, 12, 13, 14, 15, 16] [] rfl rfl (by decide) (by decide) (va_runV (As := [.int (nI 3), .int (nI 0)]) (rest := [.int (nI 0), .int (nI 0)]) ⟨hx, hb, hml, hown, hts⟩ (a_X10_letter_197 l dC dI h cs H.size gI gL gA gQ ) (cwV 2 hts gX10_offOf_X10_letter rfl rfl rfl (by decide +kernel) ⟨Nat.le_of_ble_eq_true rfl, Nat.le_of_ble_eq_true rfl⟩) (xpV (wc := (wD_177 h cs gI gL gA gQ)) hP hD hK hN [0, 1, 2, 3, 4, 5, 6, 7, 8, 9, 10, 11, 12, 13, 14, 15, 16] rfl (by decide) 0 (ci := 10) rfl rfl _) rfl rfl hl.1 rfl (lv_room (Nat.le_of_ble_eq_true rfl)) dX10_offOf_53 ⟨Nat.zero_le _, Nat.zero_le _⟩) (fun r_2 u_1 H locs hw hP hD hS => ?_)
  obtain ⟨hf_3, rfl⟩ := hw
  have hP : va_P (dC, dI) vwCl (wD_177 h cs gI gL gA gQ) H := hP
  have hD : va_D A0 (wD_177 h cs gI gL gA gQ) := hD
  obtain rfl := hf_3
  refine lv_imul hx hb dX10_offOf_56 ?_
  refine xt_i (y := nI 0) (by decide +kernel) ?_
  refine lv_isub hx hb dX10_offOf_57 ?_
  refine xt_i (y := nI 0) (by decide +kernel) ?_
  refine lv_istore (lv' := [(4, .int (nI 0)), (5, .int (nI 0)), (3, .int (nI 0)), (2, .int (nI 0)), (0, .ref (h 0)), (1, .int (nI 3))]) hx hb dX10_offOf_58 hl (by decide) rfl (fun ls hl => ?_)
  refine lv_iinc (v := nI 1) (lv' := [(5, .int (nI 1)), (4, .int (nI 0)), (3, .int (nI 0)), (2, .int (nI 0)), (0, .ref (h 0)), (1, .int (nI 3))]) hx hb dX10_offOf_60 hl (k := 1) rfl (by decide +kernel) (by decide) rfl (fun ls hl => ?_)
  refine lv_goto (tgt := 27) hx hb dX10_offOf_63 (by decide) ?_
  refine lv_iload hx hb dX10_offOf_27 (lv_at hl 0 rfl) ?_
  refine lv_aload_n hx hb dX10_offOf_29 rfl (lv_at hl 4 rfl) ?_
  refine va_get (D := (dC, dI)) (ci := 10) (v := .int (gI 1)) (C := RX10) (T := TX10) (N := 28) hx hb hts hinX10 hown hK hP 0 rfl rfl 1 (by decide) (hts (.fieldLink RX10 13 "MixedWordsModel" "columns" "I") (by decide +kernel)) (fun _ h9 => h9) rfl dX10_offOf_30 ?_
  refine xt_i (y := nI 2) (by decide +kernel) ?_
  refine lv_icmp_ge (tgt := 66) hx hb dX10_offOf_33 (by decide) (fun c9 => False.elim (by revert c9; decide +kernel)) (fun _ => ?_)
  refine lv_iload hx hb dX10_offOf_36 (lv_at hl 1 rfl) ?_
  refine lv_aload_n hx hb dX10_offOf_38 rfl (lv_at hl 4 rfl) ?_
  refine va_get (D := (dC, dI)) (ci := 10) (v := .ref (h 3)) (C := RX10) (T := TX10) (N := 28) hx hb hts hinX10 hown hK hP 0 rfl rfl 3 (by decide) (hts (.fieldLink RX10 19 "MixedWordsModel" "told" "[I") (by decide +kernel)) (fun _ h9 => h9) rfl dX10_offOf_39 ?_
  refine lv_iconst (v := nI 5) hx hb dX10_offOf_42 (by decide) ?_
  refine lv_iload_n hx hb dX10_offOf_43 rfl (lv_at hl 2 rfl) ?_
  refine lv_imul hx hb dX10_offOf_44 ?_
  refine xt_i (y := nI 0) (by decide +kernel) ?_
  refine lv_iload hx hb dX10_offOf_45 (lv_at hl 0 rfl) ?_
  refine lv_iadd hx hb dX10_offOf_47 ?_
  refine xt_i (y := nI 1) (by decide +kernel) ?_
  refine xa_iald hx hb hK hP 1 0 rfl rfl (by omega) (by decide) dX10_offOf_48 ?_
  refine xt_i (y := nI 0) (by decide +kernel) ?_
  refine lv_aload_n hx hb dX10_offOf_49 rfl (lv_at hl 4 rfl) ?_
  refine lv_iload_n hx hb dX10_offOf_50 rfl (lv_at hl 5 rfl) ?_
  refine lv_iload hx hb dX10_offOf_51 (lv_at hl 0 rfl) ?_
  refine xj_i (wc := (wD_177 h cs gI gL gA gQ)) (wr := ([] : va_W)) hP hD hS hA [0, 1, 2, 3, 4, 5, 6, 7, 8, 9, 10, 11, 12, 13, 14, 15, 16] [] rfl rfl (by decide) (by decide) (va_runV (As := [.int (nI 3), .int (nI 1)]) (rest := [.int (nI 0), .int (nI 0)]) ⟨hx, hb, hml, hown, hts⟩ (a_X10_letter_198 l dC dI h cs H.size gI gL gA gQ ) (cwV 2 hts gX10_offOf_X10_letter rfl rfl rfl (by decide +kernel) ⟨Nat.le_of_ble_eq_true rfl, Nat.le_of_ble_eq_true rfl⟩) (xpV (wc := (wD_177 h cs gI gL gA gQ)) hP hD hK hN [0, 1, 2, 3, 4, 5, 6, 7, 8, 9, 10, 11, 12, 13, 14, 15, 16] rfl (by decide) 0 (ci := 10) rfl rfl _) rfl rfl hl.1 rfl (lv_room (Nat.le_of_ble_eq_true rfl)) dX10_offOf_53 ⟨Nat.zero_le _, Nat.zero_le _⟩) (fun r_5 u_4 H locs hw hP hD hS => ?_)
  obtain ⟨hf_6, rfl⟩ := hw
  have hP : va_P (dC, dI) vwCl (wD_177 h cs gI gL gA gQ) H := hP
  have hD : va_D A0 (wD_177 h cs gI gL gA gQ) := hD
  obtain rfl := hf_6
  refine lv_imul hx hb dX10_offOf_56 ?_
  refine xt_i (y := nI 0) (by decide +kernel) ?_
  refine lv_isub hx hb dX10_offOf_57 ?_
  refine xt_i (y := nI 0) (by decide +kernel) ?_
  refine lv_istore (lv' := [(4, .int (nI 0)), (5, .int (nI 1)), (3, .int (nI 0)), (2, .int (nI 0)), (0, .ref (h 0)), (1, .int (nI 3))]) hx hb dX10_offOf_58 hl (by decide) rfl (fun ls hl => ?_)
  refine lv_iinc (v := nI 2) (lv' := [(5, .int (nI 2)), (4, .int (nI 0)), (3, .int (nI 0)), (2, .int (nI 0)), (0, .ref (h 0)), (1, .int (nI 3))]) hx hb dX10_offOf_60 hl (k := 1) rfl (by decide +kernel) (by decide) rfl (fun ls hl => ?_)
  refine lv_goto (tgt := 27) hx hb dX10_offOf_63 (by decide) ?_
  refine lv_iload hx hb dX10_offOf_27 (lv_at hl 0 rfl) ?_
  refine lv_aload_n hx hb dX10_offOf_29 rfl (lv_at hl 4 rfl) ?_
  refine va_get (D := (dC, dI)) (ci := 10) (v := .int (gI 1)) (C := RX10) (T := TX10) (N := 28) hx hb hts hinX10 hown hK hP 0 rfl rfl 1 (by decide) (hts (.fieldLink RX10 13 "MixedWordsModel" "columns" "I") (by decide +kernel)) (fun _ h9 => h9) rfl dX10_offOf_30 ?_
  refine xt_i (y := nI 2) (by decide +kernel) ?_
  refine lv_icmp_ge (tgt := 66) hx hb dX10_offOf_33 (by decide) (fun _ => ?_) (fun c9 => False.elim (by revert c9; decide +kernel))
  refine lv_iload_n hx hb dX10_offOf_66 rfl (lv_at hl 3 rfl) ?_
  refine lv_iload hx hb dX10_offOf_67 (lv_at hl 1 rfl) ?_
  refine lv_iload hx hb dX10_offOf_69 (lv_at hl 1 rfl) ?_
  refine lv_imul hx hb dX10_offOf_71 ?_
  refine xt_i (y := nI 0) (by decide +kernel) ?_
  refine lv_iadd hx hb dX10_offOf_72 ?_
  refine xt_i (y := nI 0) (by decide +kernel) ?_
  refine lv_istore_n (lv' := [(2, .int (nI 0)), (5, .int (nI 2)), (4, .int (nI 0)), (3, .int (nI 0)), (0, .ref (h 0)), (1, .int (nI 3))]) hx hb dX10_offOf_73 rfl hl (by decide) rfl (fun ls hl => ?_)
  refine lv_iinc (v := nI 1) (lv' := [(3, .int (nI 1)), (2, .int (nI 0)), (5, .int (nI 2)), (4, .int (nI 0)), (0, .ref (h 0)), (1, .int (nI 3))]) hx hb dX10_offOf_74 hl (k := 3) rfl (by decide +kernel) (by decide) rfl (fun ls hl => ?_)
  refine lv_goto (tgt := 4) hx hb dX10_offOf_77 (by decide) ?_
  refine lv_iload_n hx hb dX10_offOf_4 rfl (lv_at hl 0 rfl) ?_
  refine lv_aload_n hx hb dX10_offOf_5 rfl (lv_at hl 4 rfl) ?_
  refine va_get (D := (dC, dI)) (ci := 10) (v := .int (gI 0)) (C := RX10) (T := TX10) (N := 28) hx hb hts hinX10 hown hK hP 0 rfl rfl 0 (by decide) (hts (.fieldLink RX10 7 "MixedWordsModel" "rows" "I") (by decide +kernel)) (fun _ h9 => h9) rfl dX10_offOf_6 ?_
  refine xt_i (y := nI 2) (by decide +kernel) ?_
  refine lv_icmp_ge (tgt := 80) hx hb dX10_offOf_9 (by decide) (fun c9 => False.elim (by revert c9; decide +kernel)) (fun _ => ?_)
  refine lv_aload_n hx hb dX10_offOf_12 rfl (lv_at hl 4 rfl) ?_
  refine va_get (D := (dC, dI)) (ci := 10) (v := .ref (h 3)) (C := RX10) (T := TX10) (N := 28) hx hb hts hinX10 hown hK hP 0 rfl rfl 3 (by decide) (hts (.fieldLink RX10 19 "MixedWordsModel" "told" "[I") (by decide +kernel)) (fun _ h9 => h9) rfl dX10_offOf_13 ?_
  refine lv_iconst (v := nI 5) hx hb dX10_offOf_16 (by decide) ?_
  refine lv_iload_n hx hb dX10_offOf_17 rfl (lv_at hl 0 rfl) ?_
  refine lv_imul hx hb dX10_offOf_18 ?_
  refine xt_i (y := nI 5) (by decide +kernel) ?_
  refine lv_iconst (v := nI 4) hx hb dX10_offOf_19 (by decide) ?_
  refine lv_iadd hx hb dX10_offOf_20 ?_
  refine xt_i (y := nI 9) (by decide +kernel) ?_
  refine xa_iald hx hb hK hP 1 0 rfl rfl (by omega) (by decide) dX10_offOf_21 ?_
  refine xt_i (y := nI 0) (by decide +kernel) ?_
  refine lv_istore (lv' := [(4, .int (nI 0)), (3, .int (nI 1)), (2, .int (nI 0)), (5, .int (nI 2)), (0, .ref (h 0)), (1, .int (nI 3))]) hx hb dX10_offOf_22 hl (by decide) rfl (fun ls hl => ?_)
  refine lv_iconst (v := nI 0) hx hb dX10_offOf_24 (by decide) ?_
  refine lv_istore (lv' := [(5, .int (nI 0)), (4, .int (nI 0)), (3, .int (nI 1)), (2, .int (nI 0)), (0, .ref (h 0)), (1, .int (nI 3))]) hx hb dX10_offOf_25 hl (by decide) rfl (fun ls hl => ?_)
  refine lv_iload hx hb dX10_offOf_27 (lv_at hl 0 rfl) ?_
  refine lv_aload_n hx hb dX10_offOf_29 rfl (lv_at hl 4 rfl) ?_
  refine va_get (D := (dC, dI)) (ci := 10) (v := .int (gI 1)) (C := RX10) (T := TX10) (N := 28) hx hb hts hinX10 hown hK hP 0 rfl rfl 1 (by decide) (hts (.fieldLink RX10 13 "MixedWordsModel" "columns" "I") (by decide +kernel)) (fun _ h9 => h9) rfl dX10_offOf_30 ?_
  refine xt_i (y := nI 2) (by decide +kernel) ?_
  refine lv_icmp_ge (tgt := 66) hx hb dX10_offOf_33 (by decide) (fun c9 => False.elim (by revert c9; decide +kernel)) (fun _ => ?_)
  refine lv_iload hx hb dX10_offOf_36 (lv_at hl 1 rfl) ?_
  refine lv_aload_n hx hb dX10_offOf_38 rfl (lv_at hl 4 rfl) ?_
  refine va_get (D := (dC, dI)) (ci := 10) (v := .ref (h 3)) (C := RX10) (T := TX10) (N := 28) hx hb hts hinX10 hown hK hP 0 rfl rfl 3 (by decide) (hts (.fieldLink RX10 19 "MixedWordsModel" "told" "[I") (by decide +kernel)) (fun _ h9 => h9) rfl dX10_offOf_39 ?_
  refine lv_iconst (v := nI 5) hx hb dX10_offOf_42 (by decide) ?_
  refine lv_iload_n hx hb dX10_offOf_43 rfl (lv_at hl 2 rfl) ?_
  refine lv_imul hx hb dX10_offOf_44 ?_
  refine xt_i (y := nI 5) (by decide +kernel) ?_
  refine lv_iload hx hb dX10_offOf_45 (lv_at hl 0 rfl) ?_
  refine lv_iadd hx hb dX10_offOf_47 ?_
  refine xt_i (y := nI 5) (by decide +kernel) ?_
  refine xa_iald hx hb hK hP 1 0 rfl rfl (by omega) (by decide) dX10_offOf_48 ?_
  refine xt_i (y := nI 0) (by decide +kernel) ?_
  refine lv_aload_n hx hb dX10_offOf_49 rfl (lv_at hl 4 rfl) ?_
  refine lv_iload_n hx hb dX10_offOf_50 rfl (lv_at hl 5 rfl) ?_
  refine lv_iload hx hb dX10_offOf_51 (lv_at hl 0 rfl) ?_
  refine xj_i (wc := (wD_177 h cs gI gL gA gQ)) (wr := ([] : va_W)) hP hD hS hA [0, 1, 2, 3, 4, 5, 6, 7, 8, 9, 10, 11, 12, 13, 14, 15, 16] [] rfl rfl (by decide) (by decide) (va_runV (As := [.int (nI 3), .int (nI 0)]) (rest := [.int (nI 0), .int (nI 0)]) ⟨hx, hb, hml, hown, hts⟩ (a_X10_letter_197 l dC dI h cs H.size gI gL gA gQ ) (cwV 2 hts gX10_offOf_X10_letter rfl rfl rfl (by decide +kernel) ⟨Nat.le_of_ble_eq_true rfl, Nat.le_of_ble_eq_true rfl⟩) (xpV (wc := (wD_177 h cs gI gL gA gQ)) hP hD hK hN [0, 1, 2, 3, 4, 5, 6, 7, 8, 9, 10, 11, 12, 13, 14, 15, 16] rfl (by decide) 0 (ci := 10) rfl rfl _) rfl rfl hl.1 rfl (lv_room (Nat.le_of_ble_eq_true rfl)) dX10_offOf_53 ⟨Nat.zero_le _, Nat.zero_le _⟩) (fun r_8 u_7 H locs hw hP hD hS => ?_)
  obtain ⟨hf_9, rfl⟩ := hw
  have hP : va_P (dC, dI) vwCl (wD_177 h cs gI gL gA gQ) H := hP
  have hD : va_D A0 (wD_177 h cs gI gL gA gQ) := hD
  obtain rfl := hf_9
  refine lv_imul hx hb dX10_offOf_56 ?_
  refine xt_i (y := nI 0) (by decide +kernel) ?_
  refine lv_isub hx hb dX10_offOf_57 ?_
  refine xt_i (y := nI 0) (by decide +kernel) ?_
  refine lv_istore (lv' := [(4, .int (nI 0)), (5, .int (nI 0)), (3, .int (nI 1)), (2, .int (nI 0)), (0, .ref (h 0)), (1, .int (nI 3))]) hx hb dX10_offOf_58 hl (by decide) rfl (fun ls hl => ?_)
  refine lv_iinc (v := nI 1) (lv' := [(5, .int (nI 1)), (4, .int (nI 0)), (3, .int (nI 1)), (2, .int (nI 0)), (0, .ref (h 0)), (1, .int (nI 3))]) hx hb dX10_offOf_60 hl (k := 1) rfl (by decide +kernel) (by decide) rfl (fun ls hl => ?_)
  refine lv_goto (tgt := 27) hx hb dX10_offOf_63 (by decide) ?_
  refine lv_iload hx hb dX10_offOf_27 (lv_at hl 0 rfl) ?_
  refine lv_aload_n hx hb dX10_offOf_29 rfl (lv_at hl 4 rfl) ?_
  refine va_get (D := (dC, dI)) (ci := 10) (v := .int (gI 1)) (C := RX10) (T := TX10) (N := 28) hx hb hts hinX10 hown hK hP 0 rfl rfl 1 (by decide) (hts (.fieldLink RX10 13 "MixedWordsModel" "columns" "I") (by decide +kernel)) (fun _ h9 => h9) rfl dX10_offOf_30 ?_
  refine xt_i (y := nI 2) (by decide +kernel) ?_
  refine lv_icmp_ge (tgt := 66) hx hb dX10_offOf_33 (by decide) (fun c9 => False.elim (by revert c9; decide +kernel)) (fun _ => ?_)
  refine lv_iload hx hb dX10_offOf_36 (lv_at hl 1 rfl) ?_
  refine lv_aload_n hx hb dX10_offOf_38 rfl (lv_at hl 4 rfl) ?_
  refine va_get (D := (dC, dI)) (ci := 10) (v := .ref (h 3)) (C := RX10) (T := TX10) (N := 28) hx hb hts hinX10 hown hK hP 0 rfl rfl 3 (by decide) (hts (.fieldLink RX10 19 "MixedWordsModel" "told" "[I") (by decide +kernel)) (fun _ h9 => h9) rfl dX10_offOf_39 ?_
  refine lv_iconst (v := nI 5) hx hb dX10_offOf_42 (by decide) ?_
  refine lv_iload_n hx hb dX10_offOf_43 rfl (lv_at hl 2 rfl) ?_
  refine lv_imul hx hb dX10_offOf_44 ?_
  refine xt_i (y := nI 5) (by decide +kernel) ?_
  refine lv_iload hx hb dX10_offOf_45 (lv_at hl 0 rfl) ?_
  refine lv_iadd hx hb dX10_offOf_47 ?_
  refine xt_i (y := nI 6) (by decide +kernel) ?_
  refine xa_iald hx hb hK hP 1 0 rfl rfl (by omega) (by decide) dX10_offOf_48 ?_
  refine xt_i (y := nI 0) (by decide +kernel) ?_
  refine lv_aload_n hx hb dX10_offOf_49 rfl (lv_at hl 4 rfl) ?_
  refine lv_iload_n hx hb dX10_offOf_50 rfl (lv_at hl 5 rfl) ?_
  refine lv_iload hx hb dX10_offOf_51 (lv_at hl 0 rfl) ?_
  refine xj_i (wc := (wD_177 h cs gI gL gA gQ)) (wr := ([] : va_W)) hP hD hS hA [0, 1, 2, 3, 4, 5, 6, 7, 8, 9, 10, 11, 12, 13, 14, 15, 16] [] rfl rfl (by decide) (by decide) (va_runV (As := [.int (nI 3), .int (nI 1)]) (rest := [.int (nI 0), .int (nI 0)]) ⟨hx, hb, hml, hown, hts⟩ (a_X10_letter_198 l dC dI h cs H.size gI gL gA gQ ) (cwV 2 hts gX10_offOf_X10_letter rfl rfl rfl (by decide +kernel) ⟨Nat.le_of_ble_eq_true rfl, Nat.le_of_ble_eq_true rfl⟩) (xpV (wc := (wD_177 h cs gI gL gA gQ)) hP hD hK hN [0, 1, 2, 3, 4, 5, 6, 7, 8, 9, 10, 11, 12, 13, 14, 15, 16] rfl (by decide) 0 (ci := 10) rfl rfl _) rfl rfl hl.1 rfl (lv_room (Nat.le_of_ble_eq_true rfl)) dX10_offOf_53 ⟨Nat.zero_le _, Nat.zero_le _⟩) (fun r_11 u_10 H locs hw hP hD hS => ?_)
  obtain ⟨hf_12, rfl⟩ := hw
  have hP : va_P (dC, dI) vwCl (wD_177 h cs gI gL gA gQ) H := hP
  have hD : va_D A0 (wD_177 h cs gI gL gA gQ) := hD
  obtain rfl := hf_12
  refine lv_imul hx hb dX10_offOf_56 ?_
  refine xt_i (y := nI 0) (by decide +kernel) ?_
  refine lv_isub hx hb dX10_offOf_57 ?_
  refine xt_i (y := nI 0) (by decide +kernel) ?_
  refine lv_istore (lv' := [(4, .int (nI 0)), (5, .int (nI 1)), (3, .int (nI 1)), (2, .int (nI 0)), (0, .ref (h 0)), (1, .int (nI 3))]) hx hb dX10_offOf_58 hl (by decide) rfl (fun ls hl => ?_)
  refine lv_iinc (v := nI 2) (lv' := [(5, .int (nI 2)), (4, .int (nI 0)), (3, .int (nI 1)), (2, .int (nI 0)), (0, .ref (h 0)), (1, .int (nI 3))]) hx hb dX10_offOf_60 hl (k := 1) rfl (by decide +kernel) (by decide) rfl (fun ls hl => ?_)
  refine lv_goto (tgt := 27) hx hb dX10_offOf_63 (by decide) ?_
  refine lv_iload hx hb dX10_offOf_27 (lv_at hl 0 rfl) ?_
  refine lv_aload_n hx hb dX10_offOf_29 rfl (lv_at hl 4 rfl) ?_
  refine va_get (D := (dC, dI)) (ci := 10) (v := .int (gI 1)) (C := RX10) (T := TX10) (N := 28) hx hb hts hinX10 hown hK hP 0 rfl rfl 1 (by decide) (hts (.fieldLink RX10 13 "MixedWordsModel" "columns" "I") (by decide +kernel)) (fun _ h9 => h9) rfl dX10_offOf_30 ?_
  refine xt_i (y := nI 2) (by decide +kernel) ?_
  refine lv_icmp_ge (tgt := 66) hx hb dX10_offOf_33 (by decide) (fun _ => ?_) (fun c9 => False.elim (by revert c9; decide +kernel))
  refine lv_iload_n hx hb dX10_offOf_66 rfl (lv_at hl 3 rfl) ?_
  refine lv_iload hx hb dX10_offOf_67 (lv_at hl 1 rfl) ?_
  refine lv_iload hx hb dX10_offOf_69 (lv_at hl 1 rfl) ?_
  refine lv_imul hx hb dX10_offOf_71 ?_
  refine xt_i (y := nI 0) (by decide +kernel) ?_
  refine lv_iadd hx hb dX10_offOf_72 ?_
  refine xt_i (y := nI 0) (by decide +kernel) ?_
  refine lv_istore_n (lv' := [(2, .int (nI 0)), (5, .int (nI 2)), (4, .int (nI 0)), (3, .int (nI 1)), (0, .ref (h 0)), (1, .int (nI 3))]) hx hb dX10_offOf_73 rfl hl (by decide) rfl (fun ls hl => ?_)
  refine lv_iinc (v := nI 2) (lv' := [(3, .int (nI 2)), (2, .int (nI 0)), (5, .int (nI 2)), (4, .int (nI 0)), (0, .ref (h 0)), (1, .int (nI 3))]) hx hb dX10_offOf_74 hl (k := 3) rfl (by decide +kernel) (by decide) rfl (fun ls hl => ?_)
  refine lv_goto (tgt := 4) hx hb dX10_offOf_77 (by decide) ?_
  refine lv_iload_n hx hb dX10_offOf_4 rfl (lv_at hl 0 rfl) ?_
  refine lv_aload_n hx hb dX10_offOf_5 rfl (lv_at hl 4 rfl) ?_
  refine va_get (D := (dC, dI)) (ci := 10) (v := .int (gI 0)) (C := RX10) (T := TX10) (N := 28) hx hb hts hinX10 hown hK hP 0 rfl rfl 0 (by decide) (hts (.fieldLink RX10 7 "MixedWordsModel" "rows" "I") (by decide +kernel)) (fun _ h9 => h9) rfl dX10_offOf_6 ?_
  refine xt_i (y := nI 2) (by decide +kernel) ?_
  refine lv_icmp_ge (tgt := 80) hx hb dX10_offOf_9 (by decide) (fun _ => ?_) (fun c9 => False.elim (by revert c9; decide +kernel))
  refine lv_iload_n hx hb dX10_offOf_80 rfl (lv_at hl 1 rfl) ?_
  exact xr_i (v := (nI 0)) hx hb hr hlocks hK hS dX10_offOf_81 (gI, gL, gA, gQ) ⟨rfl, rfl⟩ hP hD
set_option maxHeartbeats 4000000 in
set_option maxRecDepth 100000 in
theorem f_X10_off (l : Launch) (dC : Nat → ClassId) (dI : Nat → Nat → Nat) (h : Nat → Nat) (cs : Nat → ClassId) (sz : Nat) (I : Nat → Int32) (L : Nat → Int64) (A : Nat → Nat → Int32) (Q : Nat → Nat → Int64) (x : Int32) : Met l yX10_off wsX10_off ({ frames := 2, cells := 0, slots := 0, locals := 49 }) (va_Pc [.ref (h 0), .int x] (xPre (dC, dI) (rW h cs gI gL gA gQ) (tysA cs) sz)) (va_Qi (fun (r : Int32) (u : RS) => (r = an_off x) ∧ u = (gI, gL, gA, gQ)) (xB (dC, dI) (tysA cs) (va_A (rW h cs gI gL gA gQ) sz) (fun u : RS => rW h cs u.1 u.2.1 u.2.2.1 u.2.2.2)) (va_A (rW h cs gI gL gA gQ) sz)) 0 0 (va_A (rW h cs gI gL gA gQ) sz) := by
  refine Met.ofW (cc := cX10_off) (maxL := 2) (ret := (some .int)) (by decide) rfl ?_
  intro p e s m args below meth c s₁ B hml hv
  obtain ⟨rfl, hsz, hP, hK, hD0, hN⟩ := hv
  have hx := B.exec
  have hb := B.bytes
  have hr := B.returns
  have hts := atoms_spec (ws := wsX10_off) B.pre
  have hown : s.vm.findClass RX10 = some m.cls := findClass_of_methodNamed B.named
  have hlocks := B.notSynchronized
  subst hsz
  have hD := hD0.self (sz := s.heap.size)
  generalize hAe : va_A (rW h cs gI gL gA gQ) s.heap.size = A0 at hD ⊢
  have hA : ∀ q : Nat, s.heap.size ≤ q → A0 q := fun q h => by rw [← hAe]; exact Or.inr h
  have hl := lv_entry ([.ref (h 0), .int x]) (n := 2) (Nat.le_of_ble_eq_true rfl)
  rw [lg_entry_eq]
  generalize (lg_sl ([.ref (h 0), .int x]) ++ List.replicate (2 - (lg_sl ([.ref (h 0), .int x])).length) Slot.unset).toArray = ls at hl ⊢
  have hl : lv_has ls 2 [(0, .ref (h 0)), (1, .int x)] := hl
  generalize hH : s.heap = H at hP ⊢
  have hS : va_S A0 s.heap H [] := by rw [← hH]; exact va_S.rf
  rcases splR x 0 3 (by decide) with ⟨i_x, h_x, g_x, rfl⟩ | hz_x
  · skip
    rcases (show i_x = 0 ∨ i_x = 1 ∨ i_x = 2 ∨ i_x = 3 by omega) with rfl | rfl | rfl | rfl
    · skip
      refine lv_aload_n hx hb dX10_off_0 rfl (lv_at hl 0 rfl) ?_
      refine lv_iload_n hx hb dX10_off_1 rfl (lv_at hl 1 rfl) ?_
      refine xj_i (wc := (wD_177 h cs gI gL gA gQ)) (wr := ([] : va_W)) hP hD hS hA [0, 1, 2, 3, 4, 5, 6, 7, 8, 9, 10, 11, 12, 13, 14, 15, 16] [] rfl rfl (by decide) (by decide) (va_runV (As := [.int (nI 0)]) (rest := []) ⟨hx, hb, hml, hown, hts⟩ (a_X10_isWord_178 l dC dI h cs H.size gI gL gA gQ ) (cwV 1 hts gX10_off_X10_isWord rfl rfl rfl (by decide +kernel) ⟨Nat.le_of_ble_eq_true rfl, Nat.le_of_ble_eq_true rfl⟩) (xpV (wc := (wD_177 h cs gI gL gA gQ)) hP hD hK hN [0, 1, 2, 3, 4, 5, 6, 7, 8, 9, 10, 11, 12, 13, 14, 15, 16] rfl (by decide) 0 (ci := 10) rfl rfl _) rfl rfl hl.1 rfl (lv_room (Nat.le_of_ble_eq_true rfl)) dX10_off_2 ⟨Nat.zero_le _, Nat.zero_le _⟩) (fun r_2 u_1 H locs hw hP hD hS => ?_)
      obtain ⟨hf_3, rfl⟩ := hw
      have hP : va_P (dC, dI) vwCl (rW h cs gI gL gA gQ) H := hP
      have hD : va_D A0 (rW h cs gI gL gA gQ) := hD
      obtain rfl := hf_3
      refine lv_if_eq (tgt := 16) hx hb dX10_off_5 (by decide) (fun c9 => False.elim (by revert c9; decide +kernel)) (fun _ => ?_)
      refine lv_aload_n hx hb dX10_off_8 rfl (lv_at hl 0 rfl) ?_
      refine lv_iload_n hx hb dX10_off_9 rfl (lv_at hl 1 rfl) ?_
      refine xj_i (wc := (wD_177 h cs gI gL gA gQ)) (wr := ([] : va_W)) hP hD hS hA [0, 1, 2, 3, 4, 5, 6, 7, 8, 9, 10, 11, 12, 13, 14, 15, 16] [] rfl rfl (by decide) (by decide) (va_runV (As := [.int (nI 0)]) (rest := []) ⟨hx, hb, hml, hown, hts⟩ (a_X10_offOf_181 l dC dI h cs H.size gI gL gA gQ ) (cwV 1 hts gX10_off_X10_offOf rfl rfl rfl (by decide +kernel) ⟨Nat.le_of_ble_eq_true rfl, Nat.le_of_ble_eq_true rfl⟩) (xpV (wc := (wD_177 h cs gI gL gA gQ)) hP hD hK hN [0, 1, 2, 3, 4, 5, 6, 7, 8, 9, 10, 11, 12, 13, 14, 15, 16] rfl (by decide) 0 (ci := 10) rfl rfl _) rfl rfl hl.1 rfl (lv_room (Nat.le_of_ble_eq_true rfl)) dX10_off_10 ⟨Nat.zero_le _, Nat.zero_le _⟩) (fun r_5 u_4 H locs hw hP hD hS => ?_)
      obtain ⟨hf_6, rfl⟩ := hw
      have hP : va_P (dC, dI) vwCl (rW h cs gI gL gA gQ) H := hP
      have hD : va_D A0 (rW h cs gI gL gA gQ) := hD
      obtain rfl := hf_6
      refine lv_goto (tgt := 17) hx hb dX10_off_13 (by decide) ?_
      exact xr_i (v := (nI 0)) hx hb hr hlocks hK hS dX10_off_17 (gI, gL, gA, gQ) ⟨(by decide +kernel), rfl⟩ hP hD
    · skip
      refine lv_aload_n hx hb dX10_off_0 rfl (lv_at hl 0 rfl) ?_
      refine lv_iload_n hx hb dX10_off_1 rfl (lv_at hl 1 rfl) ?_
      refine xj_i (wc := (wD_177 h cs gI gL gA gQ)) (wr := ([] : va_W)) hP hD hS hA [0, 1, 2, 3, 4, 5, 6, 7, 8, 9, 10, 11, 12, 13, 14, 15, 16] [] rfl rfl (by decide) (by decide) (va_runV (As := [.int (nI 1)]) (rest := []) ⟨hx, hb, hml, hown, hts⟩ (a_X10_isWord_184 l dC dI h cs H.size gI gL gA gQ ) (cwV 1 hts gX10_off_X10_isWord rfl rfl rfl (by decide +kernel) ⟨Nat.le_of_ble_eq_true rfl, Nat.le_of_ble_eq_true rfl⟩) (xpV (wc := (wD_177 h cs gI gL gA gQ)) hP hD hK hN [0, 1, 2, 3, 4, 5, 6, 7, 8, 9, 10, 11, 12, 13, 14, 15, 16] rfl (by decide) 0 (ci := 10) rfl rfl _) rfl rfl hl.1 rfl (lv_room (Nat.le_of_ble_eq_true rfl)) dX10_off_2 ⟨Nat.zero_le _, Nat.zero_le _⟩) (fun r_8 u_7 H locs hw hP hD hS => ?_)
      obtain ⟨hf_9, rfl⟩ := hw
      have hP : va_P (dC, dI) vwCl (rW h cs gI gL gA gQ) H := hP
      have hD : va_D A0 (rW h cs gI gL gA gQ) := hD
      obtain rfl := hf_9
      refine lv_if_eq (tgt := 16) hx hb dX10_off_5 (by decide) (fun c9 => False.elim (by revert c9; decide +kernel)) (fun _ => ?_)
      refine lv_aload_n hx hb dX10_off_8 rfl (lv_at hl 0 rfl) ?_
      refine lv_iload_n hx hb dX10_off_9 rfl (lv_at hl 1 rfl) ?_
      refine xj_i (wc := (wD_177 h cs gI gL gA gQ)) (wr := ([] : va_W)) hP hD hS hA [0, 1, 2, 3, 4, 5, 6, 7, 8, 9, 10, 11, 12, 13, 14, 15, 16] [] rfl rfl (by decide) (by decide) (va_runV (As := [.int (nI 1)]) (rest := []) ⟨hx, hb, hml, hown, hts⟩ (a_X10_offOf_186 l dC dI h cs H.size gI gL gA gQ ) (cwV 1 hts gX10_off_X10_offOf rfl rfl rfl (by decide +kernel) ⟨Nat.le_of_ble_eq_true rfl, Nat.le_of_ble_eq_true rfl⟩) (xpV (wc := (wD_177 h cs gI gL gA gQ)) hP hD hK hN [0, 1, 2, 3, 4, 5, 6, 7, 8, 9, 10, 11, 12, 13, 14, 15, 16] rfl (by decide) 0 (ci := 10) rfl rfl _) rfl rfl hl.1 rfl (lv_room (Nat.le_of_ble_eq_true rfl)) dX10_off_10 ⟨Nat.zero_le _, Nat.zero_le _⟩) (fun r_11 u_10 H locs hw hP hD hS => ?_)
      obtain ⟨hf_12, rfl⟩ := hw
      have hP : va_P (dC, dI) vwCl (rW h cs gI gL gA gQ) H := hP
      have hD : va_D A0 (rW h cs gI gL gA gQ) := hD
      obtain rfl := hf_12
      refine lv_goto (tgt := 17) hx hb dX10_off_13 (by decide) ?_
      exact xr_i (v := (nI 0)) hx hb hr hlocks hK hS dX10_off_17 (gI, gL, gA, gQ) ⟨(by decide +kernel), rfl⟩ hP hD
    · skip
      refine lv_aload_n hx hb dX10_off_0 rfl (lv_at hl 0 rfl) ?_
      refine lv_iload_n hx hb dX10_off_1 rfl (lv_at hl 1 rfl) ?_
      refine xj_i (wc := (wD_177 h cs gI gL gA gQ)) (wr := ([] : va_W)) hP hD hS hA [0, 1, 2, 3, 4, 5, 6, 7, 8, 9, 10, 11, 12, 13, 14, 15, 16] [] rfl rfl (by decide) (by decide) (va_runV (As := [.int (nI 2)]) (rest := []) ⟨hx, hb, hml, hown, hts⟩ (a_X10_isWord_189 l dC dI h cs H.size gI gL gA gQ ) (cwV 1 hts gX10_off_X10_isWord rfl rfl rfl (by decide +kernel) ⟨Nat.le_of_ble_eq_true rfl, Nat.le_of_ble_eq_true rfl⟩) (xpV (wc := (wD_177 h cs gI gL gA gQ)) hP hD hK hN [0, 1, 2, 3, 4, 5, 6, 7, 8, 9, 10, 11, 12, 13, 14, 15, 16] rfl (by decide) 0 (ci := 10) rfl rfl _) rfl rfl hl.1 rfl (lv_room (Nat.le_of_ble_eq_true rfl)) dX10_off_2 ⟨Nat.zero_le _, Nat.zero_le _⟩) (fun r_14 u_13 H locs hw hP hD hS => ?_)
      obtain ⟨hf_15, rfl⟩ := hw
      have hP : va_P (dC, dI) vwCl (rW h cs gI gL gA gQ) H := hP
      have hD : va_D A0 (rW h cs gI gL gA gQ) := hD
      obtain rfl := hf_15
      refine lv_if_eq (tgt := 16) hx hb dX10_off_5 (by decide) (fun c9 => False.elim (by revert c9; decide +kernel)) (fun _ => ?_)
      refine lv_aload_n hx hb dX10_off_8 rfl (lv_at hl 0 rfl) ?_
      refine lv_iload_n hx hb dX10_off_9 rfl (lv_at hl 1 rfl) ?_
      refine xj_i (wc := (wD_177 h cs gI gL gA gQ)) (wr := ([] : va_W)) hP hD hS hA [0, 1, 2, 3, 4, 5, 6, 7, 8, 9, 10, 11, 12, 13, 14, 15, 16] [] rfl rfl (by decide) (by decide) (va_runV (As := [.int (nI 2)]) (rest := []) ⟨hx, hb, hml, hown, hts⟩ (a_X10_offOf_191 l dC dI h cs H.size gI gL gA gQ ) (cwV 1 hts gX10_off_X10_offOf rfl rfl rfl (by decide +kernel) ⟨Nat.le_of_ble_eq_true rfl, Nat.le_of_ble_eq_true rfl⟩) (xpV (wc := (wD_177 h cs gI gL gA gQ)) hP hD hK hN [0, 1, 2, 3, 4, 5, 6, 7, 8, 9, 10, 11, 12, 13, 14, 15, 16] rfl (by decide) 0 (ci := 10) rfl rfl _) rfl rfl hl.1 rfl (lv_room (Nat.le_of_ble_eq_true rfl)) dX10_off_10 ⟨Nat.zero_le _, Nat.zero_le _⟩) (fun r_17 u_16 H locs hw hP hD hS => ?_)
      obtain ⟨hf_18, rfl⟩ := hw
      have hP : va_P (dC, dI) vwCl (rW h cs gI gL gA gQ) H := hP
      have hD : va_D A0 (rW h cs gI gL gA gQ) := hD
      obtain rfl := hf_18
      refine lv_goto (tgt := 17) hx hb dX10_off_13 (by decide) ?_
      exact xr_i (v := (nI 0)) hx hb hr hlocks hK hS dX10_off_17 (gI, gL, gA, gQ) ⟨(by decide +kernel), rfl⟩ hP hD
    · skip
      refine lv_aload_n hx hb dX10_off_0 rfl (lv_at hl 0 rfl) ?_
      refine lv_iload_n hx hb dX10_off_1 rfl (lv_at hl 1 rfl) ?_
      refine xj_i (wc := (wD_177 h cs gI gL gA gQ)) (wr := ([] : va_W)) hP hD hS hA [0, 1, 2, 3, 4, 5, 6, 7, 8, 9, 10, 11, 12, 13, 14, 15, 16] [] rfl rfl (by decide) (by decide) (va_runV (As := [.int (nI 3)]) (rest := []) ⟨hx, hb, hml, hown, hts⟩ (a_X10_isWord_194 l dC dI h cs H.size gI gL gA gQ ) (cwV 1 hts gX10_off_X10_isWord rfl rfl rfl (by decide +kernel) ⟨Nat.le_of_ble_eq_true rfl, Nat.le_of_ble_eq_true rfl⟩) (xpV (wc := (wD_177 h cs gI gL gA gQ)) hP hD hK hN [0, 1, 2, 3, 4, 5, 6, 7, 8, 9, 10, 11, 12, 13, 14, 15, 16] rfl (by decide) 0 (ci := 10) rfl rfl _) rfl rfl hl.1 rfl (lv_room (Nat.le_of_ble_eq_true rfl)) dX10_off_2 ⟨Nat.zero_le _, Nat.zero_le _⟩) (fun r_20 u_19 H locs hw hP hD hS => ?_)
      obtain ⟨hf_21, rfl⟩ := hw
      have hP : va_P (dC, dI) vwCl (rW h cs gI gL gA gQ) H := hP
      have hD : va_D A0 (rW h cs gI gL gA gQ) := hD
      obtain rfl := hf_21
      refine lv_if_eq (tgt := 16) hx hb dX10_off_5 (by decide) (fun c9 => False.elim (by revert c9; decide +kernel)) (fun _ => ?_)
      refine lv_aload_n hx hb dX10_off_8 rfl (lv_at hl 0 rfl) ?_
      refine lv_iload_n hx hb dX10_off_9 rfl (lv_at hl 1 rfl) ?_
      refine xj_i (wc := (wD_177 h cs gI gL gA gQ)) (wr := ([] : va_W)) hP hD hS hA [0, 1, 2, 3, 4, 5, 6, 7, 8, 9, 10, 11, 12, 13, 14, 15, 16] [] rfl rfl (by decide) (by decide) (va_runV (As := [.int (nI 3)]) (rest := []) ⟨hx, hb, hml, hown, hts⟩ (a_X10_offOf_196 l dC dI h cs H.size gI gL gA gQ ) (cwV 1 hts gX10_off_X10_offOf rfl rfl rfl (by decide +kernel) ⟨Nat.le_of_ble_eq_true rfl, Nat.le_of_ble_eq_true rfl⟩) (xpV (wc := (wD_177 h cs gI gL gA gQ)) hP hD hK hN [0, 1, 2, 3, 4, 5, 6, 7, 8, 9, 10, 11, 12, 13, 14, 15, 16] rfl (by decide) 0 (ci := 10) rfl rfl _) rfl rfl hl.1 rfl (lv_room (Nat.le_of_ble_eq_true rfl)) dX10_off_10 ⟨Nat.zero_le _, Nat.zero_le _⟩) (fun r_23 u_22 H locs hw hP hD hS => ?_)
      obtain ⟨hf_24, rfl⟩ := hw
      have hP : va_P (dC, dI) vwCl (rW h cs gI gL gA gQ) H := hP
      have hD : va_D A0 (rW h cs gI gL gA gQ) := hD
      obtain rfl := hf_24
      refine lv_goto (tgt := 17) hx hb dX10_off_13 (by decide) ?_
      exact xr_i (v := (nI 0)) hx hb hr hlocks hK hS dX10_off_17 (gI, gL, gA, gQ) ⟨(by decide +kernel), rfl⟩ hP hD
  · skip
    refine lv_aload_n hx hb dX10_off_0 rfl (lv_at hl 0 rfl) ?_
    refine lv_iload_n hx hb dX10_off_1 rfl (lv_at hl 1 rfl) ?_
    refine xj_i (wc := (rW h cs gI gL gA gQ)) (wr := ([] : va_W)) hP hD hS hA [0, 1, 2, 3, 4, 5, 6, 7, 8, 9, 10, 11, 12, 13, 14, 15, 16] [] rfl rfl (by decide) (by decide) (va_runV (As := [.int x]) (rest := []) ⟨hx, hb, hml, hown, hts⟩ (k_X10_isWord l dC dI h cs H.size gI gL gA gQ x 2 2 (by decide +kernel) (by first | assumption | omega) (by first | assumption | omega) (by decide +kernel) (by first | assumption | omega)) (cwV 1 hts gX10_off_X10_isWord rfl rfl rfl (by decide +kernel) ⟨Nat.le_of_ble_eq_true rfl, Nat.le_of_ble_eq_true rfl⟩) (xpV (wc := (rW h cs gI gL gA gQ)) hP hD hK hN [0, 1, 2, 3, 4, 5, 6, 7, 8, 9, 10, 11, 12, 13, 14, 15, 16] rfl (by decide) 0 (ci := 10) rfl rfl _) rfl rfl hl.1 rfl (lv_room (Nat.le_of_ble_eq_true rfl)) dX10_off_2 ⟨Nat.zero_le _, Nat.zero_le _⟩) (fun r_26 u_25 H locs hw hP hD hS => ?_)
    obtain ⟨hf_27, rfl⟩ := hw
    have hP : va_P (dC, dI) vwCl (rW h cs gI gL gA gQ) H := hP
    have hD : va_D A0 (rW h cs gI gL gA gQ) := hD
    rcases hf_27 with ⟨rfl, i_28, hh_29, ee_30⟩ | ⟨rfl, -⟩
    · skip
      exact absurd (by rw [ee_30, nI_toInt (by omega)]; omega) hz_x
    · skip
      refine lv_if_eq (tgt := 16) hx hb dX10_off_5 (by decide) (fun _ => ?_) (fun c9 => False.elim (by revert c9; decide +kernel))
      refine lv_iconst (v := (-1)) hx hb dX10_off_16 (by decide) ?_
      exact xr_i (v := (-1)) hx hb hr hlocks hK hS dX10_off_17 (gI, gL, gA, gQ) ⟨(by unfold an_off; rw [if_neg (by omega)]), rfl⟩ hP hD
