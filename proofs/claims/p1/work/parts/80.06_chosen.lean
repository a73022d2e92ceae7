set_option maxHeartbeats 4000000 in
set_option maxRecDepth 100000 in
theorem a_X10_in_225 (l : Launch) (dC : Nat → ClassId) (dI : Nat → Nat → Nat) (h : Nat → Nat) (cs : Nat → ClassId) (sz : Nat) (I : Nat → Int32) (L : Nat → Int64) (A : Nat → Nat → Int32) (Q : Nat → Nat → Int64) : Met l yX10_in wsX10_in ({ frames := 0, cells := 0, slots := 0, locals := 0 }) (va_Pc [.long (1 : Int64), .long (1 : Int64), .long (2 : Int64)] (xPre (dC, dI) ([] : va_W) (tysA cs) sz)) (va_Qi (fun (r : Int32) (u : RS) => (r = nI 1) ∧ u = (I, L, A, Q)) (xB (dC, dI) (tysA cs) (va_A ([] : va_W) sz) (fun _ : RS => ([] : va_W))) (va_A ([] : va_W) sz)) 0 0 (va_A ([] : va_W) sz) := by
  refine Met.ofW (cc := cX10_in) (maxL := 6) (ret := (some .boolean)) (by decide) rfl ?_
  intro p e s m args below meth c s₁ B hml hv
  obtain ⟨rfl, hsz, hP, hK, hD0, hN⟩ := hv
  have hx := B.exec
  have hb := B.bytes
  have hr := B.returns
  have hts := atoms_spec (ws := wsX10_in) B.pre
  have hown : s.vm.findClass RX10 = some m.cls := findClass_of_methodNamed B.named
  have hlocks := B.notSynchronized
  subst hsz
  have hD := hD0.self (sz := s.heap.size)
  generalize hAe : va_A ([] : va_W) s.heap.size = A0 at hD ⊢
  have hA : ∀ q : Nat, s.heap.size ≤ q → A0 q := fun q h => by rw [← hAe]; exact Or.inr h
  have hl := lv_entry ([.long (1 : Int64), .long (1 : Int64), .long (2 : Int64)]) (n := 6) (Nat.le_of_ble_eq_true rfl)
  rw [lg_entry_eq]
  generalize (lg_sl ([.long (1 : Int64), .long (1 : Int64), .long (2 : Int64)]) ++ List.replicate (6 - (lg_sl ([.long (1 : Int64), .long (1 : Int64), .long (2 : Int64)])).length) Slot.unset).toArray = ls at hl ⊢
  have hl : lv_has ls 6 [(0, .long (1 : Int64)), (2, .long (1 : Int64)), (4, .long (2 : Int64))] := hl
  generalize hH : s.heap = H at hP ⊢
  have hS : va_S A0 s.heap H [] := by rw [← hH]; exact va_S.rf
  refine lv_lload_n hx hb dX10_in_0 rfl (lv_at hl 0 rfl) ?_
  refine lv_lload_n hx hb dX10_in_1 rfl (lv_at hl 1 rfl) ?_
  refine xl_lt (tgt := 17) hx hb dX10_in_2 dX10_in_3 (by decide) (fun c9 => False.elim (by revert c9; decide +kernel)) (fun _ => ?_)
  refine lv_lload_n hx hb dX10_in_6 rfl (lv_at hl 0 rfl) ?_
  refine lv_lload hx hb dX10_in_7 (lv_at hl 2 rfl) ?_
  refine xl_gt (tgt := 17) hx hb dX10_in_9 dX10_in_10 (by decide) (fun c9 => False.elim (by revert c9; decide +kernel)) (fun _ => ?_)
  refine lv_iconst (v := nI 1) hx hb dX10_in_13 (by decide) ?_
  refine lv_goto (tgt := 18) hx hb dX10_in_14 (by decide) ?_
  exact xr_z (v := (nI 1)) hx hb hr hlocks hK hS dX10_in_18 (rfl) (I, L, A, Q) ⟨rfl, rfl⟩ hP hD
set_option maxHeartbeats 4000000 in
set_option maxRecDepth 100000 in
theorem a_X10_isAhead_226 (l : Launch) (dC : Nat → ClassId) (dI : Nat → Nat → Nat) (h : Nat → Nat) (cs : Nat → ClassId) (sz : Nat) (I : Nat → Int32) (L : Nat → Int64) (A : Nat → Nat → Int32) (Q : Nat → Nat → Int64) : Met l yX10_isAhead wsX10_isAhead ({ frames := 0, cells := 0, slots := 0, locals := 0 }) (va_Pc [.ref (h 0), .int (nI 2), .int (nI 1)] (xPre (dC, dI) (wD_177 h cs gI gL qA_210 gQ) (tysA cs) sz)) (va_Qi (fun (r : Int32) (u : RS) => (r = nI 0) ∧ u = (gI, gL, qA_210, gQ)) (xB (dC, dI) (tysA cs) (va_A (wD_177 h cs gI gL qA_210 gQ) sz) (fun u : RS => wD_177 h cs u.1 u.2.1 u.2.2.1 u.2.2.2)) (va_A (wD_177 h cs gI gL qA_210 gQ) sz)) 0 0 (va_A (wD_177 h cs gI gL qA_210 gQ) sz) := by
  refine Met.ofW (cc := cX10_isAhead) (maxL := 4) (ret := (some .boolean)) (by decide) rfl ?_
  intro p e s m args below meth c s₁ B hml hv
  obtain ⟨rfl, hsz, hP, hK, hD0, hN⟩ := hv
  have hx := B.exec
  have hb := B.bytes
  have hr := B.returns
  have hts := atoms_spec (ws := wsX10_isAhead) B.pre
  have hown : s.vm.findClass RX10 = some m.cls := findClass_of_methodNamed B.named
  have hlocks := B.notSynchronized
  subst hsz
  have hD := hD0.self (sz := s.heap.size)
  generalize hAe : va_A (wD_177 h cs gI gL qA_210 gQ) s.heap.size = A0 at hD ⊢
  have hA : ∀ q : Nat, s.heap.size ≤ q → A0 q := fun q h => by rw [← hAe]; exact Or.inr h
  have hl := lv_entry ([.ref (h 0), .int (nI 2), .int (nI 1)]) (n := 4) (Nat.le_of_ble_eq_true rfl)
  rw [lg_entry_eq]
  generalize (lg_sl ([.ref (h 0), .int (nI 2), .int (nI 1)]) ++ List.replicate (4 - (lg_sl ([.ref (h 0), .int (nI 2), .int (nI 1)])).length) Slot.unset).toArray = ls at hl ⊢
  have hl : lv_has ls 4 [(0, .ref (h 0)), (1, .int (nI 2)), (2, .int (nI 1))] := hl
  generalize hH : s.heap = H at hP ⊢
  have hS : va_S A0 s.heap H [] := by rw [← hH]; exact va_S.rf
  have hinX10 : ∀ w ∈ wsX100, w ∈ wsX10_isAhead := by decide +kernel
  refine lv_iconst (v := nI 0) hx hb dX10_isAhead_0 (by decide) ?_
  refine lv_istore_n (lv' := [(3, .int (nI 0)), (0, .ref (h 0)), (1, .int (nI 2)), (2, .int (nI 1))]) hx hb dX10_isAhead_1 rfl hl (by decide) rfl (fun ls hl => ?_)
  refine lv_iload_n hx hb dX10_isAhead_2 rfl (lv_at hl 0 rfl) ?_
  refine lv_aload_n hx hb dX10_isAhead_3 rfl (lv_at hl 1 rfl) ?_
  refine va_get (D := (dC, dI)) (ci := 10) (v := .int (gI 1)) (C := RX10) (T := TX10) (N := 28) hx hb hts hinX10 hown hK hP 0 rfl rfl 1 (by decide) (hts (.fieldLink RX10 13 "MixedWordsModel" "columns" "I") (by decide +kernel)) (fun _ h9 => h9) rfl dX10_isAhead_4 ?_
  refine xt_i (y := nI 2) (by decide +kernel) ?_
  refine lv_icmp_ge (tgt := 29) hx hb dX10_isAhead_7 (by decide) (fun c9 => False.elim (by revert c9; decide +kernel)) (fun _ => ?_)
  refine lv_iload_n hx hb dX10_isAhead_10 rfl (lv_at hl 2 rfl) ?_
  refine lv_iload_n hx hb dX10_isAhead_11 rfl (lv_at hl 0 rfl) ?_
  refine lv_ishr hx hb dX10_isAhead_12 ?_
  refine xt_i (y := nI 2) (by decide +kernel) ?_
  refine lv_iconst (v := nI 1) hx hb dX10_isAhead_13 (by decide) ?_
  refine lv_iand hx hb dX10_isAhead_14 ?_
  refine xt_i (y := nI 0) (by decide +kernel) ?_
  refine lv_iload_n hx hb dX10_isAhead_15 rfl (lv_at hl 3 rfl) ?_
  refine lv_iload_n hx hb dX10_isAhead_16 rfl (lv_at hl 0 rfl) ?_
  refine lv_ishr hx hb dX10_isAhead_17 ?_
  refine xt_i (y := nI 1) (by decide +kernel) ?_
  refine lv_iconst (v := nI 1) hx hb dX10_isAhead_18 (by decide) ?_
  refine lv_iand hx hb dX10_isAhead_19 ?_
  refine xt_i (y := nI 1) (by decide +kernel) ?_
  refine lv_icmp_ne (tgt := 29) hx hb dX10_isAhead_20 (by decide) (fun _ => ?_) (fun c9 => False.elim (by revert c9; decide +kernel))
  refine lv_iload_n hx hb dX10_isAhead_29 rfl (lv_at hl 0 rfl) ?_
  refine lv_aload_n hx hb dX10_isAhead_30 rfl (lv_at hl 1 rfl) ?_
  refine va_get (D := (dC, dI)) (ci := 10) (v := .int (gI 1)) (C := RX10) (T := TX10) (N := 28) hx hb hts hinX10 hown hK hP 0 rfl rfl 1 (by decide) (hts (.fieldLink RX10 13 "MixedWordsModel" "columns" "I") (by decide +kernel)) (fun _ h9 => h9) rfl dX10_isAhead_31 ?_
  refine xt_i (y := nI 2) (by decide +kernel) ?_
  refine lv_icmp_ge (tgt := 50) hx hb dX10_isAhead_34 (by decide) (fun c9 => False.elim (by revert c9; decide +kernel)) (fun _ => ?_)
  refine lv_iload_n hx hb dX10_isAhead_37 rfl (lv_at hl 2 rfl) ?_
  refine lv_iload_n hx hb dX10_isAhead_38 rfl (lv_at hl 0 rfl) ?_
  refine lv_ishr hx hb dX10_isAhead_39 ?_
  refine xt_i (y := nI 2) (by decide +kernel) ?_
  refine lv_iconst (v := nI 1) hx hb dX10_isAhead_40 (by decide) ?_
  refine lv_iand hx hb dX10_isAhead_41 ?_
  refine xt_i (y := nI 0) (by decide +kernel) ?_
  refine lv_iconst (v := nI 1) hx hb dX10_isAhead_42 (by decide) ?_
  refine lv_icmp_ne (tgt := 50) hx hb dX10_isAhead_43 (by decide) (fun _ => ?_) (fun c9 => False.elim (by revert c9; decide +kernel))
  refine lv_iconst (v := nI 0) hx hb dX10_isAhead_50 (by decide) ?_
  exact xr_z (v := (nI 0)) hx hb hr hlocks hK hS dX10_isAhead_51 (rfl) (gI, gL, qA_210, gQ) ⟨rfl, rfl⟩ hP hD
set_option maxHeartbeats 4000000 in
set_option maxRecDepth 100000 in
theorem a_X10_in_227 (l : Launch) (dC : Nat → ClassId) (dI : Nat → Nat → Nat) (h : Nat → Nat) (cs : Nat → ClassId) (sz : Nat) (I : Nat → Int32) (L : Nat → Int64) (A : Nat → Nat → Int32) (Q : Nat → Nat → Int64) : Met l yX10_in wsX10_in ({ frames := 0, cells := 0, slots := 0, locals := 0 }) (va_Pc [.long (2 : Int64), .long (1 : Int64), .long (2 : Int64)] (xPre (dC, dI) ([] : va_W) (tysA cs) sz)) (va_Qi (fun (r : Int32) (u : RS) => (r = nI 1) ∧ u = (I, L, A, Q)) (xB (dC, dI) (tysA cs) (va_A ([] : va_W) sz) (fun _ : RS => ([] : va_W))) (va_A ([] : va_W) sz)) 0 0 (va_A ([] : va_W) sz) := by
  refine Met.ofW (cc := cX10_in) (maxL := 6) (ret := (some .boolean)) (by decide) rfl ?_
  intro p e s m args below meth c s₁ B hml hv
  obtain ⟨rfl, hsz, hP, hK, hD0, hN⟩ := hv
  have hx := B.exec
  have hb := B.bytes
  have hr := B.returns
  have hts := atoms_spec (ws := wsX10_in) B.pre
  have hown : s.vm.findClass RX10 = some m.cls := findClass_of_methodNamed B.named
  have hlocks := B.notSynchronized
  subst hsz
  have hD := hD0.self (sz := s.heap.size)
  generalize hAe : va_A ([] : va_W) s.heap.size = A0 at hD ⊢
  have hA : ∀ q : Nat, s.heap.size ≤ q → A0 q := fun q h => by rw [← hAe]; exact Or.inr h
  have hl := lv_entry ([.long (2 : Int64), .long (1 : Int64), .long (2 : Int64)]) (n := 6) (Nat.le_of_ble_eq_true rfl)
  rw [lg_entry_eq]
  generalize (lg_sl ([.long (2 : Int64), .long (1 : Int64), .long (2 : Int64)]) ++ List.replicate (6 - (lg_sl ([.long (2 : Int64), .long (1 : Int64), .long (2 : Int64)])).length) Slot.unset).toArray = ls at hl ⊢
  have hl : lv_has ls 6 [(0, .long (2 : Int64)), (2, .long (1 : Int64)), (4, .long (2 : Int64))] := hl
  generalize hH : s.heap = H at hP ⊢
  have hS : va_S A0 s.heap H [] := by rw [← hH]; exact va_S.rf
  refine lv_lload_n hx hb dX10_in_0 rfl (lv_at hl 0 rfl) ?_
  refine lv_lload_n hx hb dX10_in_1 rfl (lv_at hl 1 rfl) ?_
  refine xl_lt (tgt := 17) hx hb dX10_in_2 dX10_in_3 (by decide) (fun c9 => False.elim (by revert c9; decide +kernel)) (fun _ => ?_)
  refine lv_lload_n hx hb dX10_in_6 rfl (lv_at hl 0 rfl) ?_
  refine lv_lload hx hb dX10_in_7 (lv_at hl 2 rfl) ?_
  refine xl_gt (tgt := 17) hx hb dX10_in_9 dX10_in_10 (by decide) (fun c9 => False.elim (by revert c9; decide +kernel)) (fun _ => ?_)
  refine lv_iconst (v := nI 1) hx hb dX10_in_13 (by decide) ?_
  refine lv_goto (tgt := 18) hx hb dX10_in_14 (by decide) ?_
  exact xr_z (v := (nI 1)) hx hb hr hlocks hK hS dX10_in_18 (rfl) (I, L, A, Q) ⟨rfl, rfl⟩ hP hD
set_option maxHeartbeats 4000000 in
set_option maxRecDepth 100000 in
theorem f_X10_chosen (l : Launch) (dC : Nat → ClassId) (dI : Nat → Nat → Nat) (h : Nat → Nat) (cs : Nat → ClassId) (sz : Nat) (I : Nat → Int32) (L : Nat → Int64) (A : Nat → Nat → Int32) (Q : Nat → Nat → Int64) (x : Int32) : Met l yX10_chosen wsX10_chosen ({ frames := 2, cells := 0, slots := 0, locals := 55 }) (va_Pc [.ref (h 0), .int x] (xPre (dC, dI) (rW h cs gI gL gA gQ) (tysA cs) sz)) (va_Qi (fun (r : Int32) (u : RS) => ∃ za9 : Nat → Nat → Int32, (r = an_chosen x) ∧ u = (gI, gL, za9, gQ)) (xB (dC, dI) (tysA cs) (va_A (rW h cs gI gL gA gQ) sz) (fun u : RS => rW h cs u.1 u.2.1 u.2.2.1 u.2.2.2)) (va_A (rW h cs gI gL gA gQ) sz)) 0 0 (va_A (rW h cs gI gL gA gQ) sz) := by
  refine Met.ofW (cc := cX10_chosen) (maxL := 9) (ret := (some .int)) (by decide) rfl ?_
  intro p e s m args below meth c s₁ B hml hv
  obtain ⟨rfl, hsz, hP, hK, hD0, hN⟩ := hv
  have hx := B.exec
  have hb := B.bytes
  have hr := B.returns
  have hts := atoms_spec (ws := wsX10_chosen) B.pre
  have hown : s.vm.findClass RX10 = some m.cls := findClass_of_methodNamed B.named
  have hlocks := B.notSynchronized
  subst hsz
  have hD := hD0.self (sz := s.heap.size)
  generalize hAe : va_A (rW h cs gI gL gA gQ) s.heap.size = A0 at hD ⊢
  have hA : ∀ q : Nat, s.heap.size ≤ q → A0 q := fun q h => by rw [← hAe]; exact Or.inr h
  have hl := lv_entry ([.ref (h 0), .int x]) (n := 9) (Nat.le_of_ble_eq_true rfl)
  rw [lg_entry_eq]
  generalize (lg_sl ([.ref (h 0), .int x]) ++ List.replicate (9 - (lg_sl ([.ref (h 0), .int x])).length) Slot.unset).toArray = ls at hl ⊢
  have hl : lv_has ls 9 [(0, .ref (h 0)), (1, .int x)] := hl
  generalize hH : s.heap = H at hP ⊢
  have hS : va_S A0 s.heap H [] := by rw [← hH]; exact va_S.rf
  have hinX10 : ∀ w ∈ wsX100, w ∈ wsX10_chosen := by decide +kernel
  rcases splR x 1 2 (by decide) with ⟨i_x, h_x, g_x, rfl⟩ | hz_x
  · skip
    rcases (show i_x = 1 ∨ i_x = 2 by omega) with rfl | rfl
    · skip
      refine lv_iload_n hx hb dX10_chosen_0 rfl (lv_at hl 1 rfl) ?_
      refine lv_i2l (v := (1 : Int64)) hx hb dX10_chosen_1 (by decide +kernel) ?_
      refine lv_lconst (v := 1) hx hb dX10_chosen_2 rfl ?_
      refine lv_aload_n hx hb dX10_chosen_3 rfl (lv_at hl 0 rfl) ?_
      refine va_get (D := (dC, dI)) (ci := 10) (v := .int (gI 1)) (C := RX10) (T := TX10) (N := 28) hx hb hts hinX10 hown hK hP 0 rfl rfl 1 (by decide) (hts (.fieldLink RX10 13 "MixedWordsModel" "columns" "I") (by decide +kernel)) (fun _ h9 => h9) rfl dX10_chosen_4 ?_
      refine xt_i (y := nI 2) (by decide +kernel) ?_
      refine lv_i2l (v := (2 : Int64)) hx hb dX10_chosen_7 (by decide +kernel) ?_
      refine xj_i (wc := ([] : va_W)) (wr := (rW h cs gI gL gA gQ)) hP hD hS hA [] [0, 1, 2, 3, 4, 5, 6, 7, 8, 9, 10, 11, 12, 13, 14, 15, 16] rfl rfl (by decide) (by decide) (va_runS (As := [.long (1 : Int64), .long (1 : Int64), .long (2 : Int64)]) (rest := []) ⟨hx, hb, hml, hown, hts⟩ (a_X10_in_225 l dC dI h cs H.size I L A Q ) (va_cwS 3 hts gX10_chosen_X10_in rfl rfl rfl (by decide +kernel) ⟨Nat.le_of_ble_eq_true rfl, Nat.le_of_ble_eq_true rfl⟩) (xpS (wc := ([] : va_W)) hP hD hK hN [] rfl (by decide) _) rfl rfl hl.1 rfl (lv_room (Nat.le_of_ble_eq_true rfl)) dX10_chosen_8 ⟨Nat.zero_le _, Nat.zero_le _⟩) (fun r_2 u_1 H locs hw hP hD hS => ?_)
      obtain ⟨hf_3, rfl⟩ := hw
      have hP : va_P (dC, dI) vwCl (rW h cs gI gL gA gQ) H := hP
      have hD : va_D A0 (rW h cs gI gL gA gQ) := hD
      obtain rfl := hf_3
      refine lv_if_ne (tgt := 16) hx hb dX10_chosen_11 (by decide) (fun _ => ?_) (fun c9 => False.elim (by revert c9; decide +kernel))
      refine lv_aload_n hx hb dX10_chosen_16 rfl (lv_at hl 0 rfl) ?_
      refine xj_v (wc := (wD_177 h cs gI gL gA gQ)) (wr := ([] : va_W)) hP hD hS hA [0, 1, 2, 3, 4, 5, 6, 7, 8, 9, 10, 11, 12, 13, 14, 15, 16] [] rfl rfl (by decide) (by decide) (va_runV (As := []) (rest := []) ⟨hx, hb, hml, hown, hts⟩ (a_X10_lay_209 l dC dI h cs H.size gI gL gA gQ ) (cwV 0 hts gX10_chosen_X10_lay rfl rfl rfl (by decide +kernel) ⟨Nat.le_of_ble_eq_true rfl, Nat.le_of_ble_eq_true rfl⟩) (xpV (wc := (wD_177 h cs gI gL gA gQ)) hP hD hK hN [0, 1, 2, 3, 4, 5, 6, 7, 8, 9, 10, 11, 12, 13, 14, 15, 16] rfl (by decide) 0 (ci := 10) rfl rfl _) rfl rfl hl.1 rfl (lv_room (Nat.le_of_ble_eq_true rfl)) dX10_chosen_17 ⟨Nat.zero_le _, Nat.zero_le _⟩) (fun u_4 H locs hw hP hD hS => ?_)
      obtain ⟨hf_6, rfl⟩ := hw
      have hP : va_P (dC, dI) vwCl (rW h cs gI gL qA_210 gQ) H := hP
      have hD : va_D A0 (rW h cs gI gL qA_210 gQ) := hD
      refine lv_iconst (v := nI 0) hx hb dX10_chosen_20 (by decide) ?_
      refine lv_istore_n (lv' := [(2, .int (nI 0)), (0, .ref (h 0)), (1, .int (nI 1))]) hx hb dX10_chosen_21 rfl hl (by decide) rfl (fun ls hl => ?_)
      refine lv_ldc2 (v := (-1)) hx hb hown (hts (.constantLong RX10 185 (-1)) (by decide +kernel)) dX10_chosen_22 ?_
      refine lv_lstore_n (lv' := [(3, .long (-1 : Int64)), (2, .int (nI 0)), (0, .ref (h 0)), (1, .int (nI 1))]) hx hb dX10_chosen_25 rfl hl (by decide) rfl (fun ls hl => ?_)
      refine lv_iconst (v := nI 1) hx hb dX10_chosen_26 (by decide) ?_
      refine lv_istore (lv' := [(5, .int (nI 1)), (3, .long (-1 : Int64)), (2, .int (nI 0)), (0, .ref (h 0)), (1, .int (nI 1))]) hx hb dX10_chosen_27 hl (by decide) rfl (fun ls hl => ?_)
      refine lv_iload hx hb dX10_chosen_29 (lv_at hl 0 rfl) ?_
      refine lv_aload_n hx hb dX10_chosen_31 rfl (lv_at hl 3 rfl) ?_
      refine xj_i (wc := (wD_177 h cs gI gL qA_210 gQ)) (wr := ([] : va_W)) hP hD hS hA [0, 1, 2, 3, 4, 5, 6, 7, 8, 9, 10, 11, 12, 13, 14, 15, 16] [] rfl rfl (by decide) (by decide) (va_runV (As := []) (rest := [.int (nI 1)]) ⟨hx, hb, hml, hown, hts⟩ (a_X10_whole_222 l dC dI h cs H.size gI gL qA_210 gQ ) (cwV 0 hts gX10_chosen_X10_whole rfl rfl rfl (by decide +kernel) ⟨Nat.le_of_ble_eq_true rfl, Nat.le_of_ble_eq_true rfl⟩) (xpV (wc := (wD_177 h cs gI gL qA_210 gQ)) hP hD hK hN [0, 1, 2, 3, 4, 5, 6, 7, 8, 9, 10, 11, 12, 13, 14, 15, 16] rfl (by decide) 0 (ci := 10) rfl rfl _) rfl rfl hl.1 rfl (lv_room (Nat.le_of_ble_eq_true rfl)) dX10_chosen_32 ⟨Nat.zero_le _, Nat.zero_le _⟩) (fun r_8 u_7 H locs hw hP hD hS => ?_)
      obtain ⟨hf_9, rfl⟩ := hw
      have hP : va_P (dC, dI) vwCl (rW h cs gI gL qA_210 gQ) H := hP
      have hD : va_D A0 (rW h cs gI gL qA_210 gQ) := hD
      obtain rfl := hf_9
      refine lv_icmp_gt (tgt := 121) hx hb dX10_chosen_35 (by decide) (fun c9 => False.elim (by revert c9; decide +kernel)) (fun _ => ?_)
      refine lv_iconst (v := nI 0) hx hb dX10_chosen_38 (by decide) ?_
      refine lv_istore (lv' := [(6, .int (nI 0)), (5, .int (nI 1)), (3, .long (-1 : Int64)), (2, .int (nI 0)), (0, .ref (h 0)), (1, .int (nI 1))]) hx hb dX10_chosen_39 hl (by decide) rfl (fun ls hl => ?_)
      refine lv_iconst (v := nI 0) hx hb dX10_chosen_41 (by decide) ?_
      refine lv_istore (lv' := [(7, .int (nI 0)), (6, .int (nI 0)), (5, .int (nI 1)), (3, .long (-1 : Int64)), (2, .int (nI 0)), (0, .ref (h 0)), (1, .int (nI 1))]) hx hb dX10_chosen_42 hl (by decide) rfl (fun ls hl => ?_)
      refine lv_iload hx hb dX10_chosen_44 (lv_at hl 0 rfl) ?_
      refine lv_aload_n hx hb dX10_chosen_46 rfl (lv_at hl 5 rfl) ?_
      refine va_get (D := (dC, dI)) (ci := 10) (v := .int (gI 1)) (C := RX10) (T := TX10) (N := 28) hx hb hts hinX10 hown hK hP 0 rfl rfl 1 (by decide) (hts (.fieldLink RX10 13 "MixedWordsModel" "columns" "I") (by decide +kernel)) (fun _ h9 => h9) rfl dX10_chosen_47 ?_
      refine xt_i (y := nI 2) (by decide +kernel) ?_
      refine lv_icmp_ge (tgt := 71) hx hb dX10_chosen_50 (by decide) (fun c9 => False.elim (by revert c9; decide +kernel)) (fun _ => ?_)
      refine lv_iload hx hb dX10_chosen_53 (lv_at hl 1 rfl) ?_
      refine lv_iload hx hb dX10_chosen_55 (lv_at hl 2 rfl) ?_
      refine lv_iload hx hb dX10_chosen_57 (lv_at hl 0 rfl) ?_
      refine lv_ishr hx hb dX10_chosen_59 ?_
      refine xt_i (y := nI 1) (by decide +kernel) ?_
      refine lv_iconst (v := nI 1) hx hb dX10_chosen_60 (by decide) ?_
      refine lv_iand hx hb dX10_chosen_61 ?_
      refine xt_i (y := nI 1) (by decide +kernel) ?_
      refine lv_iadd hx hb dX10_chosen_62 ?_
      refine xt_i (y := nI 1) (by decide +kernel) ?_
      refine lv_istore (lv' := [(6, .int (nI 1)), (7, .int (nI 0)), (5, .int (nI 1)), (3, .long (-1 : Int64)), (2, .int (nI 0)), (0, .ref (h 0)), (1, .int (nI 1))]) hx hb dX10_chosen_63 hl (by decide) rfl (fun ls hl => ?_)
      refine lv_iinc (v := nI 1) (lv' := [(7, .int (nI 1)), (6, .int (nI 1)), (5, .int (nI 1)), (3, .long (-1 : Int64)), (2, .int (nI 0)), (0, .ref (h 0)), (1, .int (nI 1))]) hx hb dX10_chosen_65 hl (k := 1) rfl (by decide +kernel) (by decide) rfl (fun ls hl => ?_)
      refine lv_goto (tgt := 44) hx hb dX10_chosen_68 (by decide) ?_
      refine lv_iload hx hb dX10_chosen_44 (lv_at hl 0 rfl) ?_
      refine lv_aload_n hx hb dX10_chosen_46 rfl (lv_at hl 5 rfl) ?_
      refine va_get (D := (dC, dI)) (ci := 10) (v := .int (gI 1)) (C := RX10) (T := TX10) (N := 28) hx hb hts hinX10 hown hK hP 0 rfl rfl 1 (by decide) (hts (.fieldLink RX10 13 "MixedWordsModel" "columns" "I") (by decide +kernel)) (fun _ h9 => h9) rfl dX10_chosen_47 ?_
      refine xt_i (y := nI 2) (by decide +kernel) ?_
      refine lv_icmp_ge (tgt := 71) hx hb dX10_chosen_50 (by decide) (fun c9 => False.elim (by revert c9; decide +kernel)) (fun _ => ?_)
      refine lv_iload hx hb dX10_chosen_53 (lv_at hl 1 rfl) ?_
      refine lv_iload hx hb dX10_chosen_55 (lv_at hl 2 rfl) ?_
      refine lv_iload hx hb dX10_chosen_57 (lv_at hl 0 rfl) ?_
      refine lv_ishr hx hb dX10_chosen_59 ?_
      refine xt_i (y := nI 0) (by decide +kernel) ?_
      refine lv_iconst (v := nI 1) hx hb dX10_chosen_60 (by decide) ?_
      refine lv_iand hx hb dX10_chosen_61 ?_
      refine xt_i (y := nI 0) (by decide +kernel) ?_
      refine lv_iadd hx hb dX10_chosen_62 ?_
      refine xt_i (y := nI 1) (by decide +kernel) ?_
      refine lv_istore (lv' := [(6, .int (nI 1)), (7, .int (nI 1)), (5, .int (nI 1)), (3, .long (-1 : Int64)), (2, .int (nI 0)), (0, .ref (h 0)), (1, .int (nI 1))]) hx hb dX10_chosen_63 hl (by decide) rfl (fun ls hl => ?_)
      refine lv_iinc (v := nI 2) (lv' := [(7, .int (nI 2)), (6, .int (nI 1)), (5, .int (nI 1)), (3, .long (-1 : Int64)), (2, .int (nI 0)), (0, .ref (h 0)), (1, .int (nI 1))]) hx hb dX10_chosen_65 hl (k := 1) rfl (by decide +kernel) (by decide) rfl (fun ls hl => ?_)
      refine lv_goto (tgt := 44) hx hb dX10_chosen_68 (by decide) ?_
      refine lv_iload hx hb dX10_chosen_44 (lv_at hl 0 rfl) ?_
      refine lv_aload_n hx hb dX10_chosen_46 rfl (lv_at hl 5 rfl) ?_
      refine va_get (D := (dC, dI)) (ci := 10) (v := .int (gI 1)) (C := RX10) (T := TX10) (N := 28) hx hb hts hinX10 hown hK hP 0 rfl rfl 1 (by decide) (hts (.fieldLink RX10 13 "MixedWordsModel" "columns" "I") (by decide +kernel)) (fun _ h9 => h9) rfl dX10_chosen_47 ?_
      refine xt_i (y := nI 2) (by decide +kernel) ?_
      refine lv_icmp_ge (tgt := 71) hx hb dX10_chosen_50 (by decide) (fun _ => ?_) (fun c9 => False.elim (by revert c9; decide +kernel))
      refine lv_iload hx hb dX10_chosen_71 (lv_at hl 1 rfl) ?_
      refine lv_iload_n hx hb dX10_chosen_73 rfl (lv_at hl 6 rfl) ?_
      refine lv_icmp_ne (tgt := 115) hx hb dX10_chosen_74 (by decide) (fun c9 => False.elim (by revert c9; decide +kernel)) (fun _ => ?_)
      refine lv_aload_n hx hb dX10_chosen_77 rfl (lv_at hl 5 rfl) ?_
      refine lv_iload hx hb dX10_chosen_78 (lv_at hl 2 rfl) ?_
      refine xj_l (wc := (wD_177 h cs gI gL qA_210 gQ)) (wr := ([] : va_W)) hP hD hS hA [0, 1, 2, 3, 4, 5, 6, 7, 8, 9, 10, 11, 12, 13, 14, 15, 16] [] rfl rfl (by decide) (by decide) (va_runV (As := [.int (nI 1)]) (rest := []) ⟨hx, hb, hml, hown, hts⟩ (a_X10_worthOf_211 l dC dI h cs H.size gI gL qA_210 gQ ) (cwV 1 hts gX10_chosen_X10_worthOf rfl rfl rfl (by decide +kernel) ⟨Nat.le_of_ble_eq_true rfl, Nat.le_of_ble_eq_true rfl⟩) (xpV (wc := (wD_177 h cs gI gL qA_210 gQ)) hP hD hK hN [0, 1, 2, 3, 4, 5, 6, 7, 8, 9, 10, 11, 12, 13, 14, 15, 16] rfl (by decide) 0 (ci := 10) rfl rfl _) rfl rfl hl.1 rfl (lv_room (Nat.le_of_ble_eq_true rfl)) dX10_chosen_80 ⟨Nat.zero_le _, Nat.zero_le _⟩) (fun r_11 u_10 H locs hw hP hD hS => ?_)
      obtain ⟨hf_12, rfl⟩ := hw
      have hP : va_P (dC, dI) vwCl (rW h cs gI gL qA_210 gQ) H := hP
      have hD : va_D A0 (rW h cs gI gL qA_210 gQ) := hD
      obtain rfl := hf_12
      refine lv_lstore (lv' := [(7, .long (0 : Int64)), (6, .int (nI 1)), (5, .int (nI 1)), (3, .long (-1 : Int64)), (2, .int (nI 0)), (0, .ref (h 0)), (1, .int (nI 1))]) hx hb dX10_chosen_83 hl (by decide) rfl (fun ls hl => ?_)
      refine lv_lload hx hb dX10_chosen_85 (lv_at hl 0 rfl) ?_
      refine lv_lload_n hx hb dX10_chosen_87 rfl (lv_at hl 3 rfl) ?_
      refine xl_gt (tgt := 109) hx hb dX10_chosen_88 dX10_chosen_89 (by decide) (fun _ => ?_) (fun c9 => False.elim (by revert c9; decide +kernel))
      refine lv_lload hx hb dX10_chosen_109 (lv_at hl 0 rfl) ?_
      refine lv_lstore_n (lv' := [(3, .long (0 : Int64)), (7, .long (0 : Int64)), (6, .int (nI 1)), (5, .int (nI 1)), (2, .int (nI 0)), (0, .ref (h 0)), (1, .int (nI 1))]) hx hb dX10_chosen_111 rfl hl (by decide) rfl (fun ls hl => ?_)
      refine lv_iload hx hb dX10_chosen_112 (lv_at hl 3 rfl) ?_
      refine lv_istore_n (lv' := [(2, .int (nI 1)), (3, .long (0 : Int64)), (7, .long (0 : Int64)), (6, .int (nI 1)), (5, .int (nI 1)), (0, .ref (h 0)), (1, .int (nI 1))]) hx hb dX10_chosen_114 rfl hl (by decide) rfl (fun ls hl => ?_)
      refine lv_iinc (v := nI 2) (lv' := [(5, .int (nI 2)), (2, .int (nI 1)), (3, .long (0 : Int64)), (7, .long (0 : Int64)), (6, .int (nI 1)), (0, .ref (h 0)), (1, .int (nI 1))]) hx hb dX10_chosen_115 hl (k := 4) rfl (by decide +kernel) (by decide) rfl (fun ls hl => ?_)
      refine lv_goto (tgt := 29) hx hb dX10_chosen_118 (by decide) ?_
      refine lv_iload hx hb dX10_chosen_29 (lv_at hl 0 rfl) ?_
      refine lv_aload_n hx hb dX10_chosen_31 rfl (lv_at hl 5 rfl) ?_
      refine xj_i (wc := (wD_177 h cs gI gL qA_210 gQ)) (wr := ([] : va_W)) hP hD hS hA [0, 1, 2, 3, 4, 5, 6, 7, 8, 9, 10, 11, 12, 13, 14, 15, 16] [] rfl rfl (by decide) (by decide) (va_runV (As := []) (rest := [.int (nI 2)]) ⟨hx, hb, hml, hown, hts⟩ (a_X10_whole_222 l dC dI h cs H.size gI gL qA_210 gQ ) (cwV 0 hts gX10_chosen_X10_whole rfl rfl rfl (by decide +kernel) ⟨Nat.le_of_ble_eq_true rfl, Nat.le_of_ble_eq_true rfl⟩) (xpV (wc := (wD_177 h cs gI gL qA_210 gQ)) hP hD hK hN [0, 1, 2, 3, 4, 5, 6, 7, 8, 9, 10, 11, 12, 13, 14, 15, 16] rfl (by decide) 0 (ci := 10) rfl rfl _) rfl rfl hl.1 rfl (lv_room (Nat.le_of_ble_eq_true rfl)) dX10_chosen_32 ⟨Nat.zero_le _, Nat.zero_le _⟩) (fun r_14 u_13 H locs hw hP hD hS => ?_)
      obtain ⟨hf_15, rfl⟩ := hw
      have hP : va_P (dC, dI) vwCl (rW h cs gI gL qA_210 gQ) H := hP
      have hD : va_D A0 (rW h cs gI gL qA_210 gQ) := hD
      obtain rfl := hf_15
      refine lv_icmp_gt (tgt := 121) hx hb dX10_chosen_35 (by decide) (fun c9 => False.elim (by revert c9; decide +kernel)) (fun _ => ?_)
      refine lv_iconst (v := nI 0) hx hb dX10_chosen_38 (by decide) ?_
      refine lv_istore (lv' := [(6, .int (nI 0)), (5, .int (nI 2)), (2, .int (nI 1)), (3, .long (0 : Int64)), (7, .long (0 : Int64)), (0, .ref (h 0)), (1, .int (nI 1))]) hx hb dX10_chosen_39 hl (by decide) rfl (fun ls hl => ?_)
      refine lv_iconst (v := nI 0) hx hb dX10_chosen_41 (by decide) ?_
      refine lv_istore (lv' := [(7, .int (nI 0)), (6, .int (nI 0)), (5, .int (nI 2)), (2, .int (nI 1)), (3, .long (0 : Int64)), (0, .ref (h 0)), (1, .int (nI 1))]) hx hb dX10_chosen_42 hl (by decide) rfl (fun ls hl => ?_)
      refine lv_iload hx hb dX10_chosen_44 (lv_at hl 0 rfl) ?_
      refine lv_aload_n hx hb dX10_chosen_46 rfl (lv_at hl 5 rfl) ?_
      refine va_get (D := (dC, dI)) (ci := 10) (v := .int (gI 1)) (C := RX10) (T := TX10) (N := 28) hx hb hts hinX10 hown hK hP 0 rfl rfl 1 (by decide) (hts (.fieldLink RX10 13 "MixedWordsModel" "columns" "I") (by decide +kernel)) (fun _ h9 => h9) rfl dX10_chosen_47 ?_
      refine xt_i (y := nI 2) (by decide +kernel) ?_
      refine lv_icmp_ge (tgt := 71) hx hb dX10_chosen_50 (by decide) (fun c9 => False.elim (by revert c9; decide +kernel)) (fun _ => ?_)
      refine lv_iload hx hb dX10_chosen_53 (lv_at hl 1 rfl) ?_
      refine lv_iload hx hb dX10_chosen_55 (lv_at hl 2 rfl) ?_
      refine lv_iload hx hb dX10_chosen_57 (lv_at hl 0 rfl) ?_
      refine lv_ishr hx hb dX10_chosen_59 ?_
      refine xt_i (y := nI 2) (by decide +kernel) ?_
      refine lv_iconst (v := nI 1) hx hb dX10_chosen_60 (by decide) ?_
      refine lv_iand hx hb dX10_chosen_61 ?_
      refine xt_i (y := nI 0) (by decide +kernel) ?_
      refine lv_iadd hx hb dX10_chosen_62 ?_
      refine xt_i (y := nI 0) (by decide +kernel) ?_
      refine lv_istore (lv' := [(6, .int (nI 0)), (7, .int (nI 0)), (5, .int (nI 2)), (2, .int (nI 1)), (3, .long (0 : Int64)), (0, .ref (h 0)), (1, .int (nI 1))]) hx hb dX10_chosen_63 hl (by decide) rfl (fun ls hl => ?_)
      refine lv_iinc (v := nI 1) (lv' := [(7, .int (nI 1)), (6, .int (nI 0)), (5, .int (nI 2)), (2, .int (nI 1)), (3, .long (0 : Int64)), (0, .ref (h 0)), (1, .int (nI 1))]) hx hb dX10_chosen_65 hl (k := 1) rfl (by decide +kernel) (by decide) rfl (fun ls hl => ?_)
      refine lv_goto (tgt := 44) hx hb dX10_chosen_68 (by decide) ?_
      refine lv_iload hx hb dX10_chosen_44 (lv_at hl 0 rfl) ?_
      refine lv_aload_n hx hb dX10_chosen_46 rfl (lv_at hl 5 rfl) ?_
      refine va_get (D := (dC, dI)) (ci := 10) (v := .int (gI 1)) (C := RX10) (T := TX10) (N := 28) hx hb hts hinX10 hown hK hP 0 rfl rfl 1 (by decide) (hts (.fieldLink RX10 13 "MixedWordsModel" "columns" "I") (by decide +kernel)) (fun _ h9 => h9) rfl dX10_chosen_47 ?_
      refine xt_i (y := nI 2) (by decide +kernel) ?_
      refine lv_icmp_ge (tgt := 71) hx hb dX10_chosen_50 (by decide) (fun c9 => False.elim (by revert c9; decide +kernel)) (fun _ => ?_)
      refine lv_iload hx hb dX10_chosen_53 (lv_at hl 1 rfl) ?_
      refine lv_iload hx hb dX10_chosen_55 (lv_at hl 2 rfl) ?_
      refine lv_iload hx hb dX10_chosen_57 (lv_at hl 0 rfl) ?_
      refine lv_ishr hx hb dX10_chosen_59 ?_
      refine xt_i (y := nI 1) (by decide +kernel) ?_
      refine lv_iconst (v := nI 1) hx hb dX10_chosen_60 (by decide) ?_
      refine lv_iand hx hb dX10_chosen_61 ?_
      refine xt_i (y := nI 1) (by decide +kernel) ?_
      refine lv_iadd hx hb dX10_chosen_62 ?_
      refine xt_i (y := nI 1) (by decide +kernel) ?_
      refine lv_istore (lv' := [(6, .int (nI 1)), (7, .int (nI 1)), (5, .int (nI 2)), (2, .int (nI 1)), (3, .long (0 : Int64)), (0, .ref (h 0)), (1, .int (nI 1))]) hx hb dX10_chosen_63 hl (by decide) rfl (fun ls hl => ?_)
      refine lv_iinc (v := nI 2) (lv' := [(7, .int (nI 2)), (6, .int (nI 1)), (5, .int (nI 2)), (2, .int (nI 1)), (3, .long (0 : Int64)), (0, .ref (h 0)), (1, .int (nI 1))]) hx hb dX10_chosen_65 hl (k := 1) rfl (by decide +kernel) (by decide) rfl (fun ls hl => ?_)
      refine lv_goto (tgt := 44) hx hb dX10_chosen_68 (by decide) ?_
      refine lv_iload hx hb dX10_chosen_44 (lv_at hl 0 rfl) ?_
      refine lv_aload_n hx hb dX10_chosen_46 rfl (lv_at hl 5 rfl) ?_
      refine va_get (D := (dC, dI)) (ci := 10) (v := .int (gI 1)) (C := RX10) (T := TX10) (N := 28) hx hb hts hinX10 hown hK hP 0 rfl rfl 1 (by decide) (hts (.fieldLink RX10 13 "MixedWordsModel" "columns" "I") (by decide +kernel)) (fun _ h9 => h9) rfl dX10_chosen_47 ?_
      refine xt_i (y := nI 2) (by decide +kernel) ?_
      refine lv_icmp_ge (tgt := 71) hx hb dX10_chosen_50 (by decide) (fun _ => ?_) (fun c9 => False.elim (by revert c9; decide +kernel))
      refine lv_iload hx hb dX10_chosen_71 (lv_at hl 1 rfl) ?_
      refine lv_iload_n hx hb dX10_chosen_73 rfl (lv_at hl 6 rfl) ?_
      refine lv_icmp_ne (tgt := 115) hx hb dX10_chosen_74 (by decide) (fun c9 => False.elim (by revert c9; decide +kernel)) (fun _ => ?_)
      refine lv_aload_n hx hb dX10_chosen_77 rfl (lv_at hl 5 rfl) ?_
      refine lv_iload hx hb dX10_chosen_78 (lv_at hl 2 rfl) ?_
      refine xj_l (wc := (wD_177 h cs gI gL qA_210 gQ)) (wr := ([] : va_W)) hP hD hS hA [0, 1, 2, 3, 4, 5, 6, 7, 8, 9, 10, 11, 12, 13, 14, 15, 16] [] rfl rfl (by decide) (by decide) (va_runV (As := [.int (nI 2)]) (rest := []) ⟨hx, hb, hml, hown, hts⟩ (a_X10_worthOf_215 l dC dI h cs H.size gI gL qA_210 gQ ) (cwV 1 hts gX10_chosen_X10_worthOf rfl rfl rfl (by decide +kernel) ⟨Nat.le_of_ble_eq_true rfl, Nat.le_of_ble_eq_true rfl⟩) (xpV (wc := (wD_177 h cs gI gL qA_210 gQ)) hP hD hK hN [0, 1, 2, 3, 4, 5, 6, 7, 8, 9, 10, 11, 12, 13, 14, 15, 16] rfl (by decide) 0 (ci := 10) rfl rfl _) rfl rfl hl.1 rfl (lv_room (Nat.le_of_ble_eq_true rfl)) dX10_chosen_80 ⟨Nat.zero_le _, Nat.zero_le _⟩) (fun r_17 u_16 H locs hw hP hD hS => ?_)
      obtain ⟨hf_18, rfl⟩ := hw
      have hP : va_P (dC, dI) vwCl (rW h cs gI gL qA_210 gQ) H := hP
      have hD : va_D A0 (rW h cs gI gL qA_210 gQ) := hD
      obtain rfl := hf_18
      refine lv_lstore (lv' := [(7, .long (0 : Int64)), (6, .int (nI 1)), (5, .int (nI 2)), (2, .int (nI 1)), (3, .long (0 : Int64)), (0, .ref (h 0)), (1, .int (nI 1))]) hx hb dX10_chosen_83 hl (by decide) rfl (fun ls hl => ?_)
      refine lv_lload hx hb dX10_chosen_85 (lv_at hl 0 rfl) ?_
      refine lv_lload_n hx hb dX10_chosen_87 rfl (lv_at hl 4 rfl) ?_
      refine xl_gt (tgt := 109) hx hb dX10_chosen_88 dX10_chosen_89 (by decide) (fun c9 => False.elim (by revert c9; decide +kernel)) (fun _ => ?_)
      refine lv_lload hx hb dX10_chosen_92 (lv_at hl 0 rfl) ?_
      refine lv_lload_n hx hb dX10_chosen_94 rfl (lv_at hl 4 rfl) ?_
      refine xl_ne (tgt := 115) hx hb dX10_chosen_95 dX10_chosen_96 (by decide) (fun c9 => False.elim (by revert c9; decide +kernel)) (fun _ => ?_)
      refine lv_aload_n hx hb dX10_chosen_99 rfl (lv_at hl 5 rfl) ?_
      refine lv_iload hx hb dX10_chosen_100 (lv_at hl 2 rfl) ?_
      refine lv_iload_n hx hb dX10_chosen_102 rfl (lv_at hl 3 rfl) ?_
      refine xj_i (wc := (wD_177 h cs gI gL qA_210 gQ)) (wr := ([] : va_W)) hP hD hS hA [0, 1, 2, 3, 4, 5, 6, 7, 8, 9, 10, 11, 12, 13, 14, 15, 16] [] rfl rfl (by decide) (by decide) (va_runV (As := [.int (nI 2), .int (nI 1)]) (rest := []) ⟨hx, hb, hml, hown, hts⟩ (a_X10_isAhead_226 l dC dI h cs H.size gI gL qA_210 gQ ) (cwV 2 hts gX10_chosen_X10_isAhead rfl rfl rfl (by decide +kernel) ⟨Nat.le_of_ble_eq_true rfl, Nat.le_of_ble_eq_true rfl⟩) (xpV (wc := (wD_177 h cs gI gL qA_210 gQ)) hP hD hK hN [0, 1, 2, 3, 4, 5, 6, 7, 8, 9, 10, 11, 12, 13, 14, 15, 16] rfl (by decide) 0 (ci := 10) rfl rfl _) rfl rfl hl.1 rfl (lv_room (Nat.le_of_ble_eq_true rfl)) dX10_chosen_103 ⟨Nat.zero_le _, Nat.zero_le _⟩) (fun r_20 u_19 H locs hw hP hD hS => ?_)
      obtain ⟨hf_21, rfl⟩ := hw
      have hP : va_P (dC, dI) vwCl (rW h cs gI gL qA_210 gQ) H := hP
      have hD : va_D A0 (rW h cs gI gL qA_210 gQ) := hD
      obtain rfl := hf_21
      refine lv_if_eq (tgt := 115) hx hb dX10_chosen_106 (by decide) (fun _ => ?_) (fun c9 => False.elim (by revert c9; decide +kernel))
      refine lv_iinc (v := nI 3) (lv' := [(5, .int (nI 3)), (7, .long (0 : Int64)), (6, .int (nI 1)), (2, .int (nI 1)), (3, .long (0 : Int64)), (0, .ref (h 0)), (1, .int (nI 1))]) hx hb dX10_chosen_115 hl (k := 2) rfl (by decide +kernel) (by decide) rfl (fun ls hl => ?_)
      refine lv_goto (tgt := 29) hx hb dX10_chosen_118 (by decide) ?_
      refine lv_iload hx hb dX10_chosen_29 (lv_at hl 0 rfl) ?_
      refine lv_aload_n hx hb dX10_chosen_31 rfl (lv_at hl 5 rfl) ?_
      refine xj_i (wc := (wD_177 h cs gI gL qA_210 gQ)) (wr := ([] : va_W)) hP hD hS hA [0, 1, 2, 3, 4, 5, 6, 7, 8, 9, 10, 11, 12, 13, 14, 15, 16] [] rfl rfl (by decide) (by decide) (va_runV (As := []) (rest := [.int (nI 3)]) ⟨hx, hb, hml, hown, hts⟩ (a_X10_whole_222 l dC dI h cs H.size gI gL qA_210 gQ ) (cwV 0 hts gX10_chosen_X10_whole rfl rfl rfl (by decide +kernel) ⟨Nat.le_of_ble_eq_true rfl, Nat.le_of_ble_eq_true rfl⟩) (xpV (wc := (wD_177 h cs gI gL qA_210 gQ)) hP hD hK hN [0, 1, 2, 3, 4, 5, 6, 7, 8, 9, 10, 11, 12, 13, 14, 15, 16] rfl (by decide) 0 (ci := 10) rfl rfl _) rfl rfl hl.1 rfl (lv_room (Nat.le_of_ble_eq_true rfl)) dX10_chosen_32 ⟨Nat.zero_le _, Nat.zero_le _⟩) (fun r_23 u_22 H locs hw hP hD hS => ?_)
      obtain ⟨hf_24, rfl⟩ := hw
      have hP : va_P (dC, dI) vwCl (rW h cs gI gL qA_210 gQ) H := hP
      have hD : va_D A0 (rW h cs gI gL qA_210 gQ) := hD
      obtain rfl := hf_24
      refine lv_icmp_gt (tgt := 121) hx hb dX10_chosen_35 (by decide) (fun c9 => False.elim (by revert c9; decide +kernel)) (fun _ => ?_)
      refine lv_iconst (v := nI 0) hx hb dX10_chosen_38 (by decide) ?_
      refine lv_istore (lv' := [(6, .int (nI 0)), (5, .int (nI 3)), (7, .long (0 : Int64)), (2, .int (nI 1)), (3, .long (0 : Int64)), (0, .ref (h 0)), (1, .int (nI 1))]) hx hb dX10_chosen_39 hl (by decide) rfl (fun ls hl => ?_)
      refine lv_iconst (v := nI 0) hx hb dX10_chosen_41 (by decide) ?_
      refine lv_istore (lv' := [(7, .int (nI 0)), (6, .int (nI 0)), (5, .int (nI 3)), (2, .int (nI 1)), (3, .long (0 : Int64)), (0, .ref (h 0)), (1, .int (nI 1))]) hx hb dX10_chosen_42 hl (by decide) rfl (fun ls hl => ?_)
      refine lv_iload hx hb dX10_chosen_44 (lv_at hl 0 rfl) ?_
      refine lv_aload_n hx hb dX10_chosen_46 rfl (lv_at hl 5 rfl) ?_
      refine va_get (D := (dC, dI)) (ci := 10) (v := .int (gI 1)) (C := RX10) (T := TX10) (N := 28) hx hb hts hinX10 hown hK hP 0 rfl rfl 1 (by decide) (hts (.fieldLink RX10 13 "MixedWordsModel" "columns" "I") (by decide +kernel)) (fun _ h9 => h9) rfl dX10_chosen_47 ?_
      refine xt_i (y := nI 2) (by decide +kernel) ?_
      refine lv_icmp_ge (tgt := 71) hx hb dX10_chosen_50 (by decide) (fun c9 => False.elim (by revert c9; decide +kernel)) (fun _ => ?_)
      refine lv_iload hx hb dX10_chosen_53 (lv_at hl 1 rfl) ?_
      refine lv_iload hx hb dX10_chosen_55 (lv_at hl 2 rfl) ?_
      refine lv_iload hx hb dX10_chosen_57 (lv_at hl 0 rfl) ?_
      refine lv_ishr hx hb dX10_chosen_59 ?_
      refine xt_i (y := nI 3) (by decide +kernel) ?_
      refine lv_iconst (v := nI 1) hx hb dX10_chosen_60 (by decide) ?_
      refine lv_iand hx hb dX10_chosen_61 ?_
      refine xt_i (y := nI 1) (by decide +kernel) ?_
      refine lv_iadd hx hb dX10_chosen_62 ?_
      refine xt_i (y := nI 1) (by decide +kernel) ?_
      refine lv_istore (lv' := [(6, .int (nI 1)), (7, .int (nI 0)), (5, .int (nI 3)), (2, .int (nI 1)), (3, .long (0 : Int64)), (0, .ref (h 0)), (1, .int (nI 1))]) hx hb dX10_chosen_63 hl (by decide) rfl (fun ls hl => ?_)
      refine lv_iinc (v := nI 1) (lv' := [(7, .int (nI 1)), (6, .int (nI 1)), (5, .int (nI 3)), (2, .int (nI 1)), (3, .long (0 : Int64)), (0, .ref (h 0)), (1, .int (nI 1))]) hx hb dX10_chosen_65 hl (k := 1) rfl (by decide +kernel) (by decide) rfl (fun ls hl => ?_)
      refine lv_goto (tgt := 44) hx hb dX10_chosen_68 (by decide) ?_
      refine lv_iload hx hb dX10_chosen_44 (lv_at hl 0 rfl) ?_
      refine lv_aload_n hx hb dX10_chosen_46 rfl (lv_at hl 5 rfl) ?_
      refine va_get (D := (dC, dI)) (ci := 10) (v := .int (gI 1)) (C := RX10) (T := TX10) (N := 28) hx hb hts hinX10 hown hK hP 0 rfl rfl 1 (by decide) (hts (.fieldLink RX10 13 "MixedWordsModel" "columns" "I") (by decide +kernel)) (fun _ h9 => h9) rfl dX10_chosen_47 ?_
      refine xt_i (y := nI 2) (by decide +kernel) ?_
      refine lv_icmp_ge (tgt := 71) hx hb dX10_chosen_50 (by decide) (fun c9 => False.elim (by revert c9; decide +kernel)) (fun _ => ?_)
      refine lv_iload hx hb dX10_chosen_53 (lv_at hl 1 rfl) ?_
      refine lv_iload hx hb dX10_chosen_55 (lv_at hl 2 rfl) ?_
      refine lv_iload hx hb dX10_chosen_57 (lv_at hl 0 rfl) ?_
      refine lv_ishr hx hb dX10_chosen_59 ?_
      refine xt_i (y := nI 1) (by decide +kernel) ?_
      refine lv_iconst (v := nI 1) hx hb dX10_chosen_60 (by decide) ?_
      refine lv_iand hx hb dX10_chosen_61 ?_
      refine xt_i (y := nI 1) (by decide +kernel) ?_
      refine lv_iadd hx hb dX10_chosen_62 ?_
      refine xt_i (y := nI 2) (by decide +kernel) ?_
      refine lv_istore (lv' := [(6, .int (nI 2)), (7, .int (nI 1)), (5, .int (nI 3)), (2, .int (nI 1)), (3, .long (0 : Int64)), (0, .ref (h 0)), (1, .int (nI 1))]) hx hb dX10_chosen_63 hl (by decide) rfl (fun ls hl => ?_)
      refine lv_iinc (v := nI 2) (lv' := [(7, .int (nI 2)), (6, .int (nI 2)), (5, .int (nI 3)), (2, .int (nI 1)), (3, .long (0 : Int64)), (0, .ref (h 0)), (1, .int (nI 1))]) hx hb dX10_chosen_65 hl (k := 1) rfl (by decide +kernel) (by decide) rfl (fun ls hl => ?_)
      refine lv_goto (tgt := 44) hx hb dX10_chosen_68 (by decide) ?_
      refine lv_iload hx hb dX10_chosen_44 (lv_at hl 0 rfl) ?_
      refine lv_aload_n hx hb dX10_chosen_46 rfl (lv_at hl 5 rfl) ?_
      refine va_get (D := (dC, dI)) (ci := 10) (v := .int (gI 1)) (C := RX10) (T := TX10) (N := 28) hx hb hts hinX10 hown hK hP 0 rfl rfl 1 (by decide) (hts (.fieldLink RX10 13 "MixedWordsModel" "columns" "I") (by decide +kernel)) (fun _ h9 => h9) rfl dX10_chosen_47 ?_
      refine xt_i (y := nI 2) (by decide +kernel) ?_
      refine lv_icmp_ge (tgt := 71) hx hb dX10_chosen_50 (by decide) (fun _ => ?_) (fun c9 => False.elim (by revert c9; decide +kernel))
      refine lv_iload hx hb dX10_chosen_71 (lv_at hl 1 rfl) ?_
      refine lv_iload_n hx hb dX10_chosen_73 rfl (lv_at hl 6 rfl) ?_
      refine lv_icmp_ne (tgt := 115) hx hb dX10_chosen_74 (by decide) (fun _ => ?_) (fun c9 => False.elim (by revert c9; decide +kernel))
      refine lv_iinc (v := nI 4) (lv' := [(5, .int (nI 4)), (7, .int (nI 2)), (6, .int (nI 2)), (2, .int (nI 1)), (3, .long (0 : Int64)), (0, .ref (h 0)), (1, .int (nI 1))]) hx hb dX10_chosen_115 hl (k := 2) rfl (by decide +kernel) (by decide) rfl (fun ls hl => ?_)
      refine lv_goto (tgt := 29) hx hb dX10_chosen_118 (by decide) ?_
      refine lv_iload hx hb dX10_chosen_29 (lv_at hl 0 rfl) ?_
      refine lv_aload_n hx hb dX10_chosen_31 rfl (lv_at hl 5 rfl) ?_
      refine xj_i (wc := (wD_177 h cs gI gL qA_210 gQ)) (wr := ([] : va_W)) hP hD hS hA [0, 1, 2, 3, 4, 5, 6, 7, 8, 9, 10, 11, 12, 13, 14, 15, 16] [] rfl rfl (by decide) (by decide) (va_runV (As := []) (rest := [.int (nI 4)]) ⟨hx, hb, hml, hown, hts⟩ (a_X10_whole_222 l dC dI h cs H.size gI gL qA_210 gQ ) (cwV 0 hts gX10_chosen_X10_whole rfl rfl rfl (by decide +kernel) ⟨Nat.le_of_ble_eq_true rfl, Nat.le_of_ble_eq_true rfl⟩) (xpV (wc := (wD_177 h cs gI gL qA_210 gQ)) hP hD hK hN [0, 1, 2, 3, 4, 5, 6, 7, 8, 9, 10, 11, 12, 13, 14, 15, 16] rfl (by decide) 0 (ci := 10) rfl rfl _) rfl rfl hl.1 rfl (lv_room (Nat.le_of_ble_eq_true rfl)) dX10_chosen_32 ⟨Nat.zero_le _, Nat.zero_le _⟩) (fun r_26 u_25 H locs hw hP hD hS => ?_)
      obtain ⟨hf_27, rfl⟩ := hw
      have hP : va_P (dC, dI) vwCl (rW h cs gI gL qA_210 gQ) H := hP
      have hD : va_D A0 (rW h cs gI gL qA_210 gQ) := hD
      obtain rfl := hf_27
      refine lv_icmp_gt (tgt := 121) hx hb dX10_chosen_35 (by decide) (fun _ => ?_) (fun c9 => False.elim (by revert c9; decide +kernel))
      refine lv_iload_n hx hb dX10_chosen_121 rfl (lv_at hl 3 rfl) ?_
      exact xr_i (v := (nI 1)) hx hb hr hlocks hK hS dX10_chosen_122 (gI, gL, qA_210, gQ) ⟨qA_210, (by decide +kernel), rfl⟩ hP hD
    · skip
      refine lv_iload_n hx hb dX10_chosen_0 rfl (lv_at hl 1 rfl) ?_
      refine lv_i2l (v := (2 : Int64)) hx hb dX10_chosen_1 (by decide +kernel) ?_
      refine lv_lconst (v := 1) hx hb dX10_chosen_2 rfl ?_
      refine lv_aload_n hx hb dX10_chosen_3 rfl (lv_at hl 0 rfl) ?_
      refine va_get (D := (dC, dI)) (ci := 10) (v := .int (gI 1)) (C := RX10) (T := TX10) (N := 28) hx hb hts hinX10 hown hK hP 0 rfl rfl 1 (by decide) (hts (.fieldLink RX10 13 "MixedWordsModel" "columns" "I") (by decide +kernel)) (fun _ h9 => h9) rfl dX10_chosen_4 ?_
      refine xt_i (y := nI 2) (by decide +kernel) ?_
      refine lv_i2l (v := (2 : Int64)) hx hb dX10_chosen_7 (by decide +kernel) ?_
      refine xj_i (wc := ([] : va_W)) (wr := (rW h cs gI gL gA gQ)) hP hD hS hA [] [0, 1, 2, 3, 4, 5, 6, 7, 8, 9, 10, 11, 12, 13, 14, 15, 16] rfl rfl (by decide) (by decide) (va_runS (As := [.long (2 : Int64), .long (1 : Int64), .long (2 : Int64)]) (rest := []) ⟨hx, hb, hml, hown, hts⟩ (a_X10_in_227 l dC dI h cs H.size I L A Q ) (va_cwS 3 hts gX10_chosen_X10_in rfl rfl rfl (by decide +kernel) ⟨Nat.le_of_ble_eq_true rfl, Nat.le_of_ble_eq_true rfl⟩) (xpS (wc := ([] : va_W)) hP hD hK hN [] rfl (by decide) _) rfl rfl hl.1 rfl (lv_room (Nat.le_of_ble_eq_true rfl)) dX10_chosen_8 ⟨Nat.zero_le _, Nat.zero_le _⟩) (fun r_29 u_28 H locs hw hP hD hS => ?_)
      obtain ⟨hf_30, rfl⟩ := hw
      have hP : va_P (dC, dI) vwCl (rW h cs gI gL gA gQ) H := hP
      have hD : va_D A0 (rW h cs gI gL gA gQ) := hD
      obtain rfl := hf_30
      refine lv_if_ne (tgt := 16) hx hb dX10_chosen_11 (by decide) (fun _ => ?_) (fun c9 => False.elim (by revert c9; decide +kernel))
      refine lv_aload_n hx hb dX10_chosen_16 rfl (lv_at hl 0 rfl) ?_
      refine xj_v (wc := (wD_177 h cs gI gL gA gQ)) (wr := ([] : va_W)) hP hD hS hA [0, 1, 2, 3, 4, 5, 6, 7, 8, 9, 10, 11, 12, 13, 14, 15, 16] [] rfl rfl (by decide) (by decide) (va_runV (As := []) (rest := []) ⟨hx, hb, hml, hown, hts⟩ (a_X10_lay_209 l dC dI h cs H.size gI gL gA gQ ) (cwV 0 hts gX10_chosen_X10_lay rfl rfl rfl (by decide +kernel) ⟨Nat.le_of_ble_eq_true rfl, Nat.le_of_ble_eq_true rfl⟩) (xpV (wc := (wD_177 h cs gI gL gA gQ)) hP hD hK hN [0, 1, 2, 3, 4, 5, 6, 7, 8, 9, 10, 11, 12, 13, 14, 15, 16] rfl (by decide) 0 (ci := 10) rfl rfl _) rfl rfl hl.1 rfl (lv_room (Nat.le_of_ble_eq_true rfl)) dX10_chosen_17 ⟨Nat.zero_le _, Nat.zero_le _⟩) (fun u_31 H locs hw hP hD hS => ?_)
      obtain ⟨hf_33, rfl⟩ := hw
      have hP : va_P (dC, dI) vwCl (rW h cs gI gL qA_210 gQ) H := hP
      have hD : va_D A0 (rW h cs gI gL qA_210 gQ) := hD
      refine lv_iconst (v := nI 0) hx hb dX10_chosen_20 (by decide) ?_
      refine lv_istore_n (lv' := [(2, .int (nI 0)), (0, .ref (h 0)), (1, .int (nI 2))]) hx hb dX10_chosen_21 rfl hl (by decide) rfl (fun ls hl => ?_)
      refine lv_ldc2 (v := (-1)) hx hb hown (hts (.constantLong RX10 185 (-1)) (by decide +kernel)) dX10_chosen_22 ?_
      refine lv_lstore_n (lv' := [(3, .long (-1 : Int64)), (2, .int (nI 0)), (0, .ref (h 0)), (1, .int (nI 2))]) hx hb dX10_chosen_25 rfl hl (by decide) rfl (fun ls hl => ?_)
      refine lv_iconst (v := nI 1) hx hb dX10_chosen_26 (by decide) ?_
      refine lv_istore (lv' := [(5, .int (nI 1)), (3, .long (-1 : Int64)), (2, .int (nI 0)), (0, .ref (h 0)), (1, .int (nI 2))]) hx hb dX10_chosen_27 hl (by decide) rfl (fun ls hl => ?_)
      refine lv_iload hx hb dX10_chosen_29 (lv_at hl 0 rfl) ?_
      refine lv_aload_n hx hb dX10_chosen_31 rfl (lv_at hl 3 rfl) ?_
      refine xj_i (wc := (wD_177 h cs gI gL qA_210 gQ)) (wr := ([] : va_W)) hP hD hS hA [0, 1, 2, 3, 4, 5, 6, 7, 8, 9, 10, 11, 12, 13, 14, 15, 16] [] rfl rfl (by decide) (by decide) (va_runV (As := []) (rest := [.int (nI 1)]) ⟨hx, hb, hml, hown, hts⟩ (a_X10_whole_222 l dC dI h cs H.size gI gL qA_210 gQ ) (cwV 0 hts gX10_chosen_X10_whole rfl rfl rfl (by decide +kernel) ⟨Nat.le_of_ble_eq_true rfl, Nat.le_of_ble_eq_true rfl⟩) (xpV (wc := (wD_177 h cs gI gL qA_210 gQ)) hP hD hK hN [0, 1, 2, 3, 4, 5, 6, 7, 8, 9, 10, 11, 12, 13, 14, 15, 16] rfl (by decide) 0 (ci := 10) rfl rfl _) rfl rfl hl.1 rfl (lv_room (Nat.le_of_ble_eq_true rfl)) dX10_chosen_32 ⟨Nat.zero_le _, Nat.zero_le _⟩) (fun r_35 u_34 H locs hw hP hD hS => ?_)
      obtain ⟨hf_36, rfl⟩ := hw
      have hP : va_P (dC, dI) vwCl (rW h cs gI gL qA_210 gQ) H := hP
      have hD : va_D A0 (rW h cs gI gL qA_210 gQ) := hD
      obtain rfl := hf_36
      refine lv_icmp_gt (tgt := 121) hx hb dX10_chosen_35 (by decide) (fun c9 => False.elim (by revert c9; decide +kernel)) (fun _ => ?_)
      refine lv_iconst (v := nI 0) hx hb dX10_chosen_38 (by decide) ?_
      refine lv_istore (lv' := [(6, .int (nI 0)), (5, .int (nI 1)), (3, .long (-1 : Int64)), (2, .int (nI 0)), (0, .ref (h 0)), (1, .int (nI 2))]) hx hb dX10_chosen_39 hl (by decide) rfl (fun ls hl => ?_)
      refine lv_iconst (v := nI 0) hx hb dX10_chosen_41 (by decide) ?_
      refine lv_istore (lv' := [(7, .int (nI 0)), (6, .int (nI 0)), (5, .int (nI 1)), (3, .long (-1 : Int64)), (2, .int (nI 0)), (0, .ref (h 0)), (1, .int (nI 2))]) hx hb dX10_chosen_42 hl (by decide) rfl (fun ls hl => ?_)
      refine lv_iload hx hb dX10_chosen_44 (lv_at hl 0 rfl) ?_
      refine lv_aload_n hx hb dX10_chosen_46 rfl (lv_at hl 5 rfl) ?_
      refine va_get (D := (dC, dI)) (ci := 10) (v := .int (gI 1)) (C := RX10) (T := TX10) (N := 28) hx hb hts hinX10 hown hK hP 0 rfl rfl 1 (by decide) (hts (.fieldLink RX10 13 "MixedWordsModel" "columns" "I") (by decide +kernel)) (fun _ h9 => h9) rfl dX10_chosen_47 ?_
      refine xt_i (y := nI 2) (by decide +kernel) ?_
      refine lv_icmp_ge (tgt := 71) hx hb dX10_chosen_50 (by decide) (fun c9 => False.elim (by revert c9; decide +kernel)) (fun _ => ?_)
      refine lv_iload hx hb dX10_chosen_53 (lv_at hl 1 rfl) ?_
      refine lv_iload hx hb dX10_chosen_55 (lv_at hl 2 rfl) ?_
      refine lv_iload hx hb dX10_chosen_57 (lv_at hl 0 rfl) ?_
      refine lv_ishr hx hb dX10_chosen_59 ?_
      refine xt_i (y := nI 1) (by decide +kernel) ?_
      refine lv_iconst (v := nI 1) hx hb dX10_chosen_60 (by decide) ?_
      refine lv_iand hx hb dX10_chosen_61 ?_
      refine xt_i (y := nI 1) (by decide +kernel) ?_
      refine lv_iadd hx hb dX10_chosen_62 ?_
      refine xt_i (y := nI 1) (by decide +kernel) ?_
      refine lv_istore (lv' := [(6, .int (nI 1)), (7, .int (nI 0)), (5, .int (nI 1)), (3, .long (-1 : Int64)), (2, .int (nI 0)), (0, .ref (h 0)), (1, .int (nI 2))]) hx hb dX10_chosen_63 hl (by decide) rfl (fun ls hl => ?_)
      refine lv_iinc (v := nI 1) (lv' := [(7, .int (nI 1)), (6, .int (nI 1)), (5, .int (nI 1)), (3, .long (-1 : Int64)), (2, .int (nI 0)), (0, .ref (h 0)), (1, .int (nI 2))]) hx hb dX10_chosen_65 hl (k := 1) rfl (by decide +kernel) (by decide) rfl (fun ls hl => ?_)
      refine lv_goto (tgt := 44) hx hb dX10_chosen_68 (by decide) ?_
      refine lv_iload hx hb dX10_chosen_44 (lv_at hl 0 rfl) ?_
      refine lv_aload_n hx hb dX10_chosen_46 rfl (lv_at hl 5 rfl) ?_
      refine va_get (D := (dC, dI)) (ci := 10) (v := .int (gI 1)) (C := RX10) (T := TX10) (N := 28) hx hb hts hinX10 hown hK hP 0 rfl rfl 1 (by decide) (hts (.fieldLink RX10 13 "MixedWordsModel" "columns" "I") (by decide +kernel)) (fun _ h9 => h9) rfl dX10_chosen_47 ?_
      refine xt_i (y := nI 2) (by decide +kernel) ?_
      refine lv_icmp_ge (tgt := 71) hx hb dX10_chosen_50 (by decide) (fun c9 => False.elim (by revert c9; decide +kernel)) (fun _ => ?_)
      refine lv_iload hx hb dX10_chosen_53 (lv_at hl 1 rfl) ?_
      refine lv_iload hx hb dX10_chosen_55 (lv_at hl 2 rfl) ?_
      refine lv_iload hx hb dX10_chosen_57 (lv_at hl 0 rfl) ?_
      refine lv_ishr hx hb dX10_chosen_59 ?_
      refine xt_i (y := nI 0) (by decide +kernel) ?_
      refine lv_iconst (v := nI 1) hx hb dX10_chosen_60 (by decide) ?_
      refine lv_iand hx hb dX10_chosen_61 ?_
      refine xt_i (y := nI 0) (by decide +kernel) ?_
      refine lv_iadd hx hb dX10_chosen_62 ?_
      refine xt_i (y := nI 1) (by decide +kernel) ?_
      refine lv_istore (lv' := [(6, .int (nI 1)), (7, .int (nI 1)), (5, .int (nI 1)), (3, .long (-1 : Int64)), (2, .int (nI 0)), (0, .ref (h 0)), (1, .int (nI 2))]) hx hb dX10_chosen_63 hl (by decide) rfl (fun ls hl => ?_)
      refine lv_iinc (v := nI 2) (lv' := [(7, .int (nI 2)), (6, .int (nI 1)), (5, .int (nI 1)), (3, .long (-1 : Int64)), (2, .int (nI 0)), (0, .ref (h 0)), (1, .int (nI 2))]) hx hb dX10_chosen_65 hl (k := 1) rfl (by decide +kernel) (by decide) rfl (fun ls hl => ?_)
      refine lv_goto (tgt := 44) hx hb dX10_chosen_68 (by decide) ?_
      refine lv_iload hx hb dX10_chosen_44 (lv_at hl 0 rfl) ?_
      refine lv_aload_n hx hb dX10_chosen_46 rfl (lv_at hl 5 rfl) ?_
      refine va_get (D := (dC, dI)) (ci := 10) (v := .int (gI 1)) (C := RX10) (T := TX10) (N := 28) hx hb hts hinX10 hown hK hP 0 rfl rfl 1 (by decide) (hts (.fieldLink RX10 13 "MixedWordsModel" "columns" "I") (by decide +kernel)) (fun _ h9 => h9) rfl dX10_chosen_47 ?_
      refine xt_i (y := nI 2) (by decide +kernel) ?_
      refine lv_icmp_ge (tgt := 71) hx hb dX10_chosen_50 (by decide) (fun _ => ?_) (fun c9 => False.elim (by revert c9; decide +kernel))
      refine lv_iload hx hb dX10_chosen_71 (lv_at hl 1 rfl) ?_
      refine lv_iload_n hx hb dX10_chosen_73 rfl (lv_at hl 6 rfl) ?_
      refine lv_icmp_ne (tgt := 115) hx hb dX10_chosen_74 (by decide) (fun _ => ?_) (fun c9 => False.elim (by revert c9; decide +kernel))
      refine lv_iinc (v := nI 2) (lv' := [(5, .int (nI 2)), (7, .int (nI 2)), (6, .int (nI 1)), (3, .long (-1 : Int64)), (2, .int (nI 0)), (0, .ref (h 0)), (1, .int (nI 2))]) hx hb dX10_chosen_115 hl (k := 2) rfl (by decide +kernel) (by decide) rfl (fun ls hl => ?_)
      refine lv_goto (tgt := 29) hx hb dX10_chosen_118 (by decide) ?_
      refine lv_iload hx hb dX10_chosen_29 (lv_at hl 0 rfl) ?_
      refine lv_aload_n hx hb dX10_chosen_31 rfl (lv_at hl 5 rfl) ?_
      refine xj_i (wc := (wD_177 h cs gI gL qA_210 gQ)) (wr := ([] : va_W)) hP hD hS hA [0, 1, 2, 3, 4, 5, 6, 7, 8, 9, 10, 11, 12, 13, 14, 15, 16] [] rfl rfl (by decide) (by decide) (va_runV (As := []) (rest := [.int (nI 2)]) ⟨hx, hb, hml, hown, hts⟩ (a_X10_whole_222 l dC dI h cs H.size gI gL qA_210 gQ ) (cwV 0 hts gX10_chosen_X10_whole rfl rfl rfl (by decide +kernel) ⟨Nat.le_of_ble_eq_true rfl, Nat.le_of_ble_eq_true rfl⟩) (xpV (wc := (wD_177 h cs gI gL qA_210 gQ)) hP hD hK hN [0, 1, 2, 3, 4, 5, 6, 7, 8, 9, 10, 11, 12, 13, 14, 15, 16] rfl (by decide) 0 (ci := 10) rfl rfl _) rfl rfl hl.1 rfl (lv_room (Nat.le_of_ble_eq_true rfl)) dX10_chosen_32 ⟨Nat.zero_le _, Nat.zero_le _⟩) (fun r_38 u_37 H locs hw hP hD hS => ?_)
      obtain ⟨hf_39, rfl⟩ := hw
      have hP : va_P (dC, dI) vwCl (rW h cs gI gL qA_210 gQ) H := hP
      have hD : va_D A0 (rW h cs gI gL qA_210 gQ) := hD
      obtain rfl := hf_39
      refine lv_icmp_gt (tgt := 121) hx hb dX10_chosen_35 (by decide) (fun c9 => False.elim (by revert c9; decide +kernel)) (fun _ => ?_)
      refine lv_iconst (v := nI 0) hx hb dX10_chosen_38 (by decide) ?_
      refine lv_istore (lv' := [(6, .int (nI 0)), (5, .int (nI 2)), (7, .int (nI 2)), (3, .long (-1 : Int64)), (2, .int (nI 0)), (0, .ref (h 0)), (1, .int (nI 2))]) hx hb dX10_chosen_39 hl (by decide) rfl (fun ls hl => ?_)
      refine lv_iconst (v := nI 0) hx hb dX10_chosen_41 (by decide) ?_
      refine lv_istore (lv' := [(7, .int (nI 0)), (6, .int (nI 0)), (5, .int (nI 2)), (3, .long (-1 : Int64)), (2, .int (nI 0)), (0, .ref (h 0)), (1, .int (nI 2))]) hx hb dX10_chosen_42 hl (by decide) rfl (fun ls hl => ?_)
      refine lv_iload hx hb dX10_chosen_44 (lv_at hl 0 rfl) ?_
      refine lv_aload_n hx hb dX10_chosen_46 rfl (lv_at hl 5 rfl) ?_
      refine va_get (D := (dC, dI)) (ci := 10) (v := .int (gI 1)) (C := RX10) (T := TX10) (N := 28) hx hb hts hinX10 hown hK hP 0 rfl rfl 1 (by decide) (hts (.fieldLink RX10 13 "MixedWordsModel" "columns" "I") (by decide +kernel)) (fun _ h9 => h9) rfl dX10_chosen_47 ?_
      refine xt_i (y := nI 2) (by decide +kernel) ?_
      refine lv_icmp_ge (tgt := 71) hx hb dX10_chosen_50 (by decide) (fun c9 => False.elim (by revert c9; decide +kernel)) (fun _ => ?_)
      refine lv_iload hx hb dX10_chosen_53 (lv_at hl 1 rfl) ?_
      refine lv_iload hx hb dX10_chosen_55 (lv_at hl 2 rfl) ?_
      refine lv_iload hx hb dX10_chosen_57 (lv_at hl 0 rfl) ?_
      refine lv_ishr hx hb dX10_chosen_59 ?_
      refine xt_i (y := nI 2) (by decide +kernel) ?_
      refine lv_iconst (v := nI 1) hx hb dX10_chosen_60 (by decide) ?_
      refine lv_iand hx hb dX10_chosen_61 ?_
      refine xt_i (y := nI 0) (by decide +kernel) ?_
      refine lv_iadd hx hb dX10_chosen_62 ?_
      refine xt_i (y := nI 0) (by decide +kernel) ?_
      refine lv_istore (lv' := [(6, .int (nI 0)), (7, .int (nI 0)), (5, .int (nI 2)), (3, .long (-1 : Int64)), (2, .int (nI 0)), (0, .ref (h 0)), (1, .int (nI 2))]) hx hb dX10_chosen_63 hl (by decide) rfl (fun ls hl => ?_)
      refine lv_iinc (v := nI 1) (lv' := [(7, .int (nI 1)), (6, .int (nI 0)), (5, .int (nI 2)), (3, .long (-1 : Int64)), (2, .int (nI 0)), (0, .ref (h 0)), (1, .int (nI 2))]) hx hb dX10_chosen_65 hl (k := 1) rfl (by decide +kernel) (by decide) rfl (fun ls hl => ?_)
      refine lv_goto (tgt := 44) hx hb dX10_chosen_68 (by decide) ?_
      refine lv_iload hx hb dX10_chosen_44 (lv_at hl 0 rfl) ?_
      refine lv_aload_n hx hb dX10_chosen_46 rfl (lv_at hl 5 rfl) ?_
      refine va_get (D := (dC, dI)) (ci := 10) (v := .int (gI 1)) (C := RX10) (T := TX10) (N := 28) hx hb hts hinX10 hown hK hP 0 rfl rfl 1 (by decide) (hts (.fieldLink RX10 13 "MixedWordsModel" "columns" "I") (by decide +kernel)) (fun _ h9 => h9) rfl dX10_chosen_47 ?_
      refine xt_i (y := nI 2) (by decide +kernel) ?_
      refine lv_icmp_ge (tgt := 71) hx hb dX10_chosen_50 (by decide) (fun c9 => False.elim (by revert c9; decide +kernel)) (fun _ => ?_)
      refine lv_iload hx hb dX10_chosen_53 (lv_at hl 1 rfl) ?_
      refine lv_iload hx hb dX10_chosen_55 (lv_at hl 2 rfl) ?_
      refine lv_iload hx hb dX10_chosen_57 (lv_at hl 0 rfl) ?_
      refine lv_ishr hx hb dX10_chosen_59 ?_
      refine xt_i (y := nI 1) (by decide +kernel) ?_
      refine lv_iconst (v := nI 1) hx hb dX10_chosen_60 (by decide) ?_
      refine lv_iand hx hb dX10_chosen_61 ?_
      refine xt_i (y := nI 1) (by decide +kernel) ?_
      refine lv_iadd hx hb dX10_chosen_62 ?_
      refine xt_i (y := nI 1) (by decide +kernel) ?_
      refine lv_istore (lv' := [(6, .int (nI 1)), (7, .int (nI 1)), (5, .int (nI 2)), (3, .long (-1 : Int64)), (2, .int (nI 0)), (0, .ref (h 0)), (1, .int (nI 2))]) hx hb dX10_chosen_63 hl (by decide) rfl (fun ls hl => ?_)
      refine lv_iinc (v := nI 2) (lv' := [(7, .int (nI 2)), (6, .int (nI 1)), (5, .int (nI 2)), (3, .long (-1 : Int64)), (2, .int (nI 0)), (0, .ref (h 0)), (1, .int (nI 2))]) hx hb dX10_chosen_65 hl (k := 1) rfl (by decide +kernel) (by decide) rfl (fun ls hl => ?_)
      refine lv_goto (tgt := 44) hx hb dX10_chosen_68 (by decide) ?_
      refine lv_iload hx hb dX10_chosen_44 (lv_at hl 0 rfl) ?_
      refine lv_aload_n hx hb dX10_chosen_46 rfl (lv_at hl 5 rfl) ?_
      refine va_get (D := (dC, dI)) (ci := 10) (v := .int (gI 1)) (C := RX10) (T := TX10) (N := 28) hx hb hts hinX10 hown hK hP 0 rfl rfl 1 (by decide) (hts (.fieldLink RX10 13 "MixedWordsModel" "columns" "I") (by decide +kernel)) (fun _ h9 => h9) rfl dX10_chosen_47 ?_
      refine xt_i (y := nI 2) (by decide +kernel) ?_
      refine lv_icmp_ge (tgt := 71) hx hb dX10_chosen_50 (by decide) (fun _ => ?_) (fun c9 => False.elim (by revert c9; decide +kernel))
      refine lv_iload hx hb dX10_chosen_71 (lv_at hl 1 rfl) ?_
      refine lv_iload_n hx hb dX10_chosen_73 rfl (lv_at hl 6 rfl) ?_
      refine lv_icmp_ne (tgt := 115) hx hb dX10_chosen_74 (by decide) (fun _ => ?_) (fun c9 => False.elim (by revert c9; decide +kernel))
      refine lv_iinc (v := nI 3) (lv' := [(5, .int (nI 3)), (7, .int (nI 2)), (6, .int (nI 1)), (3, .long (-1 : Int64)), (2, .int (nI 0)), (0, .ref (h 0)), (1, .int (nI 2))]) hx hb dX10_chosen_115 hl (k := 2) rfl (by decide +kernel) (by decide) rfl (fun ls hl => ?_)
      refine lv_goto (tgt := 29) hx hb dX10_chosen_118 (by decide) ?_
      refine lv_iload hx hb dX10_chosen_29 (lv_at hl 0 rfl) ?_
      refine lv_aload_n hx hb dX10_chosen_31 rfl (lv_at hl 5 rfl) ?_
      refine xj_i (wc := (wD_177 h cs gI gL qA_210 gQ)) (wr := ([] : va_W)) hP hD hS hA [0, 1, 2, 3, 4, 5, 6, 7, 8, 9, 10, 11, 12, 13, 14, 15, 16] [] rfl rfl (by decide) (by decide) (va_runV (As := []) (rest := [.int (nI 3)]) ⟨hx, hb, hml, hown, hts⟩ (a_X10_whole_222 l dC dI h cs H.size gI gL qA_210 gQ ) (cwV 0 hts gX10_chosen_X10_whole rfl rfl rfl (by decide +kernel) ⟨Nat.le_of_ble_eq_true rfl, Nat.le_of_ble_eq_true rfl⟩) (xpV (wc := (wD_177 h cs gI gL qA_210 gQ)) hP hD hK hN [0, 1, 2, 3, 4, 5, 6, 7, 8, 9, 10, 11, 12, 13, 14, 15, 16] rfl (by decide) 0 (ci := 10) rfl rfl _) rfl rfl hl.1 rfl (lv_room (Nat.le_of_ble_eq_true rfl)) dX10_chosen_32 ⟨Nat.zero_le _, Nat.zero_le _⟩) (fun r_41 u_40 H locs hw hP hD hS => ?_)
      obtain ⟨hf_42, rfl⟩ := hw
      have hP : va_P (dC, dI) vwCl (rW h cs gI gL qA_210 gQ) H := hP
      have hD : va_D A0 (rW h cs gI gL qA_210 gQ) := hD
      obtain rfl := hf_42
      refine lv_icmp_gt (tgt := 121) hx hb dX10_chosen_35 (by decide) (fun c9 => False.elim (by revert c9; decide +kernel)) (fun _ => ?_)
      refine lv_iconst (v := nI 0) hx hb dX10_chosen_38 (by decide) ?_
      refine lv_istore (lv' := [(6, .int (nI 0)), (5, .int (nI 3)), (7, .int (nI 2)), (3, .long (-1 : Int64)), (2, .int (nI 0)), (0, .ref (h 0)), (1, .int (nI 2))]) hx hb dX10_chosen_39 hl (by decide) rfl (fun ls hl => ?_)
      refine lv_iconst (v := nI 0) hx hb dX10_chosen_41 (by decide) ?_
      refine lv_istore (lv' := [(7, .int (nI 0)), (6, .int (nI 0)), (5, .int (nI 3)), (3, .long (-1 : Int64)), (2, .int (nI 0)), (0, .ref (h 0)), (1, .int (nI 2))]) hx hb dX10_chosen_42 hl (by decide) rfl (fun ls hl => ?_)
      refine lv_iload hx hb dX10_chosen_44 (lv_at hl 0 rfl) ?_
      refine lv_aload_n hx hb dX10_chosen_46 rfl (lv_at hl 5 rfl) ?_
      refine va_get (D := (dC, dI)) (ci := 10) (v := .int (gI 1)) (C := RX10) (T := TX10) (N := 28) hx hb hts hinX10 hown hK hP 0 rfl rfl 1 (by decide) (hts (.fieldLink RX10 13 "MixedWordsModel" "columns" "I") (by decide +kernel)) (fun _ h9 => h9) rfl dX10_chosen_47 ?_
      refine xt_i (y := nI 2) (by decide +kernel) ?_
      refine lv_icmp_ge (tgt := 71) hx hb dX10_chosen_50 (by decide) (fun c9 => False.elim (by revert c9; decide +kernel)) (fun _ => ?_)
      refine lv_iload hx hb dX10_chosen_53 (lv_at hl 1 rfl) ?_
      refine lv_iload hx hb dX10_chosen_55 (lv_at hl 2 rfl) ?_
      refine lv_iload hx hb dX10_chosen_57 (lv_at hl 0 rfl) ?_
      refine lv_ishr hx hb dX10_chosen_59 ?_
      refine xt_i (y := nI 3) (by decide +kernel) ?_
      refine lv_iconst (v := nI 1) hx hb dX10_chosen_60 (by decide) ?_
      refine lv_iand hx hb dX10_chosen_61 ?_
      refine xt_i (y := nI 1) (by decide +kernel) ?_
      refine lv_iadd hx hb dX10_chosen_62 ?_
      refine xt_i (y := nI 1) (by decide +kernel) ?_
      refine lv_istore (lv' := [(6, .int (nI 1)), (7, .int (nI 0)), (5, .int (nI 3)), (3, .long (-1 : Int64)), (2, .int (nI 0)), (0, .ref (h 0)), (1, .int (nI 2))]) hx hb dX10_chosen_63 hl (by decide) rfl (fun ls hl => ?_)
      refine lv_iinc (v := nI 1) (lv' := [(7, .int (nI 1)), (6, .int (nI 1)), (5, .int (nI 3)), (3, .long (-1 : Int64)), (2, .int (nI 0)), (0, .ref (h 0)), (1, .int (nI 2))]) hx hb dX10_chosen_65 hl (k := 1) rfl (by decide +kernel) (by decide) rfl (fun ls hl => ?_)
      refine lv_goto (tgt := 44) hx hb dX10_chosen_68 (by decide) ?_
      refine lv_iload hx hb dX10_chosen_44 (lv_at hl 0 rfl) ?_
      refine lv_aload_n hx hb dX10_chosen_46 rfl (lv_at hl 5 rfl) ?_
      refine va_get (D := (dC, dI)) (ci := 10) (v := .int (gI 1)) (C := RX10) (T := TX10) (N := 28) hx hb hts hinX10 hown hK hP 0 rfl rfl 1 (by decide) (hts (.fieldLink RX10 13 "MixedWordsModel" "columns" "I") (by decide +kernel)) (fun _ h9 => h9) rfl dX10_chosen_47 ?_
      refine xt_i (y := nI 2) (by decide +kernel) ?_
      refine lv_icmp_ge (tgt := 71) hx hb dX10_chosen_50 (by decide) (fun c9 => False.elim (by revert c9; decide +kernel)) (fun _ => ?_)
      refine lv_iload hx hb dX10_chosen_53 (lv_at hl 1 rfl) ?_
      refine lv_iload hx hb dX10_chosen_55 (lv_at hl 2 rfl) ?_
      refine lv_iload hx hb dX10_chosen_57 (lv_at hl 0 rfl) ?_
      refine lv_ishr hx hb dX10_chosen_59 ?_
      refine xt_i (y := nI 1) (by decide +kernel) ?_
      refine lv_iconst (v := nI 1) hx hb dX10_chosen_60 (by decide) ?_
      refine lv_iand hx hb dX10_chosen_61 ?_
      refine xt_i (y := nI 1) (by decide +kernel) ?_
      refine lv_iadd hx hb dX10_chosen_62 ?_
      refine xt_i (y := nI 2) (by decide +kernel) ?_
      refine lv_istore (lv' := [(6, .int (nI 2)), (7, .int (nI 1)), (5, .int (nI 3)), (3, .long (-1 : Int64)), (2, .int (nI 0)), (0, .ref (h 0)), (1, .int (nI 2))]) hx hb dX10_chosen_63 hl (by decide) rfl (fun ls hl => ?_)
      refine lv_iinc (v := nI 2) (lv' := [(7, .int (nI 2)), (6, .int (nI 2)), (5, .int (nI 3)), (3, .long (-1 : Int64)), (2, .int (nI 0)), (0, .ref (h 0)), (1, .int (nI 2))]) hx hb dX10_chosen_65 hl (k := 1) rfl (by decide +kernel) (by decide) rfl (fun ls hl => ?_)
      refine lv_goto (tgt := 44) hx hb dX10_chosen_68 (by decide) ?_
      refine lv_iload hx hb dX10_chosen_44 (lv_at hl 0 rfl) ?_
      refine lv_aload_n hx hb dX10_chosen_46 rfl (lv_at hl 5 rfl) ?_
      refine va_get (D := (dC, dI)) (ci := 10) (v := .int (gI 1)) (C := RX10) (T := TX10) (N := 28) hx hb hts hinX10 hown hK hP 0 rfl rfl 1 (by decide) (hts (.fieldLink RX10 13 "MixedWordsModel" "columns" "I") (by decide +kernel)) (fun _ h9 => h9) rfl dX10_chosen_47 ?_
      refine xt_i (y := nI 2) (by decide +kernel) ?_
      refine lv_icmp_ge (tgt := 71) hx hb dX10_chosen_50 (by decide) (fun _ => ?_) (fun c9 => False.elim (by revert c9; decide +kernel))
      refine lv_iload hx hb dX10_chosen_71 (lv_at hl 1 rfl) ?_
      refine lv_iload_n hx hb dX10_chosen_73 rfl (lv_at hl 6 rfl) ?_
      refine lv_icmp_ne (tgt := 115) hx hb dX10_chosen_74 (by decide) (fun c9 => False.elim (by revert c9; decide +kernel)) (fun _ => ?_)
      refine lv_aload_n hx hb dX10_chosen_77 rfl (lv_at hl 5 rfl) ?_
      refine lv_iload hx hb dX10_chosen_78 (lv_at hl 2 rfl) ?_
      refine xj_l (wc := (wD_177 h cs gI gL qA_210 gQ)) (wr := ([] : va_W)) hP hD hS hA [0, 1, 2, 3, 4, 5, 6, 7, 8, 9, 10, 11, 12, 13, 14, 15, 16] [] rfl rfl (by decide) (by decide) (va_runV (As := [.int (nI 3)]) (rest := []) ⟨hx, hb, hml, hown, hts⟩ (a_X10_worthOf_218 l dC dI h cs H.size gI gL qA_210 gQ ) (cwV 1 hts gX10_chosen_X10_worthOf rfl rfl rfl (by decide +kernel) ⟨Nat.le_of_ble_eq_true rfl, Nat.le_of_ble_eq_true rfl⟩) (xpV (wc := (wD_177 h cs gI gL qA_210 gQ)) hP hD hK hN [0, 1, 2, 3, 4, 5, 6, 7, 8, 9, 10, 11, 12, 13, 14, 15, 16] rfl (by decide) 0 (ci := 10) rfl rfl _) rfl rfl hl.1 rfl (lv_room (Nat.le_of_ble_eq_true rfl)) dX10_chosen_80 ⟨Nat.zero_le _, Nat.zero_le _⟩) (fun r_44 u_43 H locs hw hP hD hS => ?_)
      obtain ⟨hf_45, rfl⟩ := hw
      have hP : va_P (dC, dI) vwCl (rW h cs gI gL qA_210 gQ) H := hP
      have hD : va_D A0 (rW h cs gI gL qA_210 gQ) := hD
      obtain rfl := hf_45
      refine lv_lstore (lv' := [(7, .long (0 : Int64)), (6, .int (nI 2)), (5, .int (nI 3)), (3, .long (-1 : Int64)), (2, .int (nI 0)), (0, .ref (h 0)), (1, .int (nI 2))]) hx hb dX10_chosen_83 hl (by decide) rfl (fun ls hl => ?_)
      refine lv_lload hx hb dX10_chosen_85 (lv_at hl 0 rfl) ?_
      refine lv_lload_n hx hb dX10_chosen_87 rfl (lv_at hl 3 rfl) ?_
      refine xl_gt (tgt := 109) hx hb dX10_chosen_88 dX10_chosen_89 (by decide) (fun _ => ?_) (fun c9 => False.elim (by revert c9; decide +kernel))
      refine lv_lload hx hb dX10_chosen_109 (lv_at hl 0 rfl) ?_
      refine lv_lstore_n (lv' := [(3, .long (0 : Int64)), (7, .long (0 : Int64)), (6, .int (nI 2)), (5, .int (nI 3)), (2, .int (nI 0)), (0, .ref (h 0)), (1, .int (nI 2))]) hx hb dX10_chosen_111 rfl hl (by decide) rfl (fun ls hl => ?_)
      refine lv_iload hx hb dX10_chosen_112 (lv_at hl 3 rfl) ?_
      refine lv_istore_n (lv' := [(2, .int (nI 3)), (3, .long (0 : Int64)), (7, .long (0 : Int64)), (6, .int (nI 2)), (5, .int (nI 3)), (0, .ref (h 0)), (1, .int (nI 2))]) hx hb dX10_chosen_114 rfl hl (by decide) rfl (fun ls hl => ?_)
      refine lv_iinc (v := nI 4) (lv' := [(5, .int (nI 4)), (2, .int (nI 3)), (3, .long (0 : Int64)), (7, .long (0 : Int64)), (6, .int (nI 2)), (0, .ref (h 0)), (1, .int (nI 2))]) hx hb dX10_chosen_115 hl (k := 4) rfl (by decide +kernel) (by decide) rfl (fun ls hl => ?_)
      refine lv_goto (tgt := 29) hx hb dX10_chosen_118 (by decide) ?_
      refine lv_iload hx hb dX10_chosen_29 (lv_at hl 0 rfl) ?_
      refine lv_aload_n hx hb dX10_chosen_31 rfl (lv_at hl 5 rfl) ?_
      refine xj_i (wc := (wD_177 h cs gI gL qA_210 gQ)) (wr := ([] : va_W)) hP hD hS hA [0, 1, 2, 3, 4, 5, 6, 7, 8, 9, 10, 11, 12, 13, 14, 15, 16] [] rfl rfl (by decide) (by decide) (va_runV (As := []) (rest := [.int (nI 4)]) ⟨hx, hb, hml, hown, hts⟩ (a_X10_whole_222 l dC dI h cs H.size gI gL qA_210 gQ ) (cwV 0 hts gX10_chosen_X10_whole rfl rfl rfl (by decide +kernel) ⟨Nat.le_of_ble_eq_true rfl, Nat.le_of_ble_eq_true rfl⟩) (xpV (wc := (wD_177 h cs gI gL qA_210 gQ)) hP hD hK hN [0, 1, 2, 3, 4, 5, 6, 7, 8, 9, 10, 11, 12, 13, 14, 15, 16] rfl (by decide) 0 (ci := 10) rfl rfl _) rfl rfl hl.1 rfl (lv_room (Nat.le_of_ble_eq_true rfl)) dX10_chosen_32 ⟨Nat.zero_le _, Nat.zero_le _⟩) (fun r_47 u_46 H locs hw hP hD hS => ?_)
      obtain ⟨hf_48, rfl⟩ := hw
      have hP : va_P (dC, dI) vwCl (rW h cs gI gL qA_210 gQ) H := hP
      have hD : va_D A0 (rW h cs gI gL qA_210 gQ) := hD
      obtain rfl := hf_48
      refine lv_icmp_gt (tgt := 121) hx hb dX10_chosen_35 (by decide) (fun _ => ?_) (fun c9 => False.elim (by revert c9; decide +kernel))
      refine lv_iload_n hx hb dX10_chosen_121 rfl (lv_at hl 1 rfl) ?_
      exact xr_i (v := (nI 3)) hx hb hr hlocks hK hS dX10_chosen_122 (gI, gL, qA_210, gQ) ⟨qA_210, (by decide +kernel), rfl⟩ hP hD
  · skip
    refine lv_iload_n hx hb dX10_chosen_0 rfl (lv_at hl 1 rfl) ?_
    refine lv_i2l (v := x.toInt64) hx hb dX10_chosen_1 rfl ?_
    refine lv_lconst (v := 1) hx hb dX10_chosen_2 rfl ?_
    refine lv_aload_n hx hb dX10_chosen_3 rfl (lv_at hl 0 rfl) ?_
    refine va_get (D := (dC, dI)) (ci := 10) (v := .int (gI 1)) (C := RX10) (T := TX10) (N := 28) hx hb hts hinX10 hown hK hP 0 rfl rfl 1 (by decide) (hts (.fieldLink RX10 13 "MixedWordsModel" "columns" "I") (by decide +kernel)) (fun _ h9 => h9) rfl dX10_chosen_4 ?_
    refine xt_i (y := nI 2) (by decide +kernel) ?_
    refine lv_i2l (v := (2 : Int64)) hx hb dX10_chosen_7 (by decide +kernel) ?_
    refine xj_i (wc := ([] : va_W)) (wr := (rW h cs gI gL gA gQ)) hP hD hS hA [] [0, 1, 2, 3, 4, 5, 6, 7, 8, 9, 10, 11, 12, 13, 14, 15, 16] rfl rfl (by decide) (by decide) (va_runS (As := [.long x.toInt64, .long (1 : Int64), .long (2 : Int64)]) (rest := []) ⟨hx, hb, hml, hown, hts⟩ (k_X10_in l dC dI h cs H.size I L A Q x.toInt64 (1 : Int64) (2 : Int64)) (va_cwS 3 hts gX10_chosen_X10_in rfl rfl rfl (by decide +kernel) ⟨Nat.le_of_ble_eq_true rfl, Nat.le_of_ble_eq_true rfl⟩) (xpS (wc := ([] : va_W)) hP hD hK hN [] rfl (by decide) _) rfl rfl hl.1 rfl (lv_room (Nat.le_of_ble_eq_true rfl)) dX10_chosen_8 ⟨Nat.zero_le _, Nat.zero_le _⟩) (fun r_50 u_49 H locs hw hP hD hS => ?_)
    obtain ⟨hf_51, rfl⟩ := hw
    have hP : va_P (dC, dI) vwCl (rW h cs gI gL gA gQ) H := hP
    have hD : va_D A0 (rW h cs gI gL gA gQ) := hD
    rcases in_Z (a := 1) (b := 2) (by decide +kernel) (by decide +kernel) hf_51 with ⟨rfl, za_x, zb_x⟩ | ⟨rfl, -⟩
    · skip
      exact absurd hz_x (by omega)
    · skip
      refine lv_if_ne (tgt := 16) hx hb dX10_chosen_11 (by decide) (fun c9 => False.elim (by revert c9; decide +kernel)) (fun _ => ?_)
      refine lv_iconst (v := (-1)) hx hb dX10_chosen_14 (by decide) ?_
      exact xr_i (v := (-1)) hx hb hr hlocks hK hS dX10_chosen_15 (gI, gL, gA, gQ) ⟨gA, (by unfold an_chosen; rw [if_neg (by omega)]), rfl⟩ hP hD
