set_option maxHeartbeats 4000000 in
set_option maxRecDepth 100000 in
theorem a_X10_whole_222 (l : Launch) (dC : Nat → ClassId) (dI : Nat → Nat → Nat) (h : Nat → Nat) (cs : Nat → ClassId) (sz : Nat) (I : Nat → Int32) (L : Nat → Int64) (A : Nat → Nat → Int32) (Q : Nat → Nat → Int64) : Met l yX10_whole wsX10_whole ({ frames := 0, cells := 0, slots := 0, locals := 0 }) (va_Pc [.ref (h 0)] (xPre (dC, dI) (wD_177 h cs gI gL qA_210 gQ) (tysA cs) sz)) (va_Qi (fun (r : Int32) (u : RS) => (r = nI 3) ∧ u = (gI, gL, qA_210, gQ)) (xB (dC, dI) (tysA cs) (va_A (wD_177 h cs gI gL qA_210 gQ) sz) (fun u : RS => wD_177 h cs u.1 u.2.1 u.2.2.1 u.2.2.2)) (va_A (wD_177 h cs gI gL qA_210 gQ) sz)) 0 0 (va_A (wD_177 h cs gI gL qA_210 gQ) sz) := by
  refine Met.ofW (cc := cX10_whole) (maxL := 1) (ret := (some .int)) (by decide) rfl ?_
  intro p e s m args below meth c s₁ B hml hv
  obtain ⟨rfl, hsz, hP, hK, hD0, hN⟩ := hv
  have hx := B.exec
  have hb := B.bytes
  have hr := B.returns
  have hts := atoms_spec (ws := wsX10_whole) B.pre
  have hown : s.vm.findClass RX10 = some m.cls := findClass_of_methodNamed B.named
  have hlocks := B.notSynchronized
  subst hsz
  have hD := hD0.self (sz := s.heap.size)
  generalize hAe : va_A (wD_177 h cs gI gL qA_210 gQ) s.heap.size = A0 at hD ⊢
  have hA : ∀ q : Nat, s.heap.size ≤ q → A0 q := fun q h => by rw [← hAe]; exact Or.inr h
  have hl := lv_entry ([.ref (h 0)]) (n := 1) (Nat.le_of_ble_eq_true rfl)
  rw [lg_entry_eq]
  generalize (lg_sl ([.ref (h 0)]) ++ List.replicate (1 - (lg_sl ([.ref (h 0)])).length) Slot.unset).toArray = ls at hl ⊢
  have hl : lv_has ls 1 [(0, .ref (h 0))] := hl
  generalize hH : s.heap = H at hP ⊢
  have hS : va_S A0 s.heap H [] := by rw [← hH]; exact va_S.rf
  have hinX10 : ∀ w ∈ wsX100, w ∈ wsX10_whole := by decide +kernel
  refine lv_iconst (v := nI 1) hx hb dX10_whole_0 (by decide) ?_
  refine lv_aload_n hx hb dX10_whole_1 rfl (lv_at hl 0 rfl) ?_
  refine va_get (D := (dC, dI)) (ci := 10) (v := .int (gI 1)) (C := RX10) (T := TX10) (N := 28) hx hb hts hinX10 hown hK hP 0 rfl rfl 1 (by decide) (hts (.fieldLink RX10 13 "MixedWordsModel" "columns" "I") (by decide +kernel)) (fun _ h9 => h9) rfl dX10_whole_2 ?_
  refine xt_i (y := nI 2) (by decide +kernel) ?_
  refine lv_ishl hx hb dX10_whole_5 ?_
  refine xt_i (y := nI 4) (by decide +kernel) ?_
  refine lv_iconst (v := nI 1) hx hb dX10_whole_6 (by decide) ?_
  refine lv_isub hx hb dX10_whole_7 ?_
  refine xt_i (y := nI 3) (by decide +kernel) ?_
  exact xr_i (v := (nI 3)) hx hb hr hlocks hK hS dX10_whole_8 (gI, gL, qA_210, gQ) ⟨rfl, rfl⟩ hP hD
set_option maxHeartbeats 4000000 in
set_option maxRecDepth 100000 in
theorem f_X10_fraction (l : Launch) (dC : Nat → ClassId) (dI : Nat → Nat → Nat) (h : Nat → Nat) (cs : Nat → ClassId) (sz : Nat) (I : Nat → Int32) (L : Nat → Int64) (A : Nat → Nat → Int32) (Q : Nat → Nat → Int64) (x y : Int32) : Met l yX10_fraction wsX10_fraction ({ frames := 3, cells := 0, slots := 0, locals := 79 }) (va_Pc [.ref (h 0), .int x, .int y] (xPre (dC, dI) (rW h cs gI gL gA gQ) (tysA cs) sz)) (va_Ql (fun (r : Int64) (u : RS) => ∃ za9 : Nat → Nat → Int32, (r = an_fraction x y) ∧ u = (gI, gL, za9, gQ)) (xB (dC, dI) (tysA cs) (va_A (rW h cs gI gL gA gQ) sz) (fun u : RS => rW h cs u.1 u.2.1 u.2.2.1 u.2.2.2)) (va_A (rW h cs gI gL gA gQ) sz)) 0 0 (va_A (rW h cs gI gL gA gQ) sz) := by
  refine Met.ofW (cc := cX10_fraction) (maxL := 5) (ret := (some .long)) (by decide) rfl ?_
  intro p e s m args below meth c s₁ B hml hv
  obtain ⟨rfl, hsz, hP, hK, hD0, hN⟩ := hv
  have hx := B.exec
  have hb := B.bytes
  have hr := B.returns
  have hts := atoms_spec (ws := wsX10_fraction) B.pre
  have hown : s.vm.findClass RX10 = some m.cls := findClass_of_methodNamed B.named
  have hlocks := B.notSynchronized
  subst hsz
  have hD := hD0.self (sz := s.heap.size)
  generalize hAe : va_A (rW h cs gI gL gA gQ) s.heap.size = A0 at hD ⊢
  have hA : ∀ q : Nat, s.heap.size ≤ q → A0 q := fun q h => by rw [← hAe]; exact Or.inr h
  have hl := lv_entry ([.ref (h 0), .int x, .int y]) (n := 5) (Nat.le_of_ble_eq_true rfl)
  rw [lg_entry_eq]
  generalize (lg_sl ([.ref (h 0), .int x, .int y]) ++ List.replicate (5 - (lg_sl ([.ref (h 0), .int x, .int y])).length) Slot.unset).toArray = ls at hl ⊢
  have hl : lv_has ls 5 [(0, .ref (h 0)), (1, .int x), (2, .int y)] := hl
  generalize hH : s.heap = H at hP ⊢
  have hS : va_S A0 s.heap H [] := by rw [← hH]; exact va_S.rf
  have hinX10 : ∀ w ∈ wsX100, w ∈ wsX10_fraction := by decide +kernel
  rcases splR x 0 1 (by decide) with ⟨i_x, h_x, g_x, rfl⟩ | hz_x
  · skip
    rcases (show i_x = 0 ∨ i_x = 1 by omega) with rfl | rfl
    · skip
      rcases splR y 0 1 (by decide) with ⟨i_y, h_y, g_y, rfl⟩ | hz_y
      · skip
        rcases (show i_y = 0 ∨ i_y = 1 by omega) with rfl | rfl
        · skip
          refine lv_aload_n hx hb dX10_fraction_0 rfl (lv_at hl 0 rfl) ?_
          refine lv_iload_n hx hb dX10_fraction_1 rfl (lv_at hl 1 rfl) ?_
          refine xj_i (wc := (wD_177 h cs gI gL gA gQ)) (wr := ([] : va_W)) hP hD hS hA [0, 1, 2, 3, 4, 5, 6, 7, 8, 9, 10, 11, 12, 13, 14, 15, 16] [] rfl rfl (by decide) (by decide) (va_runV (As := [.int (nI 0)]) (rest := []) ⟨hx, hb, hml, hown, hts⟩ (a_X10_isColumn_200 l dC dI h cs H.size gI gL gA gQ ) (cwV 1 hts gX10_fraction_X10_isColumn rfl rfl rfl (by decide +kernel) ⟨Nat.le_of_ble_eq_true rfl, Nat.le_of_ble_eq_true rfl⟩) (xpV (wc := (wD_177 h cs gI gL gA gQ)) hP hD hK hN [0, 1, 2, 3, 4, 5, 6, 7, 8, 9, 10, 11, 12, 13, 14, 15, 16] rfl (by decide) 0 (ci := 10) rfl rfl _) rfl rfl hl.1 rfl (lv_room (Nat.le_of_ble_eq_true rfl)) dX10_fraction_2 ⟨Nat.zero_le _, Nat.zero_le _⟩) (fun r_2 u_1 H locs hw hP hD hS => ?_)
          obtain ⟨hf_3, rfl⟩ := hw
          have hP : va_P (dC, dI) vwCl (rW h cs gI gL gA gQ) H := hP
          have hD : va_D A0 (rW h cs gI gL gA gQ) := hD
          obtain rfl := hf_3
          refine lv_if_eq (tgt := 18) hx hb dX10_fraction_5 (by decide) (fun c9 => False.elim (by revert c9; decide +kernel)) (fun _ => ?_)
          refine lv_iload_n hx hb dX10_fraction_8 rfl (lv_at hl 2 rfl) ?_
          refine lv_i2l (v := (0 : Int64)) hx hb dX10_fraction_9 (by decide +kernel) ?_
          refine lv_lconst (v := 0) hx hb dX10_fraction_10 rfl ?_
          refine lv_lconst (v := 1) hx hb dX10_fraction_11 rfl ?_
          refine xj_i (wc := ([] : va_W)) (wr := (rW h cs gI gL gA gQ)) hP hD hS hA [] [0, 1, 2, 3, 4, 5, 6, 7, 8, 9, 10, 11, 12, 13, 14, 15, 16] rfl rfl (by decide) (by decide) (va_runS (As := [.long (0 : Int64), .long (0 : Int64), .long (1 : Int64)]) (rest := []) ⟨hx, hb, hml, hown, hts⟩ (a_X10_in_201 l dC dI h cs H.size I L A Q ) (va_cwS 3 hts gX10_fraction_X10_in rfl rfl rfl (by decide +kernel) ⟨Nat.le_of_ble_eq_true rfl, Nat.le_of_ble_eq_true rfl⟩) (xpS (wc := ([] : va_W)) hP hD hK hN [] rfl (by decide) _) rfl rfl hl.1 rfl (lv_room (Nat.le_of_ble_eq_true rfl)) dX10_fraction_12 ⟨Nat.zero_le _, Nat.zero_le _⟩) (fun r_5 u_4 H locs hw hP hD hS => ?_)
          obtain ⟨hf_6, rfl⟩ := hw
          have hP : va_P (dC, dI) vwCl (rW h cs gI gL gA gQ) H := hP
          have hD : va_D A0 (rW h cs gI gL gA gQ) := hD
          obtain rfl := hf_6
          refine lv_if_ne (tgt := 22) hx hb dX10_fraction_15 (by decide) (fun _ => ?_) (fun c9 => False.elim (by revert c9; decide +kernel))
          refine lv_aload_n hx hb dX10_fraction_22 rfl (lv_at hl 0 rfl) ?_
          refine xj_v (wc := (wD_177 h cs gI gL gA gQ)) (wr := ([] : va_W)) hP hD hS hA [0, 1, 2, 3, 4, 5, 6, 7, 8, 9, 10, 11, 12, 13, 14, 15, 16] [] rfl rfl (by decide) (by decide) (va_runV (As := []) (rest := []) ⟨hx, hb, hml, hown, hts⟩ (a_X10_lay_209 l dC dI h cs H.size gI gL gA gQ ) (cwV 0 hts gX10_fraction_X10_lay rfl rfl rfl (by decide +kernel) ⟨Nat.le_of_ble_eq_true rfl, Nat.le_of_ble_eq_true rfl⟩) (xpV (wc := (wD_177 h cs gI gL gA gQ)) hP hD hK hN [0, 1, 2, 3, 4, 5, 6, 7, 8, 9, 10, 11, 12, 13, 14, 15, 16] rfl (by decide) 0 (ci := 10) rfl rfl _) rfl rfl hl.1 rfl (lv_room (Nat.le_of_ble_eq_true rfl)) dX10_fraction_23 ⟨Nat.zero_le _, Nat.zero_le _⟩) (fun u_7 H locs hw hP hD hS => ?_)
          obtain ⟨hf_9, rfl⟩ := hw
          have hP : va_P (dC, dI) vwCl (rW h cs gI gL qA_210 gQ) H := hP
          have hD : va_D A0 (rW h cs gI gL qA_210 gQ) := hD
          refine lv_aload_n hx hb dX10_fraction_26 rfl (lv_at hl 0 rfl) ?_
          refine lv_aload_n hx hb dX10_fraction_27 rfl (lv_at hl 0 rfl) ?_
          refine xj_i (wc := (wD_177 h cs gI gL qA_210 gQ)) (wr := ([] : va_W)) hP hD hS hA [0, 1, 2, 3, 4, 5, 6, 7, 8, 9, 10, 11, 12, 13, 14, 15, 16] [] rfl rfl (by decide) (by decide) (va_runV (As := []) (rest := [.ref (h 0)]) ⟨hx, hb, hml, hown, hts⟩ (a_X10_whole_222 l dC dI h cs H.size gI gL qA_210 gQ ) (cwV 0 hts gX10_fraction_X10_whole rfl rfl rfl (by decide +kernel) ⟨Nat.le_of_ble_eq_true rfl, Nat.le_of_ble_eq_true rfl⟩) (xpV (wc := (wD_177 h cs gI gL qA_210 gQ)) hP hD hK hN [0, 1, 2, 3, 4, 5, 6, 7, 8, 9, 10, 11, 12, 13, 14, 15, 16] rfl (by decide) 0 (ci := 10) rfl rfl _) rfl rfl hl.1 rfl (lv_room (Nat.le_of_ble_eq_true rfl)) dX10_fraction_28 ⟨Nat.zero_le _, Nat.zero_le _⟩) (fun r_11 u_10 H locs hw hP hD hS => ?_)
          obtain ⟨hf_12, rfl⟩ := hw
          have hP : va_P (dC, dI) vwCl (rW h cs gI gL qA_210 gQ) H := hP
          have hD : va_D A0 (rW h cs gI gL qA_210 gQ) := hD
          obtain rfl := hf_12
          refine xj_l (wc := (wD_177 h cs gI gL qA_210 gQ)) (wr := ([] : va_W)) hP hD hS hA [0, 1, 2, 3, 4, 5, 6, 7, 8, 9, 10, 11, 12, 13, 14, 15, 16] [] rfl rfl (by decide) (by decide) (va_runV (As := [.int (nI 3)]) (rest := []) ⟨hx, hb, hml, hown, hts⟩ (a_X10_worthOf_218 l dC dI h cs H.size gI gL qA_210 gQ ) (cwV 1 hts gX10_fraction_X10_worthOf rfl rfl rfl (by decide +kernel) ⟨Nat.le_of_ble_eq_true rfl, Nat.le_of_ble_eq_true rfl⟩) (xpV (wc := (wD_177 h cs gI gL qA_210 gQ)) hP hD hK hN [0, 1, 2, 3, 4, 5, 6, 7, 8, 9, 10, 11, 12, 13, 14, 15, 16] rfl (by decide) 0 (ci := 10) rfl rfl _) rfl rfl hl.1 rfl (lv_room (Nat.le_of_ble_eq_true rfl)) dX10_fraction_31 ⟨Nat.zero_le _, Nat.zero_le _⟩) (fun r_14 u_13 H locs hw hP hD hS => ?_)
          obtain ⟨hf_15, rfl⟩ := hw
          have hP : va_P (dC, dI) vwCl (rW h cs gI gL qA_210 gQ) H := hP
          have hD : va_D A0 (rW h cs gI gL qA_210 gQ) := hD
          obtain rfl := hf_15
          refine lv_lconst (v := 0) hx hb dX10_fraction_34 rfl ?_
          refine xl_ne (tgt := 43) hx hb dX10_fraction_35 dX10_fraction_36 (by decide) (fun c9 => False.elim (by revert c9; decide +kernel)) (fun _ => ?_)
          refine lv_ldc2 (v := (-1000000000000002)) hx hb hown (hts (.constantLong RX10 213 (-1000000000000002)) (by decide +kernel)) dX10_fraction_39 ?_
          exact xr_l (v := (-1000000000000002 : Int64)) hx hb hr hlocks hK hS dX10_fraction_42 (gI, gL, qA_210, gQ) ⟨qA_210, (by decide +kernel), rfl⟩ hP hD
        · skip
          refine lv_aload_n hx hb dX10_fraction_0 rfl (lv_at hl 0 rfl) ?_
          refine lv_iload_n hx hb dX10_fraction_1 rfl (lv_at hl 1 rfl) ?_
          refine xj_i (wc := (wD_177 h cs gI gL gA gQ)) (wr := ([] : va_W)) hP hD hS hA [0, 1, 2, 3, 4, 5, 6, 7, 8, 9, 10, 11, 12, 13, 14, 15, 16] [] rfl rfl (by decide) (by decide) (va_runV (As := [.int (nI 0)]) (rest := []) ⟨hx, hb, hml, hown, hts⟩ (a_X10_isColumn_200 l dC dI h cs H.size gI gL gA gQ ) (cwV 1 hts gX10_fraction_X10_isColumn rfl rfl rfl (by decide +kernel) ⟨Nat.le_of_ble_eq_true rfl, Nat.le_of_ble_eq_true rfl⟩) (xpV (wc := (wD_177 h cs gI gL gA gQ)) hP hD hK hN [0, 1, 2, 3, 4, 5, 6, 7, 8, 9, 10, 11, 12, 13, 14, 15, 16] rfl (by decide) 0 (ci := 10) rfl rfl _) rfl rfl hl.1 rfl (lv_room (Nat.le_of_ble_eq_true rfl)) dX10_fraction_2 ⟨Nat.zero_le _, Nat.zero_le _⟩) (fun r_17 u_16 H locs hw hP hD hS => ?_)
          obtain ⟨hf_18, rfl⟩ := hw
          have hP : va_P (dC, dI) vwCl (rW h cs gI gL gA gQ) H := hP
          have hD : va_D A0 (rW h cs gI gL gA gQ) := hD
          obtain rfl := hf_18
          refine lv_if_eq (tgt := 18) hx hb dX10_fraction_5 (by decide) (fun c9 => False.elim (by revert c9; decide +kernel)) (fun _ => ?_)
          refine lv_iload_n hx hb dX10_fraction_8 rfl (lv_at hl 2 rfl) ?_
          refine lv_i2l (v := (1 : Int64)) hx hb dX10_fraction_9 (by decide +kernel) ?_
          refine lv_lconst (v := 0) hx hb dX10_fraction_10 rfl ?_
          refine lv_lconst (v := 1) hx hb dX10_fraction_11 rfl ?_
          refine xj_i (wc := ([] : va_W)) (wr := (rW h cs gI gL gA gQ)) hP hD hS hA [] [0, 1, 2, 3, 4, 5, 6, 7, 8, 9, 10, 11, 12, 13, 14, 15, 16] rfl rfl (by decide) (by decide) (va_runS (As := [.long (1 : Int64), .long (0 : Int64), .long (1 : Int64)]) (rest := []) ⟨hx, hb, hml, hown, hts⟩ (a_X10_in_206 l dC dI h cs H.size I L A Q ) (va_cwS 3 hts gX10_fraction_X10_in rfl rfl rfl (by decide +kernel) ⟨Nat.le_of_ble_eq_true rfl, Nat.le_of_ble_eq_true rfl⟩) (xpS (wc := ([] : va_W)) hP hD hK hN [] rfl (by decide) _) rfl rfl hl.1 rfl (lv_room (Nat.le_of_ble_eq_true rfl)) dX10_fraction_12 ⟨Nat.zero_le _, Nat.zero_le _⟩) (fun r_20 u_19 H locs hw hP hD hS => ?_)
          obtain ⟨hf_21, rfl⟩ := hw
          have hP : va_P (dC, dI) vwCl (rW h cs gI gL gA gQ) H := hP
          have hD : va_D A0 (rW h cs gI gL gA gQ) := hD
          obtain rfl := hf_21
          refine lv_if_ne (tgt := 22) hx hb dX10_fraction_15 (by decide) (fun _ => ?_) (fun c9 => False.elim (by revert c9; decide +kernel))
          refine lv_aload_n hx hb dX10_fraction_22 rfl (lv_at hl 0 rfl) ?_
          refine xj_v (wc := (wD_177 h cs gI gL gA gQ)) (wr := ([] : va_W)) hP hD hS hA [0, 1, 2, 3, 4, 5, 6, 7, 8, 9, 10, 11, 12, 13, 14, 15, 16] [] rfl rfl (by decide) (by decide) (va_runV (As := []) (rest := []) ⟨hx, hb, hml, hown, hts⟩ (a_X10_lay_209 l dC dI h cs H.size gI gL gA gQ ) (cwV 0 hts gX10_fraction_X10_lay rfl rfl rfl (by decide +kernel) ⟨Nat.le_of_ble_eq_true rfl, Nat.le_of_ble_eq_true rfl⟩) (xpV (wc := (wD_177 h cs gI gL gA gQ)) hP hD hK hN [0, 1, 2, 3, 4, 5, 6, 7, 8, 9, 10, 11, 12, 13, 14, 15, 16] rfl (by decide) 0 (ci := 10) rfl rfl _) rfl rfl hl.1 rfl (lv_room (Nat.le_of_ble_eq_true rfl)) dX10_fraction_23 ⟨Nat.zero_le _, Nat.zero_le _⟩) (fun u_22 H locs hw hP hD hS => ?_)
          obtain ⟨hf_24, rfl⟩ := hw
          have hP : va_P (dC, dI) vwCl (rW h cs gI gL qA_210 gQ) H := hP
          have hD : va_D A0 (rW h cs gI gL qA_210 gQ) := hD
          refine lv_aload_n hx hb dX10_fraction_26 rfl (lv_at hl 0 rfl) ?_
          refine lv_aload_n hx hb dX10_fraction_27 rfl (lv_at hl 0 rfl) ?_
          refine xj_i (wc := (wD_177 h cs gI gL qA_210 gQ)) (wr := ([] : va_W)) hP hD hS hA [0, 1, 2, 3, 4, 5, 6, 7, 8, 9, 10, 11, 12, 13, 14, 15, 16] [] rfl rfl (by decide) (by decide) (va_runV (As := []) (rest := [.ref (h 0)]) ⟨hx, hb, hml, hown, hts⟩ (a_X10_whole_222 l dC dI h cs H.size gI gL qA_210 gQ ) (cwV 0 hts gX10_fraction_X10_whole rfl rfl rfl (by decide +kernel) ⟨Nat.le_of_ble_eq_true rfl, Nat.le_of_ble_eq_true rfl⟩) (xpV (wc := (wD_177 h cs gI gL qA_210 gQ)) hP hD hK hN [0, 1, 2, 3, 4, 5, 6, 7, 8, 9, 10, 11, 12, 13, 14, 15, 16] rfl (by decide) 0 (ci := 10) rfl rfl _) rfl rfl hl.1 rfl (lv_room (Nat.le_of_ble_eq_true rfl)) dX10_fraction_28 ⟨Nat.zero_le _, Nat.zero_le _⟩) (fun r_26 u_25 H locs hw hP hD hS => ?_)
          obtain ⟨hf_27, rfl⟩ := hw
          have hP : va_P (dC, dI) vwCl (rW h cs gI gL qA_210 gQ) H := hP
          have hD : va_D A0 (rW h cs gI gL qA_210 gQ) := hD
          obtain rfl := hf_27
          refine xj_l (wc := (wD_177 h cs gI gL qA_210 gQ)) (wr := ([] : va_W)) hP hD hS hA [0, 1, 2, 3, 4, 5, 6, 7, 8, 9, 10, 11, 12, 13, 14, 15, 16] [] rfl rfl (by decide) (by decide) (va_runV (As := [.int (nI 3)]) (rest := []) ⟨hx, hb, hml, hown, hts⟩ (a_X10_worthOf_218 l dC dI h cs H.size gI gL qA_210 gQ ) (cwV 1 hts gX10_fraction_X10_worthOf rfl rfl rfl (by decide +kernel) ⟨Nat.le_of_ble_eq_true rfl, Nat.le_of_ble_eq_true rfl⟩) (xpV (wc := (wD_177 h cs gI gL qA_210 gQ)) hP hD hK hN [0, 1, 2, 3, 4, 5, 6, 7, 8, 9, 10, 11, 12, 13, 14, 15, 16] rfl (by decide) 0 (ci := 10) rfl rfl _) rfl rfl hl.1 rfl (lv_room (Nat.le_of_ble_eq_true rfl)) dX10_fraction_31 ⟨Nat.zero_le _, Nat.zero_le _⟩) (fun r_29 u_28 H locs hw hP hD hS => ?_)
          obtain ⟨hf_30, rfl⟩ := hw
          have hP : va_P (dC, dI) vwCl (rW h cs gI gL qA_210 gQ) H := hP
          have hD : va_D A0 (rW h cs gI gL qA_210 gQ) := hD
          obtain rfl := hf_30
          refine lv_lconst (v := 0) hx hb dX10_fraction_34 rfl ?_
          refine xl_ne (tgt := 43) hx hb dX10_fraction_35 dX10_fraction_36 (by decide) (fun c9 => False.elim (by revert c9; decide +kernel)) (fun _ => ?_)
          refine lv_ldc2 (v := (-1000000000000002)) hx hb hown (hts (.constantLong RX10 213 (-1000000000000002)) (by decide +kernel)) dX10_fraction_39 ?_
          exact xr_l (v := (-1000000000000002 : Int64)) hx hb hr hlocks hK hS dX10_fraction_42 (gI, gL, qA_210, gQ) ⟨qA_210, (by decide +kernel), rfl⟩ hP hD
      · skip
        refine lv_aload_n hx hb dX10_fraction_0 rfl (lv_at hl 0 rfl) ?_
        refine lv_iload_n hx hb dX10_fraction_1 rfl (lv_at hl 1 rfl) ?_
        refine xj_i (wc := (wD_177 h cs gI gL gA gQ)) (wr := ([] : va_W)) hP hD hS hA [0, 1, 2, 3, 4, 5, 6, 7, 8, 9, 10, 11, 12, 13, 14, 15, 16] [] rfl rfl (by decide) (by decide) (va_runV (As := [.int (nI 0)]) (rest := []) ⟨hx, hb, hml, hown, hts⟩ (a_X10_isColumn_200 l dC dI h cs H.size gI gL gA gQ ) (cwV 1 hts gX10_fraction_X10_isColumn rfl rfl rfl (by decide +kernel) ⟨Nat.le_of_ble_eq_true rfl, Nat.le_of_ble_eq_true rfl⟩) (xpV (wc := (wD_177 h cs gI gL gA gQ)) hP hD hK hN [0, 1, 2, 3, 4, 5, 6, 7, 8, 9, 10, 11, 12, 13, 14, 15, 16] rfl (by decide) 0 (ci := 10) rfl rfl _) rfl rfl hl.1 rfl (lv_room (Nat.le_of_ble_eq_true rfl)) dX10_fraction_2 ⟨Nat.zero_le _, Nat.zero_le _⟩) (fun r_32 u_31 H locs hw hP hD hS => ?_)
        obtain ⟨hf_33, rfl⟩ := hw
        have hP : va_P (dC, dI) vwCl (rW h cs gI gL gA gQ) H := hP
        have hD : va_D A0 (rW h cs gI gL gA gQ) := hD
        obtain rfl := hf_33
        refine lv_if_eq (tgt := 18) hx hb dX10_fraction_5 (by decide) (fun c9 => False.elim (by revert c9; decide +kernel)) (fun _ => ?_)
        refine lv_iload_n hx hb dX10_fraction_8 rfl (lv_at hl 2 rfl) ?_
        refine lv_i2l (v := y.toInt64) hx hb dX10_fraction_9 rfl ?_
        refine lv_lconst (v := 0) hx hb dX10_fraction_10 rfl ?_
        refine lv_lconst (v := 1) hx hb dX10_fraction_11 rfl ?_
        refine xj_i (wc := ([] : va_W)) (wr := (rW h cs gI gL gA gQ)) hP hD hS hA [] [0, 1, 2, 3, 4, 5, 6, 7, 8, 9, 10, 11, 12, 13, 14, 15, 16] rfl rfl (by decide) (by decide) (va_runS (As := [.long y.toInt64, .long (0 : Int64), .long (1 : Int64)]) (rest := []) ⟨hx, hb, hml, hown, hts⟩ (k_X10_in l dC dI h cs H.size I L A Q y.toInt64 (0 : Int64) (1 : Int64)) (va_cwS 3 hts gX10_fraction_X10_in rfl rfl rfl (by decide +kernel) ⟨Nat.le_of_ble_eq_true rfl, Nat.le_of_ble_eq_true rfl⟩) (xpS (wc := ([] : va_W)) hP hD hK hN [] rfl (by decide) _) rfl rfl hl.1 rfl (lv_room (Nat.le_of_ble_eq_true rfl)) dX10_fraction_12 ⟨Nat.zero_le _, Nat.zero_le _⟩) (fun r_35 u_34 H locs hw hP hD hS => ?_)
        obtain ⟨hf_36, rfl⟩ := hw
        have hP : va_P (dC, dI) vwCl (rW h cs gI gL gA gQ) H := hP
        have hD : va_D A0 (rW h cs gI gL gA gQ) := hD
        rcases in_Z (a := 0) (b := 1) (by decide +kernel) (by decide +kernel) hf_36 with ⟨rfl, za_y, zb_y⟩ | ⟨rfl, -⟩
        · skip
          exact absurd hz_y (by omega)
        · skip
          refine lv_if_ne (tgt := 22) hx hb dX10_fraction_15 (by decide) (fun c9 => False.elim (by revert c9; decide +kernel)) (fun _ => ?_)
          refine lv_ldc2 (v := (-1000000000000001)) hx hb hown (hts (.constantLong RX10 211 (-1000000000000001)) (by decide +kernel)) dX10_fraction_18 ?_
          exact xr_l (v := (-1000000000000001 : Int64)) hx hb hr hlocks hK hS dX10_fraction_21 (gI, gL, gA, gQ) ⟨gA, (by unfold an_fraction; rw [if_neg (by omega)]), rfl⟩ hP hD
    · skip
      rcases splR y 0 1 (by decide) with ⟨i_y, h_y, g_y, rfl⟩ | hz_y
      · skip
        rcases (show i_y = 0 ∨ i_y = 1 by omega) with rfl | rfl
        · skip
          refine lv_aload_n hx hb dX10_fraction_0 rfl (lv_at hl 0 rfl) ?_
          refine lv_iload_n hx hb dX10_fraction_1 rfl (lv_at hl 1 rfl) ?_
          refine xj_i (wc := (wD_177 h cs gI gL gA gQ)) (wr := ([] : va_W)) hP hD hS hA [0, 1, 2, 3, 4, 5, 6, 7, 8, 9, 10, 11, 12, 13, 14, 15, 16] [] rfl rfl (by decide) (by decide) (va_runV (As := [.int (nI 1)]) (rest := []) ⟨hx, hb, hml, hown, hts⟩ (a_X10_isColumn_205 l dC dI h cs H.size gI gL gA gQ ) (cwV 1 hts gX10_fraction_X10_isColumn rfl rfl rfl (by decide +kernel) ⟨Nat.le_of_ble_eq_true rfl, Nat.le_of_ble_eq_true rfl⟩) (xpV (wc := (wD_177 h cs gI gL gA gQ)) hP hD hK hN [0, 1, 2, 3, 4, 5, 6, 7, 8, 9, 10, 11, 12, 13, 14, 15, 16] rfl (by decide) 0 (ci := 10) rfl rfl _) rfl rfl hl.1 rfl (lv_room (Nat.le_of_ble_eq_true rfl)) dX10_fraction_2 ⟨Nat.zero_le _, Nat.zero_le _⟩) (fun r_38 u_37 H locs hw hP hD hS => ?_)
          obtain ⟨hf_39, rfl⟩ := hw
          have hP : va_P (dC, dI) vwCl (rW h cs gI gL gA gQ) H := hP
          have hD : va_D A0 (rW h cs gI gL gA gQ) := hD
          obtain rfl := hf_39
          refine lv_if_eq (tgt := 18) hx hb dX10_fraction_5 (by decide) (fun c9 => False.elim (by revert c9; decide +kernel)) (fun _ => ?_)
          refine lv_iload_n hx hb dX10_fraction_8 rfl (lv_at hl 2 rfl) ?_
          refine lv_i2l (v := (0 : Int64)) hx hb dX10_fraction_9 (by decide +kernel) ?_
          refine lv_lconst (v := 0) hx hb dX10_fraction_10 rfl ?_
          refine lv_lconst (v := 1) hx hb dX10_fraction_11 rfl ?_
          refine xj_i (wc := ([] : va_W)) (wr := (rW h cs gI gL gA gQ)) hP hD hS hA [] [0, 1, 2, 3, 4, 5, 6, 7, 8, 9, 10, 11, 12, 13, 14, 15, 16] rfl rfl (by decide) (by decide) (va_runS (As := [.long (0 : Int64), .long (0 : Int64), .long (1 : Int64)]) (rest := []) ⟨hx, hb, hml, hown, hts⟩ (a_X10_in_201 l dC dI h cs H.size I L A Q ) (va_cwS 3 hts gX10_fraction_X10_in rfl rfl rfl (by decide +kernel) ⟨Nat.le_of_ble_eq_true rfl, Nat.le_of_ble_eq_true rfl⟩) (xpS (wc := ([] : va_W)) hP hD hK hN [] rfl (by decide) _) rfl rfl hl.1 rfl (lv_room (Nat.le_of_ble_eq_true rfl)) dX10_fraction_12 ⟨Nat.zero_le _, Nat.zero_le _⟩) (fun r_41 u_40 H locs hw hP hD hS => ?_)
          obtain ⟨hf_42, rfl⟩ := hw
          have hP : va_P (dC, dI) vwCl (rW h cs gI gL gA gQ) H := hP
          have hD : va_D A0 (rW h cs gI gL gA gQ) := hD
          obtain rfl := hf_42
          refine lv_if_ne (tgt := 22) hx hb dX10_fraction_15 (by decide) (fun _ => ?_) (fun c9 => False.elim (by revert c9; decide +kernel))
          refine lv_aload_n hx hb dX10_fraction_22 rfl (lv_at hl 0 rfl) ?_
          refine xj_v (wc := (wD_177 h cs gI gL gA gQ)) (wr := ([] : va_W)) hP hD hS hA [0, 1, 2, 3, 4, 5, 6, 7, 8, 9, 10, 11, 12, 13, 14, 15, 16] [] rfl rfl (by decide) (by decide) (va_runV (As := []) (rest := []) ⟨hx, hb, hml, hown, hts⟩ (a_X10_lay_209 l dC dI h cs H.size gI gL gA gQ ) (cwV 0 hts gX10_fraction_X10_lay rfl rfl rfl (by decide +kernel) ⟨Nat.le_of_ble_eq_true rfl, Nat.le_of_ble_eq_true rfl⟩) (xpV (wc := (wD_177 h cs gI gL gA gQ)) hP hD hK hN [0, 1, 2, 3, 4, 5, 6, 7, 8, 9, 10, 11, 12, 13, 14, 15, 16] rfl (by decide) 0 (ci := 10) rfl rfl _) rfl rfl hl.1 rfl (lv_room (Nat.le_of_ble_eq_true rfl)) dX10_fraction_23 ⟨Nat.zero_le _, Nat.zero_le _⟩) (fun u_43 H locs hw hP hD hS => ?_)
          obtain ⟨hf_45, rfl⟩ := hw
          have hP : va_P (dC, dI) vwCl (rW h cs gI gL qA_210 gQ) H := hP
          have hD : va_D A0 (rW h cs gI gL qA_210 gQ) := hD
          refine lv_aload_n hx hb dX10_fraction_26 rfl (lv_at hl 0 rfl) ?_
          refine lv_aload_n hx hb dX10_fraction_27 rfl (lv_at hl 0 rfl) ?_
          refine xj_i (wc := (wD_177 h cs gI gL qA_210 gQ)) (wr := ([] : va_W)) hP hD hS hA [0, 1, 2, 3, 4, 5, 6, 7, 8, 9, 10, 11, 12, 13, 14, 15, 16] [] rfl rfl (by decide) (by decide) (va_runV (As := []) (rest := [.ref (h 0)]) ⟨hx, hb, hml, hown, hts⟩ (a_X10_whole_222 l dC dI h cs H.size gI gL qA_210 gQ ) (cwV 0 hts gX10_fraction_X10_whole rfl rfl rfl (by decide +kernel) ⟨Nat.le_of_ble_eq_true rfl, Nat.le_of_ble_eq_true rfl⟩) (xpV (wc := (wD_177 h cs gI gL qA_210 gQ)) hP hD hK hN [0, 1, 2, 3, 4, 5, 6, 7, 8, 9, 10, 11, 12, 13, 14, 15, 16] rfl (by decide) 0 (ci := 10) rfl rfl _) rfl rfl hl.1 rfl (lv_room (Nat.le_of_ble_eq_true rfl)) dX10_fraction_28 ⟨Nat.zero_le _, Nat.zero_le _⟩) (fun r_47 u_46 H locs hw hP hD hS => ?_)
          obtain ⟨hf_48, rfl⟩ := hw
          have hP : va_P (dC, dI) vwCl (rW h cs gI gL qA_210 gQ) H := hP
          have hD : va_D A0 (rW h cs gI gL qA_210 gQ) := hD
          obtain rfl := hf_48
          refine xj_l (wc := (wD_177 h cs gI gL qA_210 gQ)) (wr := ([] : va_W)) hP hD hS hA [0, 1, 2, 3, 4, 5, 6, 7, 8, 9, 10, 11, 12, 13, 14, 15, 16] [] rfl rfl (by decide) (by decide) (va_runV (As := [.int (nI 3)]) (rest := []) ⟨hx, hb, hml, hown, hts⟩ (a_X10_worthOf_218 l dC dI h cs H.size gI gL qA_210 gQ ) (cwV 1 hts gX10_fraction_X10_worthOf rfl rfl rfl (by decide +kernel) ⟨Nat.le_of_ble_eq_true rfl, Nat.le_of_ble_eq_true rfl⟩) (xpV (wc := (wD_177 h cs gI gL qA_210 gQ)) hP hD hK hN [0, 1, 2, 3, 4, 5, 6, 7, 8, 9, 10, 11, 12, 13, 14, 15, 16] rfl (by decide) 0 (ci := 10) rfl rfl _) rfl rfl hl.1 rfl (lv_room (Nat.le_of_ble_eq_true rfl)) dX10_fraction_31 ⟨Nat.zero_le _, Nat.zero_le _⟩) (fun r_50 u_49 H locs hw hP hD hS => ?_)
          obtain ⟨hf_51, rfl⟩ := hw
          have hP : va_P (dC, dI) vwCl (rW h cs gI gL qA_210 gQ) H := hP
          have hD : va_D A0 (rW h cs gI gL qA_210 gQ) := hD
          obtain rfl := hf_51
          refine lv_lconst (v := 0) hx hb dX10_fraction_34 rfl ?_
          refine xl_ne (tgt := 43) hx hb dX10_fraction_35 dX10_fraction_36 (by decide) (fun c9 => False.elim (by revert c9; decide +kernel)) (fun _ => ?_)
          refine lv_ldc2 (v := (-1000000000000002)) hx hb hown (hts (.constantLong RX10 213 (-1000000000000002)) (by decide +kernel)) dX10_fraction_39 ?_
          exact xr_l (v := (-1000000000000002 : Int64)) hx hb hr hlocks hK hS dX10_fraction_42 (gI, gL, qA_210, gQ) ⟨qA_210, (by decide +kernel), rfl⟩ hP hD
        · skip
          refine lv_aload_n hx hb dX10_fraction_0 rfl (lv_at hl 0 rfl) ?_
          refine lv_iload_n hx hb dX10_fraction_1 rfl (lv_at hl 1 rfl) ?_
          refine xj_i (wc := (wD_177 h cs gI gL gA gQ)) (wr := ([] : va_W)) hP hD hS hA [0, 1, 2, 3, 4, 5, 6, 7, 8, 9, 10, 11, 12, 13, 14, 15, 16] [] rfl rfl (by decide) (by decide) (va_runV (As := [.int (nI 1)]) (rest := []) ⟨hx, hb, hml, hown, hts⟩ (a_X10_isColumn_205 l dC dI h cs H.size gI gL gA gQ ) (cwV 1 hts gX10_fraction_X10_isColumn rfl rfl rfl (by decide +kernel) ⟨Nat.le_of_ble_eq_true rfl, Nat.le_of_ble_eq_true rfl⟩) (xpV (wc := (wD_177 h cs gI gL gA gQ)) hP hD hK hN [0, 1, 2, 3, 4, 5, 6, 7, 8, 9, 10, 11, 12, 13, 14, 15, 16] rfl (by decide) 0 (ci := 10) rfl rfl _) rfl rfl hl.1 rfl (lv_room (Nat.le_of_ble_eq_true rfl)) dX10_fraction_2 ⟨Nat.zero_le _, Nat.zero_le _⟩) (fun r_53 u_52 H locs hw hP hD hS => ?_)
          obtain ⟨hf_54, rfl⟩ := hw
          have hP : va_P (dC, dI) vwCl (rW h cs gI gL gA gQ) H := hP
          have hD : va_D A0 (rW h cs gI gL gA gQ) := hD
          obtain rfl := hf_54
          refine lv_if_eq (tgt := 18) hx hb dX10_fraction_5 (by decide) (fun c9 => False.elim (by revert c9; decide +kernel)) (fun _ => ?_)
          refine lv_iload_n hx hb dX10_fraction_8 rfl (lv_at hl 2 rfl) ?_
          refine lv_i2l (v := (1 : Int64)) hx hb dX10_fraction_9 (by decide +kernel) ?_
          refine lv_lconst (v := 0) hx hb dX10_fraction_10 rfl ?_
          refine lv_lconst (v := 1) hx hb dX10_fraction_11 rfl ?_
          refine xj_i (wc := ([] : va_W)) (wr := (rW h cs gI gL gA gQ)) hP hD hS hA [] [0, 1, 2, 3, 4, 5, 6, 7, 8, 9, 10, 11, 12, 13, 14, 15, 16] rfl rfl (by decide) (by decide) (va_runS (As := [.long (1 : Int64), .long (0 : Int64), .long (1 : Int64)]) (rest := []) ⟨hx, hb, hml, hown, hts⟩ (a_X10_in_206 l dC dI h cs H.size I L A Q ) (va_cwS 3 hts gX10_fraction_X10_in rfl rfl rfl (by decide +kernel) ⟨Nat.le_of_ble_eq_true rfl, Nat.le_of_ble_eq_true rfl⟩) (xpS (wc := ([] : va_W)) hP hD hK hN [] rfl (by decide) _) rfl rfl hl.1 rfl (lv_room (Nat.le_of_ble_eq_true rfl)) dX10_fraction_12 ⟨Nat.zero_le _, Nat.zero_le _⟩) (fun r_56 u_55 H locs hw hP hD hS => ?_)
          obtain ⟨hf_57, rfl⟩ := hw
          have hP : va_P (dC, dI) vwCl (rW h cs gI gL gA gQ) H := hP
          have hD : va_D A0 (rW h cs gI gL gA gQ) := hD
          obtain rfl := hf_57
          refine lv_if_ne (tgt := 22) hx hb dX10_fraction_15 (by decide) (fun _ => ?_) (fun c9 => False.elim (by revert c9; decide +kernel))
          refine lv_aload_n hx hb dX10_fraction_22 rfl (lv_at hl 0 rfl) ?_
          refine xj_v (wc := (wD_177 h cs gI gL gA gQ)) (wr := ([] : va_W)) hP hD hS hA [0, 1, 2, 3, 4, 5, 6, 7, 8, 9, 10, 11, 12, 13, 14, 15, 16] [] rfl rfl (by decide) (by decide) (va_runV (As := []) (rest := []) ⟨hx, hb, hml, hown, hts⟩ (a_X10_lay_209 l dC dI h cs H.size gI gL gA gQ ) (cwV 0 hts gX10_fraction_X10_lay rfl rfl rfl (by decide +kernel) ⟨Nat.le_of_ble_eq_true rfl, Nat.le_of_ble_eq_true rfl⟩) (xpV (wc := (wD_177 h cs gI gL gA gQ)) hP hD hK hN [0, 1, 2, 3, 4, 5, 6, 7, 8, 9, 10, 11, 12, 13, 14, 15, 16] rfl (by decide) 0 (ci := 10) rfl rfl _) rfl rfl hl.1 rfl (lv_room (Nat.le_of_ble_eq_true rfl)) dX10_fraction_23 ⟨Nat.zero_le _, Nat.zero_le _⟩) (fun u_58 H locs hw hP hD hS => ?_)
          obtain ⟨hf_60, rfl⟩ := hw
          have hP : va_P (dC, dI) vwCl (rW h cs gI gL qA_210 gQ) H := hP
          have hD : va_D A0 (rW h cs gI gL qA_210 gQ) := hD
          refine lv_aload_n hx hb dX10_fraction_26 rfl (lv_at hl 0 rfl) ?_
          refine lv_aload_n hx hb dX10_fraction_27 rfl (lv_at hl 0 rfl) ?_
          refine xj_i (wc := (wD_177 h cs gI gL qA_210 gQ)) (wr := ([] : va_W)) hP hD hS hA [0, 1, 2, 3, 4, 5, 6, 7, 8, 9, 10, 11, 12, 13, 14, 15, 16] [] rfl rfl (by decide) (by decide) (va_runV (As := []) (rest := [.ref (h 0)]) ⟨hx, hb, hml, hown, hts⟩ (a_X10_whole_222 l dC dI h cs H.size gI gL qA_210 gQ ) (cwV 0 hts gX10_fraction_X10_whole rfl rfl rfl (by decide +kernel) ⟨Nat.le_of_ble_eq_true rfl, Nat.le_of_ble_eq_true rfl⟩) (xpV (wc := (wD_177 h cs gI gL qA_210 gQ)) hP hD hK hN [0, 1, 2, 3, 4, 5, 6, 7, 8, 9, 10, 11, 12, 13, 14, 15, 16] rfl (by decide) 0 (ci := 10) rfl rfl _) rfl rfl hl.1 rfl (lv_room (Nat.le_of_ble_eq_true rfl)) dX10_fraction_28 ⟨Nat.zero_le _, Nat.zero_le _⟩) (fun r_62 u_61 H locs hw hP hD hS => ?_)
          obtain ⟨hf_63, rfl⟩ := hw
          have hP : va_P (dC, dI) vwCl (rW h cs gI gL qA_210 gQ) H := hP
          have hD : va_D A0 (rW h cs gI gL qA_210 gQ) := hD
          obtain rfl := hf_63
          refine xj_l (wc := (wD_177 h cs gI gL qA_210 gQ)) (wr := ([] : va_W)) hP hD hS hA [0, 1, 2, 3, 4, 5, 6, 7, 8, 9, 10, 11, 12, 13, 14, 15, 16] [] rfl rfl (by decide) (by decide) (va_runV (As := [.int (nI 3)]) (rest := []) ⟨hx, hb, hml, hown, hts⟩ (a_X10_worthOf_218 l dC dI h cs H.size gI gL qA_210 gQ ) (cwV 1 hts gX10_fraction_X10_worthOf rfl rfl rfl (by decide +kernel) ⟨Nat.le_of_ble_eq_true rfl, Nat.le_of_ble_eq_true rfl⟩) (xpV (wc := (wD_177 h cs gI gL qA_210 gQ)) hP hD hK hN [0, 1, 2, 3, 4, 5, 6, 7, 8, 9, 10, 11, 12, 13, 14, 15, 16] rfl (by decide) 0 (ci := 10) rfl rfl _) rfl rfl hl.1 rfl (lv_room (Nat.le_of_ble_eq_true rfl)) dX10_fraction_31 ⟨Nat.zero_le _, Nat.zero_le _⟩) (fun r_65 u_64 H locs hw hP hD hS => ?_)
          obtain ⟨hf_66, rfl⟩ := hw
          have hP : va_P (dC, dI) vwCl (rW h cs gI gL qA_210 gQ) H := hP
          have hD : va_D A0 (rW h cs gI gL qA_210 gQ) := hD
          obtain rfl := hf_66
          refine lv_lconst (v := 0) hx hb dX10_fraction_34 rfl ?_
          refine xl_ne (tgt := 43) hx hb dX10_fraction_35 dX10_fraction_36 (by decide) (fun c9 => False.elim (by revert c9; decide +kernel)) (fun _ => ?_)
          refine lv_ldc2 (v := (-1000000000000002)) hx hb hown (hts (.constantLong RX10 213 (-1000000000000002)) (by decide +kernel)) dX10_fraction_39 ?_
          exact xr_l (v := (-1000000000000002 : Int64)) hx hb hr hlocks hK hS dX10_fraction_42 (gI, gL, qA_210, gQ) ⟨qA_210, (by decide +kernel), rfl⟩ hP hD
      · skip
        refine lv_aload_n hx hb dX10_fraction_0 rfl (lv_at hl 0 rfl) ?_
        refine lv_iload_n hx hb dX10_fraction_1 rfl (lv_at hl 1 rfl) ?_
        refine xj_i (wc := (wD_177 h cs gI gL gA gQ)) (wr := ([] : va_W)) hP hD hS hA [0, 1, 2, 3, 4, 5, 6, 7, 8, 9, 10, 11, 12, 13, 14, 15, 16] [] rfl rfl (by decide) (by decide) (va_runV (As := [.int (nI 1)]) (rest := []) ⟨hx, hb, hml, hown, hts⟩ (a_X10_isColumn_205 l dC dI h cs H.size gI gL gA gQ ) (cwV 1 hts gX10_fraction_X10_isColumn rfl rfl rfl (by decide +kernel) ⟨Nat.le_of_ble_eq_true rfl, Nat.le_of_ble_eq_true rfl⟩) (xpV (wc := (wD_177 h cs gI gL gA gQ)) hP hD hK hN [0, 1, 2, 3, 4, 5, 6, 7, 8, 9, 10, 11, 12, 13, 14, 15, 16] rfl (by decide) 0 (ci := 10) rfl rfl _) rfl rfl hl.1 rfl (lv_room (Nat.le_of_ble_eq_true rfl)) dX10_fraction_2 ⟨Nat.zero_le _, Nat.zero_le _⟩) (fun r_68 u_67 H locs hw hP hD hS => ?_)
        obtain ⟨hf_69, rfl⟩ := hw
        have hP : va_P (dC, dI) vwCl (rW h cs gI gL gA gQ) H := hP
        have hD : va_D A0 (rW h cs gI gL gA gQ) := hD
        obtain rfl := hf_69
        refine lv_if_eq (tgt := 18) hx hb dX10_fraction_5 (by decide) (fun c9 => False.elim (by revert c9; decide +kernel)) (fun _ => ?_)
        refine lv_iload_n hx hb dX10_fraction_8 rfl (lv_at hl 2 rfl) ?_
        refine lv_i2l (v := y.toInt64) hx hb dX10_fraction_9 rfl ?_
        refine lv_lconst (v := 0) hx hb dX10_fraction_10 rfl ?_
        refine lv_lconst (v := 1) hx hb dX10_fraction_11 rfl ?_
        refine xj_i (wc := ([] : va_W)) (wr := (rW h cs gI gL gA gQ)) hP hD hS hA [] [0, 1, 2, 3, 4, 5, 6, 7, 8, 9, 10, 11, 12, 13, 14, 15, 16] rfl rfl (by decide) (by decide) (va_runS (As := [.long y.toInt64, .long (0 : Int64), .long (1 : Int64)]) (rest := []) ⟨hx, hb, hml, hown, hts⟩ (k_X10_in l dC dI h cs H.size I L A Q y.toInt64 (0 : Int64) (1 : Int64)) (va_cwS 3 hts gX10_fraction_X10_in rfl rfl rfl (by decide +kernel) ⟨Nat.le_of_ble_eq_true rfl, Nat.le_of_ble_eq_true rfl⟩) (xpS (wc := ([] : va_W)) hP hD hK hN [] rfl (by decide) _) rfl rfl hl.1 rfl (lv_room (Nat.le_of_ble_eq_true rfl)) dX10_fraction_12 ⟨Nat.zero_le _, Nat.zero_le _⟩) (fun r_71 u_70 H locs hw hP hD hS => ?_)
        obtain ⟨hf_72, rfl⟩ := hw
        have hP : va_P (dC, dI) vwCl (rW h cs gI gL gA gQ) H := hP
        have hD : va_D A0 (rW h cs gI gL gA gQ) := hD
        rcases in_Z (a := 0) (b := 1) (by decide +kernel) (by decide +kernel) hf_72 with ⟨rfl, za_y, zb_y⟩ | ⟨rfl, -⟩
        · skip
          exact absurd hz_y (by omega)
        · skip
          refine lv_if_ne (tgt := 22) hx hb dX10_fraction_15 (by decide) (fun c9 => False.elim (by revert c9; decide +kernel)) (fun _ => ?_)
          refine lv_ldc2 (v := (-1000000000000001)) hx hb hown (hts (.constantLong RX10 211 (-1000000000000001)) (by decide +kernel)) dX10_fraction_18 ?_
          exact xr_l (v := (-1000000000000001 : Int64)) hx hb hr hlocks hK hS dX10_fraction_21 (gI, gL, gA, gQ) ⟨gA, (by unfold an_fraction; rw [if_neg (by omega)]), rfl⟩ hP hD
  · skip
    refine lv_aload_n hx hb dX10_fraction_0 rfl (lv_at hl 0 rfl) ?_
    refine lv_iload_n hx hb dX10_fraction_1 rfl (lv_at hl 1 rfl) ?_
    refine xj_i (wc := (rW h cs gI gL gA gQ)) (wr := ([] : va_W)) hP hD hS hA [0, 1, 2, 3, 4, 5, 6, 7, 8, 9, 10, 11, 12, 13, 14, 15, 16] [] rfl rfl (by decide) (by decide) (va_runV (As := [.int x]) (rest := []) ⟨hx, hb, hml, hown, hts⟩ (k_X10_isColumn l dC dI h cs H.size gI gL gA gQ x 2 (by decide +kernel) (by first | assumption | omega) (by first | assumption | omega)) (cwV 1 hts gX10_fraction_X10_isColumn rfl rfl rfl (by decide +kernel) ⟨Nat.le_of_ble_eq_true rfl, Nat.le_of_ble_eq_true rfl⟩) (xpV (wc := (rW h cs gI gL gA gQ)) hP hD hK hN [0, 1, 2, 3, 4, 5, 6, 7, 8, 9, 10, 11, 12, 13, 14, 15, 16] rfl (by decide) 0 (ci := 10) rfl rfl _) rfl rfl hl.1 rfl (lv_room (Nat.le_of_ble_eq_true rfl)) dX10_fraction_2 ⟨Nat.zero_le _, Nat.zero_le _⟩) (fun r_74 u_73 H locs hw hP hD hS => ?_)
    obtain ⟨hf_75, rfl⟩ := hw
    have hP : va_P (dC, dI) vwCl (rW h cs gI gL gA gQ) H := hP
    have hD : va_D A0 (rW h cs gI gL gA gQ) := hD
    rcases hf_75 with ⟨rfl, i_76, hh_77, ee_78⟩ | ⟨rfl, -⟩
    · skip
      exact absurd (by rw [ee_78, nI_toInt (by omega)]; omega) hz_x
    · skip
      refine lv_if_eq (tgt := 18) hx hb dX10_fraction_5 (by decide) (fun _ => ?_) (fun c9 => False.elim (by revert c9; decide +kernel))
      refine lv_ldc2 (v := (-1000000000000001)) hx hb hown (hts (.constantLong RX10 211 (-1000000000000001)) (by decide +kernel)) dX10_fraction_18 ?_
      exact xr_l (v := (-1000000000000001 : Int64)) hx hb hr hlocks hK hS dX10_fraction_21 (gI, gL, gA, gQ) ⟨gA, (by unfold an_fraction; rw [if_neg (by omega)]), rfl⟩ hP hD
