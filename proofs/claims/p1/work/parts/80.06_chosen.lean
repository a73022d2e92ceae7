set_option maxHeartbeats 4000000 in
set_option maxRecDepth 100000 in
theorem a_X10_in_204 (l : Launch) (dC : Nat → ClassId) (dI : Nat → Nat → Nat) (h : Nat → Nat) (cs : Nat → ClassId) (sz : Nat) (I : Nat → Int32) (L : Nat → Int64) (A : Nat → Nat → Int32) (Q : Nat → Nat → Int64) : Met l yX10_in wsX10_in ({ frames := 0, cells := 0, slots := 0, locals := 0 }) (va_Pc [.long (1 : Int64), .long (1 : Int64), .long (2 : Int64)] (xPre (dC, dI) ([] : va_W) (tysA cs) sz)) (va_Qi (fun (r : Int32) (u : RS) => (r = nI 1) ∧ u = (I, L, A, Q)) (xB (dC, dI) (tysA cs) (va_A ([] : va_W) sz) (fun _ : RS => ([] : va_W))) (va_A ([] : va_W) sz)) 0 0 (va_A ([] : va_W) sz) := by
  refine Met.ofW (cc := cX10_in) (maxL := 6) (ret := (some .boolean)) (by decide) rfl ?_
  intro p e s m args below meth c s₁ B hml hv
  obtain ⟨rfl, hsz, hP, hK, hD0, hN⟩ := hv
  have hx := B.exec
  have hb := B.bytes
  have hr := B.returns
  have hts := atoms_spec (ws := wsX10_in) B.pre
  have hown : s.vm.findClass RX10 = some m.cls := findClass_of_methodNamed B.named
  have hlocks := B.notSynchronized
  subst hsz
  have hD := hD0.self (sz := s.heap.size)
  generalize hAe : va_A ([] : va_W) s.heap.size = A0 at hD ⊢
  have hA : ∀ q : Nat, s.heap.size ≤ q → A0 q := fun q h => by rw [← hAe]; exact Or.inr h
  have hl := lv_entry ([.long (1 : Int64), .long (1 : Int64), .long (2 : Int64)]) (n := 6) (Nat.le_of_ble_eq_true rfl)
  rw [lg_entry_eq]
  generalize (lg_sl ([.long (1 : Int64), .long (1 : Int64), .long (2 : Int64)]) ++ List.replicate (6 - (lg_sl ([.long (1 : Int64), .long (1 : Int64), .long (2 : Int64)])).length) Slot.unset).toArray = ls at hl ⊢
  have hl : lv_has ls 6 [(0, .long (1 : Int64)), (2, .long (1 : Int64)), (4, .long (2 : Int64))] := hl
  generalize hH : s.heap = H at hP ⊢
  have hS : va_S A0 s.heap H [] := by rw [← hH]; exact va_S.rf
  refine lv_lload_n hx hb dX10_in_0 rfl (lv_at hl 0 rfl) ?_
  refine lv_lload_n hx hb dX10_in_1 rfl (lv_at hl 1 rfl) ?_
  refine xl_lt (tgt := 17) hx hb dX10_in_2 dX10_in_3 (by decide) (fun c9 => False.elim (by revert c9; decide +kernel)) (fun _ => ?_)
  refine lv_lload_n hx hb dX10_in_6 rfl (lv_at hl 0 rfl) ?_
  refine lv_lload hx hb dX10_in_7 (lv_at hl 2 rfl) ?_
  refine xl_gt (tgt := 17) hx hb dX10_in_9 dX10_in_10 (by decide) (fun c9 => False.elim (by revert c9; decide +kernel)) (fun _ => ?_)
  refine lv_iconst (v := nI 1) hx hb dX10_in_13 (by decide) ?_
  refine lv_goto (tgt := 18) hx hb dX10_in_14 (by decide) ?_
  exact xr_z (v := (nI 1)) hx hb hr hlocks hK hS dX10_in_18 (rfl) (I, L, A, Q) ⟨rfl, rfl⟩ hP hD
set_option maxHeartbeats 4000000 in
set_option maxRecDepth 100000 in
theorem a_X10_in_205 (l : Launch) (dC : Nat → ClassId) (dI : Nat → Nat → Nat) (h : Nat → Nat) (cs : Nat → ClassId) (sz : Nat) (I : Nat → Int32) (L : Nat → Int64) (A : Nat → Nat → Int32) (Q : Nat → Nat → Int64) : Met l yX10_in wsX10_in ({ frames := 0, cells := 0, slots := 0, locals := 0 }) (va_Pc [.long (2 : Int64), .long (1 : Int64), .long (2 : Int64)] (xPre (dC, dI) ([] : va_W) (tysA cs) sz)) (va_Qi (fun (r : Int32) (u : RS) => (r = nI 1) ∧ u = (I, L, A, Q)) (xB (dC, dI) (tysA cs) (va_A ([] : va_W) sz) (fun _ : RS => ([] : va_W))) (va_A ([] : va_W) sz)) 0 0 (va_A ([] : va_W) sz) := by
  refine Met.ofW (cc := cX10_in) (maxL := 6) (ret := (some .boolean)) (by decide) rfl ?_
  intro p e s m args below meth c s₁ B hml hv
  obtain ⟨rfl, hsz, hP, hK, hD0, hN⟩ := hv
  have hx := B.exec
  have hb := B.bytes
  have hr := B.returns
  have hts := atoms_spec (ws := wsX10_in) B.pre
  have hown : s.vm.findClass RX10 = some m.cls := findClass_of_methodNamed B.named
  have hlocks := B.notSynchronized
  subst hsz
  have hD := hD0.self (sz := s.heap.size)
  generalize hAe : va_A ([] : va_W) s.heap.size = A0 at hD ⊢
  have hA : ∀ q : Nat, s.heap.size ≤ q → A0 q := fun q h => by rw [← hAe]; exact Or.inr h
  have hl := lv_entry ([.long (2 : Int64), .long (1 : Int64), .long (2 : Int64)]) (n := 6) (Nat.le_of_ble_eq_true rfl)
  rw [lg_entry_eq]
  generalize (lg_sl ([.long (2 : Int64), .long (1 : Int64), .long (2 : Int64)]) ++ List.replicate (6 - (lg_sl ([.long (2 : Int64), .long (1 : Int64), .long (2 : Int64)])).length) Slot.unset).toArray = ls at hl ⊢
  have hl : lv_has ls 6 [(0, .long (2 : Int64)), (2, .long (1 : Int64)), (4, .long (2 : Int64))] := hl
  generalize hH : s.heap = H at hP ⊢
  have hS : va_S A0 s.heap H [] := by rw [← hH]; exact va_S.rf
  refine lv_lload_n hx hb dX10_in_0 rfl (lv_at hl 0 rfl) ?_
  refine lv_lload_n hx hb dX10_in_1 rfl (lv_at hl 1 rfl) ?_
  refine xl_lt (tgt := 17) hx hb dX10_in_2 dX10_in_3 (by decide) (fun c9 => False.elim (by revert c9; decide +kernel)) (fun _ => ?_)
  refine lv_lload_n hx hb dX10_in_6 rfl (lv_at hl 0 rfl) ?_
  refine lv_lload hx hb dX10_in_7 (lv_at hl 2 rfl) ?_
  refine xl_gt (tgt := 17) hx hb dX10_in_9 dX10_in_10 (by decide) (fun c9 => False.elim (by revert c9; decide +kernel)) (fun _ => ?_)
  refine lv_iconst (v := nI 1) hx hb dX10_in_13 (by decide) ?_
  refine lv_goto (tgt := 18) hx hb dX10_in_14 (by decide) ?_
  exact xr_z (v := (nI 1)) hx hb hr hlocks hK hS dX10_in_18 (rfl) (I, L, A, Q) ⟨rfl, rfl⟩ hP hD
set_option maxHeartbeats 4000000 in
set_option maxRecDepth 100000 in
theorem f_X10_chosen (l : Launch) (dC : Nat → ClassId) (dI : Nat → Nat → Nat) (h : Nat → Nat) (cs : Nat → ClassId) (sz : Nat) (I : Nat → Int32) (L : Nat → Int64) (A : Nat → Nat → Int32) (Q : Nat → Nat → Int64) (x : Int32) : Met l yX10_chosen wsX10_chosen ({ frames := 2, cells := 0, slots := 0, locals := 55 }) (va_Pc [.ref (h 0), .int x] (xPre (dC, dI) (rW h cs gI gL gA gQ) (tysA cs) sz)) (va_Qi (fun (r : Int32) (u : RS) => (r = an_chosen x) ∧ u = (gI, gL, gA, gQ)) (xB (dC, dI) (tysA cs) (va_A (rW h cs gI gL gA gQ) sz) (fun u : RS => rW h cs u.1 u.2.1 u.2.2.1 u.2.2.2)) (va_A (rW h cs gI gL gA gQ) sz)) 0 0 (va_A (rW h cs gI gL gA gQ) sz) := by
  refine Met.ofW (cc := cX10_chosen) (maxL := 9) (ret := (some .int)) (by decide) rfl ?_
  intro p e s m args below meth c s₁ B hml hv
  obtain ⟨rfl, hsz, hP, hK, hD0, hN⟩ := hv
  have hx := B.exec
  have hb := B.bytes
  have hr := B.returns
  have hts := atoms_spec (ws := wsX10_chosen) B.pre
  have hown : s.vm.findClass RX10 = some m.cls := findClass_of_methodNamed B.named
  have hlocks := B.notSynchronized
  subst hsz
  have hD := hD0.self (sz := s.heap.size)
  generalize hAe : va_A (rW h cs gI gL gA gQ) s.heap.size = A0 at hD ⊢
  have hA : ∀ q : Nat, s.heap.size ≤ q → A0 q := fun q h => by rw [← hAe]; exact Or.inr h
  have hl := lv_entry ([.ref (h 0), .int x]) (n := 9) (Nat.le_of_ble_eq_true rfl)
  rw [lg_entry_eq]
  generalize (lg_sl ([.ref (h 0), .int x]) ++ List.replicate (9 - (lg_sl ([.ref (h 0), .int x])).length) Slot.unset).toArray = ls at hl ⊢
  have hl : lv_has ls 9 [(0, .ref (h 0)), (1, .int x)] := hl
  generalize hH : s.heap = H at hP ⊢
  have hS : va_S A0 s.heap H [] := by rw [← hH]; exact va_S.rf
  have hinX10 : ∀ w ∈ wsX100, w ∈ wsX10_chosen := by decide +kernel
  rcases splR x 1 2 (by decide) with ⟨i_x, h_x, g_x, rfl⟩ | hz_x
  · skip
    rcases (show i_x = 1 ∨ i_x = 2 by omega) with rfl | rfl
    · skip
      refine lv_iload_n hx hb dX10_chosen_0 rfl (lv_at hl 1 rfl) ?_
      refine lv_i2l (v := (1 : Int64)) hx hb dX10_chosen_1 (by decide +kernel) ?_
      refine lv_lconst (v := 1) hx hb dX10_chosen_2 rfl ?_
      refine lv_aload_n hx hb dX10_chosen_3 rfl (lv_at hl 0 rfl) ?_
      refine va_get (D := (dC, dI)) (ci := 10) (v := .int (gI 1)) (C := RX10) (T := TX10) (N := 28) hx hb hts hinX10 hown hK hP 0 rfl rfl 1 (by decide) (hts (.fieldLink RX10 13 "MixedWordsModel" "columns" "I") (by decide +kernel)) (fun _ h9 => h9) rfl dX10_chosen_4 ?_
      refine xt_i (y := nI 2) (by decide +kernel) ?_
      refine lv_i2l (v := (2 : Int64)) hx hb dX10_chosen_7 (by decide +kernel) ?_
      refine xj_i (wc := ([] : va_W)) (wr := (rW h cs gI gL gA gQ)) hP hD hS hA [] [0, 1, 2, 3, 4, 5, 6, 7, 8, 9, 10, 11, 12, 13, 14, 15, 16] rfl rfl (by decide) (by decide) (va_runS (As := [.long (1 : Int64), .long (1 : Int64), .long (2 : Int64)]) (rest := []) ⟨hx, hb, hml, hown, hts⟩ (a_X10_in_204 l dC dI h cs H.size I L A Q ) (va_cwS 3 hts gX10_chosen_X10_in rfl rfl rfl (by decide +kernel) ⟨Nat.le_of_ble_eq_true rfl, Nat.le_of_ble_eq_true rfl⟩) (xpS (wc := ([] : va_W)) hP hD hK hN [] rfl (by decide) _) rfl rfl hl.1 rfl (lv_room (Nat.le_of_ble_eq_true rfl)) dX10_chosen_8 ⟨Nat.zero_le _, Nat.zero_le _⟩) (fun r_2 u_1 H locs hw hP hD hS => ?_)
      obtain ⟨hf_3, rfl⟩ := hw
      have hP : va_P (dC, dI) vwCl (rW h cs gI gL gA gQ) H := hP
      have hD : va_D A0 (rW h cs gI gL gA gQ) := hD
      rcases in_Z (a := 1) (b := 2) (by decide +kernel) (by decide +kernel) hf_3 with ⟨rfl, za_1 : Int64, zb_1 : Int64⟩ | ⟨rfl, -⟩
      · skip
        exact absurd hz_1 : Int64 (by omega)
      · skip
        refine lv_if_ne (tgt := 16) hx hb dX10_chosen_11 (by decide) (fun c9 => False.elim (by revert c9; decide +kernel)) (fun _ => ?_)
        refine lv_iconst (v := (-1)) hx hb dX10_chosen_14 (by decide) ?_
        exact xr_i (v := (-1)) hx hb hr hlocks hK hS dX10_chosen_15 (gI, gL, gA, gQ) ⟨(by decide +kernel), rfl⟩ hP hD
    · skip
      refine lv_iload_n hx hb dX10_chosen_0 rfl (lv_at hl 1 rfl) ?_
      refine lv_i2l (v := (2 : Int64)) hx hb dX10_chosen_1 (by decide +kernel) ?_
      refine lv_lconst (v := 1) hx hb dX10_chosen_2 rfl ?_
      refine lv_aload_n hx hb dX10_chosen_3 rfl (lv_at hl 0 rfl) ?_
      refine va_get (D := (dC, dI)) (ci := 10) (v := .int (gI 1)) (C := RX10) (T := TX10) (N := 28) hx hb hts hinX10 hown hK hP 0 rfl rfl 1 (by decide) (hts (.fieldLink RX10 13 "MixedWordsModel" "columns" "I") (by decide +kernel)) (fun _ h9 => h9) rfl dX10_chosen_4 ?_
      refine xt_i (y := nI 2) (by decide +kernel) ?_
      refine lv_i2l (v := (2 : Int64)) hx hb dX10_chosen_7 (by decide +kernel) ?_
      refine xj_i (wc := ([] : va_W)) (wr := (rW h cs gI gL gA gQ)) hP hD hS hA [] [0, 1, 2, 3, 4, 5, 6, 7, 8, 9, 10, 11, 12, 13, 14, 15, 16] rfl rfl (by decide) (by decide) (va_runS (As := [.long (2 : Int64), .long (1 : Int64), .long (2 : Int64)]) (rest := []) ⟨hx, hb, hml, hown, hts⟩ (a_X10_in_205 l dC dI h cs H.size I L A Q ) (va_cwS 3 hts gX10_chosen_X10_in rfl rfl rfl (by decide +kernel) ⟨Nat.le_of_ble_eq_true rfl, Nat.le_of_ble_eq_true rfl⟩) (xpS (wc := ([] : va_W)) hP hD hK hN [] rfl (by decide) _) rfl rfl hl.1 rfl (lv_room (Nat.le_of_ble_eq_true rfl)) dX10_chosen_8 ⟨Nat.zero_le _, Nat.zero_le _⟩) (fun r_5 u_4 H locs hw hP hD hS => ?_)
      obtain ⟨hf_6, rfl⟩ := hw
      have hP : va_P (dC, dI) vwCl (rW h cs gI gL gA gQ) H := hP
      have hD : va_D A0 (rW h cs gI gL gA gQ) := hD
      rcases in_Z (a := 1) (b := 2) (by decide +kernel) (by decide +kernel) hf_6 with ⟨rfl, za_2 : Int64, zb_2 : Int64⟩ | ⟨rfl, -⟩
      · skip
        exact absurd hz_2 : Int64 (by omega)
      · skip
        refine lv_if_ne (tgt := 16) hx hb dX10_chosen_11 (by decide) (fun c9 => False.elim (by revert c9; decide +kernel)) (fun _ => ?_)
        refine lv_iconst (v := (-1)) hx hb dX10_chosen_14 (by decide) ?_
        exact xr_i (v := (-1)) hx hb hr hlocks hK hS dX10_chosen_15 (gI, gL, gA, gQ) ⟨(by decide +kernel), rfl⟩ hP hD
  · skip
    refine lv_iload_n hx hb dX10_chosen_0 rfl (lv_at hl 1 rfl) ?_
    refine lv_i2l (v := x.toInt64) hx hb dX10_chosen_1 rfl ?_
    refine lv_lconst (v := 1) hx hb dX10_chosen_2 rfl ?_
    refine lv_aload_n hx hb dX10_chosen_3 rfl (lv_at hl 0 rfl) ?_
    refine va_get (D := (dC, dI)) (ci := 10) (v := .int (gI 1)) (C := RX10) (T := TX10) (N := 28) hx hb hts hinX10 hown hK hP 0 rfl rfl 1 (by decide) (hts (.fieldLink RX10 13 "MixedWordsModel" "columns" "I") (by decide +kernel)) (fun _ h9 => h9) rfl dX10_chosen_4 ?_
    refine xt_i (y := nI 2) (by decide +kernel) ?_
    refine lv_i2l (v := (2 : Int64)) hx hb dX10_chosen_7 (by decide +kernel) ?_
    refine xj_i (wc := ([] : va_W)) (wr := (rW h cs gI gL gA gQ)) hP hD hS hA [] [0, 1, 2, 3, 4, 5, 6, 7, 8, 9, 10, 11, 12, 13, 14, 15, 16] rfl rfl (by decide) (by decide) (va_runS (As := [.long x.toInt64, .long (1 : Int64), .long (2 : Int64)]) (rest := []) ⟨hx, hb, hml, hown, hts⟩ (k_X10_in l dC dI h cs H.size I L A Q x.toInt64 (1 : Int64) (2 : Int64)) (va_cwS 3 hts gX10_chosen_X10_in rfl rfl rfl (by decide +kernel) ⟨Nat.le_of_ble_eq_true rfl, Nat.le_of_ble_eq_true rfl⟩) (xpS (wc := ([] : va_W)) hP hD hK hN [] rfl (by decide) _) rfl rfl hl.1 rfl (lv_room (Nat.le_of_ble_eq_true rfl)) dX10_chosen_8 ⟨Nat.zero_le _, Nat.zero_le _⟩) (fun r_8 u_7 H locs hw hP hD hS => ?_)
    obtain ⟨hf_9, rfl⟩ := hw
    have hP : va_P (dC, dI) vwCl (rW h cs gI gL gA gQ) H := hP
    have hD : va_D A0 (rW h cs gI gL gA gQ) := hD
    rcases in_Z (a := 1) (b := 2) (by decide +kernel) (by decide +kernel) hf_9 with ⟨rfl, za_x, zb_x⟩ | ⟨rfl, -⟩
    · skip
      exact absurd hz_x (by omega)
    · skip
      refine lv_if_ne (tgt := 16) hx hb dX10_chosen_11 (by decide) (fun c9 => False.elim (by revert c9; decide +kernel)) (fun _ => ?_)
      refine lv_iconst (v := (-1)) hx hb dX10_chosen_14 (by decide) ?_
      exact xr_i (v := (-1)) hx hb hr hlocks hK hS dX10_chosen_15 (gI, gL, gA, gQ) ⟨(by unfold an_chosen; rw [if_neg (by omega)]), rfl⟩ hP hD
