theorem at_lt {f : Nat → Int32} {T q : Nat} {r : Int32} (hq : q < 2147483648) (hT : T ≤ 90) (h : (∃ i : Nat, i < T ∧ nI q = nI i ∧ r = f i) ∨ (r = -1 ∧ ∀ i : Nat, i < T → nI q ≠ nI i)) (hr : ¬ r = -1) : q < T := by
  rcases h with ⟨i, h1, h2, -⟩ | ⟨h1, -⟩
  · rw [nI_eq hq (by omega)] at h2
    omega
  · exact absurd h1 hr
theorem eq45 {r : Int32} {k : Nat} (h : r = nI k) (hk : k < 256) : ¬ r = -1 := fun e => by
  rw [h] at e
  have := congrArg Int32.toInt e
  rw [nI_toInt (by omega)] at this
  have e1 : (-1 : Int32).toInt = -1 := by decide
  rw [e1] at this
  omega
theorem fault_ne0 {q : Nat} (h : q ≤ 90) : ¬ (-20 : Int32) - nI q = nI 0 := fun e => by
  have h1 := congrArg Int32.toInt e
  rw [Int32.toInt_sub, nI_toInt (by omega), nI_toInt (by omega), show (-20 : Int32).toInt = -20 by decide, Int.bmod_eq_of_le (by omega) (by omega)] at h1
  omega
theorem bdX4_isRowWhole_0 : (decode cX4_isRowWhole 0 = .ok (.aload_n 0, 1)) ∧ (decode cX4_isRowWhole 1 = .ok (.getfield 20, 3)) ∧ (decode cX4_isRowWhole 4 = .ok (.ifCond .eq 14, 3)) ∧ (decode cX4_isRowWhole 7 = .ok (.aload_n 0, 1)) ∧ (decode cX4_isRowWhole 8 = .ok (.getfield 27, 3)) ∧ (decode cX4_isRowWhole 11 = .ok (.aload_n 0, 1)) ∧ (decode cX4_isRowWhole 12 = .ok (.getfield 24, 3)) ∧ (decode cX4_isRowWhole 15 = .ok (.if_icmp .ne 7, 3)) ∧ (decode cX4_isRowWhole 18 = .ok (.iconst 1, 1)) ∧ (decode cX4_isRowWhole 19 = .ok (.goto 4, 3)) ∧ (decode cX4_isRowWhole 22 = .ok (.iconst 0, 1)) ∧ (decode cX4_isRowWhole 23 = .ok (.ireturn, 1)) := by decide +kernel
theorem dX4_isRowWhole_0 : decode cX4_isRowWhole 0 = .ok (.aload_n 0, 1) := bdX4_isRowWhole_0.1
theorem dX4_isRowWhole_1 : decode cX4_isRowWhole 1 = .ok (.getfield 20, 3) := bdX4_isRowWhole_0.2.1
theorem dX4_isRowWhole_4 : decode cX4_isRowWhole 4 = .ok (.ifCond .eq 14, 3) := bdX4_isRowWhole_0.2.2.1
theorem dX4_isRowWhole_7 : decode cX4_isRowWhole 7 = .ok (.aload_n 0, 1) := bdX4_isRowWhole_0.2.2.2.1
theorem dX4_isRowWhole_8 : decode cX4_isRowWhole 8 = .ok (.getfield 27, 3) := bdX4_isRowWhole_0.2.2.2.2.1
theorem dX4_isRowWhole_11 : decode cX4_isRowWhole 11 = .ok (.aload_n 0, 1) := bdX4_isRowWhole_0.2.2.2.2.2.1
theorem dX4_isRowWhole_12 : decode cX4_isRowWhole 12 = .ok (.getfield 24, 3) := bdX4_isRowWhole_0.2.2.2.2.2.2.1
theorem dX4_isRowWhole_15 : decode cX4_isRowWhole 15 = .ok (.if_icmp .ne 7, 3) := bdX4_isRowWhole_0.2.2.2.2.2.2.2.1
theorem dX4_isRowWhole_18 : decode cX4_isRowWhole 18 = .ok (.iconst 1, 1) := bdX4_isRowWhole_0.2.2.2.2.2.2.2.2.1
theorem dX4_isRowWhole_19 : decode cX4_isRowWhole 19 = .ok (.goto 4, 3) := bdX4_isRowWhole_0.2.2.2.2.2.2.2.2.2.1
theorem dX4_isRowWhole_22 : decode cX4_isRowWhole 22 = .ok (.iconst 0, 1) := bdX4_isRowWhole_0.2.2.2.2.2.2.2.2.2.2.1
theorem dX4_isRowWhole_23 : decode cX4_isRowWhole 23 = .ok (.ireturn, 1) := bdX4_isRowWhole_0.2.2.2.2.2.2.2.2.2.2.2
set_option maxHeartbeats 4000000 in
set_option maxRecDepth 100000 in
theorem k_X4_isRowWhole (l : Launch) (dC : Nat → ClassId) (dI : Nat → Nat → Nat) (h : Nat → Nat) (cs : Nat → ClassId) (sz : Nat) (I : Nat → Int32) (L : Nat → Int64) (A : Nat → Nat → Int32) (Q : Nat → Nat → Int64) (G : Nat → Nat → Nat → Int32) (J : Nat → Nat → Nat → Int64) (h6 w6 r6 : Nat) (hh : I 166 = nI h6) (hh4 : h6 ≤ 4) (hw : I 167 = nI w6) (hw4 : w6 ≤ 4) (hi6 : I 168 = nI r6) (hi4 : r6 ≤ 4) : Met l yX4_isRowWhole wsX4_isRowWhole ({ frames := 0, cells := 0, slots := 0, locals := 0 }) (va_Pc [.ref (h 104)] (xPre (dC, dI) (wRead h cs I L A Q G J) (tysA cs) sz)) (va_Qi (fun (r : Int32) (u : CS) => ((r = nI 1 ∧ (h6 = 0 ∨ r6 = w6)) ∨ (r = nI 0 ∧ ¬ h6 = 0 ∧ ¬ r6 = w6)) ∧ u = (I, L, A, Q, G, J)) (xB (dC, dI) (tysA cs) (va_A (wRead h cs I L A Q G J) sz) (fun u : CS => wRead h cs u.1 u.2.1 u.2.2.1 u.2.2.2.1 u.2.2.2.2.1 u.2.2.2.2.2)) (va_A (wRead h cs I L A Q G J) sz)) 0 0 (va_A (wRead h cs I L A Q G J) sz) := by
  refine Met.ofW (cc := cX4_isRowWhole) (maxL := 1) (ret := (some .boolean)) (by decide) rfl ?_
  intro p e s m args below meth c s₁ B hml hv
  obtain ⟨rfl, hsz, hP, hK, hD0, hN⟩ := hv
  have hx := B.exec
  have hb := B.bytes
  have hr := B.returns
  have hts := atoms_spec (ws := wsX4_isRowWhole) B.pre
  have hown : s.vm.findClass RX4 = some m.cls := findClass_of_methodNamed B.named
  have hlocks := B.notSynchronized
  subst hsz
  have hD := hD0.self (sz := s.heap.size)
  generalize hAe : va_A (wRead h cs I L A Q G J) s.heap.size = A0 at hD ⊢
  have hA : ∀ q : Nat, s.heap.size ≤ q → A0 q := fun q h => by rw [← hAe]; exact Or.inr h
  have hl := lv_entry ([.ref (h 104)]) (n := 1) (Nat.le_of_ble_eq_true rfl)
  rw [lg_entry_eq]
  generalize (lg_sl ([.ref (h 104)]) ++ List.replicate (1 - (lg_sl ([.ref (h 104)])).length) Slot.unset).toArray = ls at hl ⊢
  have hl : lv_has ls 1 [(0, .ref (h 104))] := hl
  generalize hH : s.heap = H at hP ⊢
  have hS : va_S A0 s.heap H [] := by rw [← hH]; exact va_S.rf
  have hinX4 : ∀ w ∈ wsX40, w ∈ wsX4_isRowWhole := by decide +kernel
  refine lv_aload_n hx hb dX4_isRowWhole_0 rfl (lv_at hl 0 rfl) ?_
  refine va_get (D := (dC, dI)) (ci := 4) (v := .int (I 166)) (C := RX4) (T := TX4) (N := 6) hx hb hts hinX4 hown hK hP 0 rfl rfl 2 (by decide) (hts (.fieldLink RX4 20 "MixedWords$Reader" "height" "I") (by decide +kernel)) (fun _ h9 => h9) rfl dX4_isRowWhole_1 ?_
  refine xt_i (y := nI h6) (hh) ?_
  refine xz_eq (tgt := 18) hx hb dX4_isRowWhole_4 (by decide) (by omega) (fun c_4_0 => ?_) (fun c_4_0 => ?_)
  · skip
    refine lv_iconst (v := nI 1) hx hb dX4_isRowWhole_18 (by decide) ?_
    refine lv_goto (tgt := 23) hx hb dX4_isRowWhole_19 (by decide) ?_
    exact xr_z (v := (nI 1)) hx hb hr hlocks hK hS dX4_isRowWhole_23 (rfl) (I, L, A, Q, G, J) ⟨(Or.inl ⟨rfl, by omega⟩), rfl⟩ hP hD
  · skip
    refine lv_aload_n hx hb dX4_isRowWhole_7 rfl (lv_at hl 0 rfl) ?_
    refine va_get (D := (dC, dI)) (ci := 4) (v := .int (I 168)) (C := RX4) (T := TX4) (N := 6) hx hb hts hinX4 hown hK hP 0 rfl rfl 4 (by decide) (hts (.fieldLink RX4 27 "MixedWords$Reader" "inRow" "I") (by decide +kernel)) (fun _ h9 => h9) rfl dX4_isRowWhole_8 ?_
    refine xt_i (y := nI r6) (hi6) ?_
    refine lv_aload_n hx hb dX4_isRowWhole_11 rfl (lv_at hl 0 rfl) ?_
    refine va_get (D := (dC, dI)) (ci := 4) (v := .int (I 167)) (C := RX4) (T := TX4) (N := 6) hx hb hts hinX4 hown hK hP 0 rfl rfl 3 (by decide) (hts (.fieldLink RX4 24 "MixedWords$Reader" "width" "I") (by decide +kernel)) (fun _ h9 => h9) rfl dX4_isRowWhole_12 ?_
    refine xt_i (y := nI w6) (hw) ?_
    refine xn_ne (tgt := 22) hx hb dX4_isRowWhole_15 (by decide) (by omega) (by omega) (fun c_15_1 => ?_) (fun c_15_1 => ?_)
    · skip
      refine lv_iconst (v := nI 0) hx hb dX4_isRowWhole_22 (by decide) ?_
      exact xr_z (v := (nI 0)) hx hb hr hlocks hK hS dX4_isRowWhole_23 (rfl) (I, L, A, Q, G, J) ⟨(Or.inr ⟨rfl, by omega, by omega⟩), rfl⟩ hP hD
    · skip
      refine lv_iconst (v := nI 1) hx hb dX4_isRowWhole_18 (by decide) ?_
      refine lv_goto (tgt := 23) hx hb dX4_isRowWhole_19 (by decide) ?_
      exact xr_z (v := (nI 1)) hx hb hr hlocks hK hS dX4_isRowWhole_23 (rfl) (I, L, A, Q, G, J) ⟨(Or.inl ⟨rfl, by omega⟩), rfl⟩ hP hD
theorem bdX4_endRow_0 : (decode cX4_endRow 0 = .ok (.aload_n 0, 1)) ∧ (decode cX4_endRow 1 = .ok (.aload_n 0, 1)) ∧ (decode cX4_endRow 2 = .ok (.getfield 27, 3)) ∧ (decode cX4_endRow 5 = .ok (.putfield 24, 3)) ∧ (decode cX4_endRow 8 = .ok (.aload_n 0, 1)) ∧ (decode cX4_endRow 9 = .ok (.iconst 0, 1)) ∧ (decode cX4_endRow 10 = .ok (.putfield 27, 3)) ∧ (decode cX4_endRow 13 = .ok (.aload_n 0, 1)) ∧ (decode cX4_endRow 14 = .ok (.dup, 1)) ∧ (decode cX4_endRow 15 = .ok (.getfield 20, 3)) ∧ (decode cX4_endRow 18 = .ok (.iconst 1, 1)) ∧ (decode cX4_endRow 19 = .ok (.iadd, 1)) ∧ (decode cX4_endRow 20 = .ok (.putfield 20, 3)) ∧ (decode cX4_endRow 23 = .ok (.return_, 1)) := by decide +kernel
theorem dX4_endRow_0 : decode cX4_endRow 0 = .ok (.aload_n 0, 1) := bdX4_endRow_0.1
theorem dX4_endRow_1 : decode cX4_endRow 1 = .ok (.aload_n 0, 1) := bdX4_endRow_0.2.1
theorem dX4_endRow_2 : decode cX4_endRow 2 = .ok (.getfield 27, 3) := bdX4_endRow_0.2.2.1
theorem dX4_endRow_5 : decode cX4_endRow 5 = .ok (.putfield 24, 3) := bdX4_endRow_0.2.2.2.1
theorem dX4_endRow_8 : decode cX4_endRow 8 = .ok (.aload_n 0, 1) := bdX4_endRow_0.2.2.2.2.1
theorem dX4_endRow_9 : decode cX4_endRow 9 = .ok (.iconst 0, 1) := bdX4_endRow_0.2.2.2.2.2.1
theorem dX4_endRow_10 : decode cX4_endRow 10 = .ok (.putfield 27, 3) := bdX4_endRow_0.2.2.2.2.2.2.1
theorem dX4_endRow_13 : decode cX4_endRow 13 = .ok (.aload_n 0, 1) := bdX4_endRow_0.2.2.2.2.2.2.2.1
theorem dX4_endRow_14 : decode cX4_endRow 14 = .ok (.dup, 1) := bdX4_endRow_0.2.2.2.2.2.2.2.2.1
theorem dX4_endRow_15 : decode cX4_endRow 15 = .ok (.getfield 20, 3) := bdX4_endRow_0.2.2.2.2.2.2.2.2.2.1
theorem dX4_endRow_18 : decode cX4_endRow 18 = .ok (.iconst 1, 1) := bdX4_endRow_0.2.2.2.2.2.2.2.2.2.2.1
theorem dX4_endRow_19 : decode cX4_endRow 19 = .ok (.iadd, 1) := bdX4_endRow_0.2.2.2.2.2.2.2.2.2.2.2.1
theorem dX4_endRow_20 : decode cX4_endRow 20 = .ok (.putfield 20, 3) := bdX4_endRow_0.2.2.2.2.2.2.2.2.2.2.2.2.1
theorem dX4_endRow_23 : decode cX4_endRow 23 = .ok (.return_, 1) := bdX4_endRow_0.2.2.2.2.2.2.2.2.2.2.2.2.2
set_option maxHeartbeats 4000000 in
set_option maxRecDepth 100000 in
theorem k_X4_endRow (l : Launch) (dC : Nat → ClassId) (dI : Nat → Nat → Nat) (h : Nat → Nat) (cs : Nat → ClassId) (sz : Nat) (I : Nat → Int32) (L : Nat → Int64) (A : Nat → Nat → Int32) (Q : Nat → Nat → Int64) (G : Nat → Nat → Nat → Int32) (J : Nat → Nat → Nat → Int64) (h6 r6 : Nat) (hh : I 166 = nI h6) (hh4 : h6 ≤ 4) (hi6 : I 168 = nI r6) (hi4 : r6 ≤ 4) : Met l yX4_endRow wsX4_endRow ({ frames := 0, cells := 0, slots := 0, locals := 0 }) (va_Pc [.ref (h 104)] (xPre (dC, dI) (wRead h cs I L A Q G J) (tysA cs) sz)) (va_Qv (fun (u : CS) => ∃ i167 : Int32, ∃ i168 : Int32, ∃ i166 : Int32, (i166 = nI (h6 + 1) ∧ i167 = nI r6 ∧ i168 = nI 0) ∧ u = ((va_up (va_up (va_up I 167 i167) 168 i168) 166 i166), L, A, Q, G, J)) (xB (dC, dI) (tysA cs) (va_A (wRead h cs I L A Q G J) sz) (fun u : CS => wRead h cs u.1 u.2.1 u.2.2.1 u.2.2.2.1 u.2.2.2.2.1 u.2.2.2.2.2)) (va_A (wRead h cs I L A Q G J) sz)) 0 0 (va_A (wRead h cs I L A Q G J) sz) := by
  refine Met.ofW (cc := cX4_endRow) (maxL := 1) (ret := none) (by decide) rfl ?_
  intro p e s m args below meth c s₁ B hml hv
  obtain ⟨rfl, hsz, hP, hK, hD0, hN⟩ := hv
  have hx := B.exec
  have hb := B.bytes
  have hr := B.returns
  have hts := atoms_spec (ws := wsX4_endRow) B.pre
  have hown : s.vm.findClass RX4 = some m.cls := findClass_of_methodNamed B.named
  have hlocks := B.notSynchronized
  subst hsz
  have hD := hD0.self (sz := s.heap.size)
  generalize hAe : va_A (wRead h cs I L A Q G J) s.heap.size = A0 at hD ⊢
  have hA : ∀ q : Nat, s.heap.size ≤ q → A0 q := fun q h => by rw [← hAe]; exact Or.inr h
  have hl := lv_entry ([.ref (h 104)]) (n := 1) (Nat.le_of_ble_eq_true rfl)
  rw [lg_entry_eq]
  generalize (lg_sl ([.ref (h 104)]) ++ List.replicate (1 - (lg_sl ([.ref (h 104)])).length) Slot.unset).toArray = ls at hl ⊢
  have hl : lv_has ls 1 [(0, .ref (h 104))] := hl
  generalize hH : s.heap = H at hP ⊢
  have hS : va_S A0 s.heap H [] := by rw [← hH]; exact va_S.rf
  have hinX4 : ∀ w ∈ wsX40, w ∈ wsX4_endRow := by decide +kernel
  refine lv_aload_n hx hb dX4_endRow_0 rfl (lv_at hl 0 rfl) ?_
  refine lv_aload_n hx hb dX4_endRow_1 rfl (lv_at hl 0 rfl) ?_
  refine va_get (D := (dC, dI)) (ci := 4) (v := .int (I 168)) (C := RX4) (T := TX4) (N := 6) hx hb hts hinX4 hown hK hP 0 rfl rfl 4 (by decide) (hts (.fieldLink RX4 27 "MixedWords$Reader" "inRow" "I") (by decide +kernel)) (fun _ h9 => h9) rfl dX4_endRow_2 ?_
  refine xt_i (y := nI r6) (hi6) ?_
  refine va_put (D := (dC, dI)) (ci := 4) (v := .int (nI r6)) (ty := .int) (C := RX4) (T := TX4) (N := 6) hx hb hts hinX4 tyX4 tyX4_ok nmX4 hown hK hP hD hS 0 rfl rfl 3 (by decide) (hts (.fieldLink RX4 24 "MixedWords$Reader" "width" "I") (by decide +kernel)) (fun _ h9 => h9) rfl (by decide +kernel) rfl rfl (Nat.le_of_ble_eq_true rfl) dX4_endRow_5 (fun H locs hP hD hS => ?_)
  have hP : va_P (dC, dI) vwCl (wRead h cs (va_up I 167 (nI r6)) L A Q G J) H := hP
  have hD : va_D A0 (wRead h cs (va_up I 167 (nI r6)) L A Q G J) := hD
  refine lv_aload_n hx hb dX4_endRow_8 rfl (lv_at hl 0 rfl) ?_
  refine lv_iconst (v := nI 0) hx hb dX4_endRow_9 (by decide) ?_
  refine va_put (D := (dC, dI)) (ci := 4) (v := .int (nI 0)) (ty := .int) (C := RX4) (T := TX4) (N := 6) hx hb hts hinX4 tyX4 tyX4_ok nmX4 hown hK hP hD hS 0 rfl rfl 4 (by decide) (hts (.fieldLink RX4 27 "MixedWords$Reader" "inRow" "I") (by decide +kernel)) (fun _ h9 => h9) rfl (by decide +kernel) rfl rfl (Nat.le_of_ble_eq_true rfl) dX4_endRow_10 (fun H locs hP hD hS => ?_)
  have hP : va_P (dC, dI) vwCl (wRead h cs (va_up (va_up I 167 (nI r6)) 168 (nI 0)) L A Q G J) H := hP
  have hD : va_D A0 (wRead h cs (va_up (va_up I 167 (nI r6)) 168 (nI 0)) L A Q G J) := hD
  refine lv_aload_n hx hb dX4_endRow_13 rfl (lv_at hl 0 rfl) ?_
  refine lv_dup hx hb dX4_endRow_14 rfl ?_
  refine va_get (D := (dC, dI)) (ci := 4) (v := .int (I 166)) (C := RX4) (T := TX4) (N := 6) hx hb hts hinX4 hown hK hP 0 rfl rfl 2 (by decide) (hts (.fieldLink RX4 20 "MixedWords$Reader" "height" "I") (by decide +kernel)) (fun _ h9 => h9) rfl dX4_endRow_15 ?_
  refine xt_i (y := nI h6) (hh) ?_
  refine lv_iconst (v := nI 1) hx hb dX4_endRow_18 (by decide) ?_
  refine lv_iadd hx hb dX4_endRow_19 ?_
  refine xt_i (y := nI (h6 + 1)) (nI_add _ _) ?_
  refine va_put (D := (dC, dI)) (ci := 4) (v := .int (nI (h6 + 1))) (ty := .int) (C := RX4) (T := TX4) (N := 6) hx hb hts hinX4 tyX4 tyX4_ok nmX4 hown hK hP hD hS 0 rfl rfl 2 (by decide) (hts (.fieldLink RX4 20 "MixedWords$Reader" "height" "I") (by decide +kernel)) (fun _ h9 => h9) rfl (by decide +kernel) rfl rfl (Nat.le_of_ble_eq_true rfl) dX4_endRow_20 (fun H locs hP hD hS => ?_)
  have hP : va_P (dC, dI) vwCl (wRead h cs (va_up (va_up (va_up I 167 (nI r6)) 168 (nI 0)) 166 (nI (h6 + 1))) L A Q G J) H := hP
  have hD : va_D A0 (wRead h cs (va_up (va_up (va_up I 167 (nI r6)) 168 (nI 0)) 166 (nI (h6 + 1))) L A Q G J) := hD
  exact xr_v hx hb hr hlocks hK hS dX4_endRow_23 ((va_up (va_up (va_up I 167 (nI r6)) 168 (nI 0)) 166 (nI (h6 + 1))), L, A, Q, G, J) ⟨(nI r6), (nI 0), (nI (h6 + 1)), ⟨rfl, by first | rfl | assumption, rfl⟩, rfl⟩ hP hD
set_option maxRecDepth 20000 in
theorem ggX4_takeSign_X7_at : GoodIn wsX4_takeSign wsX7_at := goodIn_r _ [10, 11, 12, 28, 29] (by decide +kernel) (by decide +kernel)
set_option maxRecDepth 20000 in
theorem gX4_takeSign_X7_at : GoodIn wsX4_takeSign (wsV RX4 40 RX7 yX7_at wsX7_at) := goodIn_app (goodIn_of _ (by decide +kernel)) ggX4_takeSign_X7_at
set_option maxRecDepth 20000 in
theorem ggX4_takeSign_X4_isRowWhole : GoodIn wsX4_takeSign wsX4_isRowWhole := goodIn_r _ [17, 4, 3, 5, 22, 23, 24, 25, 26, 27] (by decide +kernel) (by decide +kernel)
set_option maxRecDepth 20000 in
theorem gX4_takeSign_X4_isRowWhole : GoodIn wsX4_takeSign (wsV RX4 46 RX4 yX4_isRowWhole wsX4_isRowWhole) := goodIn_app (goodIn_of _ (by decide +kernel)) ggX4_takeSign_X4_isRowWhole
set_option maxRecDepth 20000 in
theorem ggX4_takeSign_X4_endRow : GoodIn wsX4_takeSign wsX4_endRow := goodIn_r _ [21, 3, 5, 4, 22, 23, 24, 25, 26, 27] (by decide +kernel) (by decide +kernel)
set_option maxRecDepth 20000 in
theorem gX4_takeSign_X4_endRow : GoodIn wsX4_takeSign (wsV RX4 49 RX4 yX4_endRow wsX4_endRow) := goodIn_app (goodIn_of _ (by decide +kernel)) ggX4_takeSign_X4_endRow
theorem bdX4_takeSign_0 : (decode cX4_takeSign 0 = .ok (.aload_n 0, 1)) ∧ (decode cX4_takeSign 1 = .ok (.getfield 16, 3)) ∧ (decode cX4_takeSign 4 = .ok (.aload_n 0, 1)) ∧ (decode cX4_takeSign 5 = .ok (.getfield 30, 3)) ∧ (decode cX4_takeSign 8 = .ok (.invokevirtual 40, 3)) ∧ (decode cX4_takeSign 11 = .ok (.istore_n 1, 1)) ∧ (decode cX4_takeSign 12 = .ok (.iload_n 1, 1)) ∧ (decode cX4_takeSign 13 = .ok (.bipush 44, 2)) ∧ (decode cX4_takeSign 15 = .ok (.if_icmp .ne 37, 3)) ∧ (decode cX4_takeSign 18 = .ok (.aload_n 0, 1)) ∧ (decode cX4_takeSign 19 = .ok (.getfield 27, 3)) ∧ (decode cX4_takeSign 22 = .ok (.aload_n 0, 1)) ∧ (decode cX4_takeSign 23 = .ok (.getfield 20, 3)) ∧ (decode cX4_takeSign 26 = .ok (.ifCond .ne 7, 3)) ∧ (decode cX4_takeSign 29 = .ok (.iconst 4, 1)) ∧ (decode cX4_takeSign 30 = .ok (.goto 7, 3)) := by decide +kernel
theorem dX4_takeSign_0 : decode cX4_takeSign 0 = .ok (.aload_n 0, 1) := bdX4_takeSign_0.1
theorem dX4_takeSign_1 : decode cX4_takeSign 1 = .ok (.getfield 16, 3) := bdX4_takeSign_0.2.1
theorem dX4_takeSign_4 : decode cX4_takeSign 4 = .ok (.aload_n 0, 1) := bdX4_takeSign_0.2.2.1
theorem dX4_takeSign_5 : decode cX4_takeSign 5 = .ok (.getfield 30, 3) := bdX4_takeSign_0.2.2.2.1
theorem dX4_takeSign_8 : decode cX4_takeSign 8 = .ok (.invokevirtual 40, 3) := bdX4_takeSign_0.2.2.2.2.1
theorem dX4_takeSign_11 : decode cX4_takeSign 11 = .ok (.istore_n 1, 1) := bdX4_takeSign_0.2.2.2.2.2.1
theorem dX4_takeSign_12 : decode cX4_takeSign 12 = .ok (.iload_n 1, 1) := bdX4_takeSign_0.2.2.2.2.2.2.1
theorem dX4_takeSign_13 : decode cX4_takeSign 13 = .ok (.bipush 44, 2) := bdX4_takeSign_0.2.2.2.2.2.2.2.1
theorem dX4_takeSign_15 : decode cX4_takeSign 15 = .ok (.if_icmp .ne 37, 3) := bdX4_takeSign_0.2.2.2.2.2.2.2.2.1
theorem dX4_takeSign_18 : decode cX4_takeSign 18 = .ok (.aload_n 0, 1) := bdX4_takeSign_0.2.2.2.2.2.2.2.2.2.1
theorem dX4_takeSign_19 : decode cX4_takeSign 19 = .ok (.getfield 27, 3) := bdX4_takeSign_0.2.2.2.2.2.2.2.2.2.2.1
theorem dX4_takeSign_22 : decode cX4_takeSign 22 = .ok (.aload_n 0, 1) := bdX4_takeSign_0.2.2.2.2.2.2.2.2.2.2.2.1
theorem dX4_takeSign_23 : decode cX4_takeSign 23 = .ok (.getfield 20, 3) := bdX4_takeSign_0.2.2.2.2.2.2.2.2.2.2.2.2.1
theorem dX4_takeSign_26 : decode cX4_takeSign 26 = .ok (.ifCond .ne 7, 3) := bdX4_takeSign_0.2.2.2.2.2.2.2.2.2.2.2.2.2.1
theorem dX4_takeSign_29 : decode cX4_takeSign 29 = .ok (.iconst 4, 1) := bdX4_takeSign_0.2.2.2.2.2.2.2.2.2.2.2.2.2.2.1
theorem dX4_takeSign_30 : decode cX4_takeSign 30 = .ok (.goto 7, 3) := bdX4_takeSign_0.2.2.2.2.2.2.2.2.2.2.2.2.2.2.2
theorem bdX4_takeSign_33 : (decode cX4_takeSign 33 = .ok (.aload_n 0, 1)) ∧ (decode cX4_takeSign 34 = .ok (.getfield 24, 3)) ∧ (decode cX4_takeSign 37 = .ok (.if_icmp .ge 15, 3)) ∧ (decode cX4_takeSign 40 = .ok (.aload_n 0, 1)) ∧ (decode cX4_takeSign 41 = .ok (.dup, 1)) ∧ (decode cX4_takeSign 42 = .ok (.getfield 30, 3)) ∧ (decode cX4_takeSign 45 = .ok (.iconst 1, 1)) ∧ (decode cX4_takeSign 46 = .ok (.iadd, 1)) ∧ (decode cX4_takeSign 47 = .ok (.putfield 30, 3)) ∧ (decode cX4_takeSign 50 = .ok (.iconst 1, 1)) ∧ (decode cX4_takeSign 51 = .ok (.ireturn, 1)) ∧ (decode cX4_takeSign 52 = .ok (.iload_n 1, 1)) ∧ (decode cX4_takeSign 53 = .ok (.bipush 59, 2)) ∧ (decode cX4_takeSign 55 = .ok (.if_icmp .ne 34, 3)) ∧ (decode cX4_takeSign 58 = .ok (.aload_n 0, 1)) ∧ (decode cX4_takeSign 59 = .ok (.invokevirtual 46, 3)) := by decide +kernel
theorem dX4_takeSign_33 : decode cX4_takeSign 33 = .ok (.aload_n 0, 1) := bdX4_takeSign_33.1
theorem dX4_takeSign_34 : decode cX4_takeSign 34 = .ok (.getfield 24, 3) := bdX4_takeSign_33.2.1
theorem dX4_takeSign_37 : decode cX4_takeSign 37 = .ok (.if_icmp .ge 15, 3) := bdX4_takeSign_33.2.2.1
theorem dX4_takeSign_40 : decode cX4_takeSign 40 = .ok (.aload_n 0, 1) := bdX4_takeSign_33.2.2.2.1
theorem dX4_takeSign_41 : decode cX4_takeSign 41 = .ok (.dup, 1) := bdX4_takeSign_33.2.2.2.2.1
theorem dX4_takeSign_42 : decode cX4_takeSign 42 = .ok (.getfield 30, 3) := bdX4_takeSign_33.2.2.2.2.2.1
theorem dX4_takeSign_45 : decode cX4_takeSign 45 = .ok (.iconst 1, 1) := bdX4_takeSign_33.2.2.2.2.2.2.1
theorem dX4_takeSign_46 : decode cX4_takeSign 46 = .ok (.iadd, 1) := bdX4_takeSign_33.2.2.2.2.2.2.2.1
theorem dX4_takeSign_47 : decode cX4_takeSign 47 = .ok (.putfield 30, 3) := bdX4_takeSign_33.2.2.2.2.2.2.2.2.1
theorem dX4_takeSign_50 : decode cX4_takeSign 50 = .ok (.iconst 1, 1) := bdX4_takeSign_33.2.2.2.2.2.2.2.2.2.1
theorem dX4_takeSign_51 : decode cX4_takeSign 51 = .ok (.ireturn, 1) := bdX4_takeSign_33.2.2.2.2.2.2.2.2.2.2.1
theorem dX4_takeSign_52 : decode cX4_takeSign 52 = .ok (.iload_n 1, 1) := bdX4_takeSign_33.2.2.2.2.2.2.2.2.2.2.2.1
theorem dX4_takeSign_53 : decode cX4_takeSign 53 = .ok (.bipush 59, 2) := bdX4_takeSign_33.2.2.2.2.2.2.2.2.2.2.2.2.1
theorem dX4_takeSign_55 : decode cX4_takeSign 55 = .ok (.if_icmp .ne 34, 3) := bdX4_takeSign_33.2.2.2.2.2.2.2.2.2.2.2.2.2.1
theorem dX4_takeSign_58 : decode cX4_takeSign 58 = .ok (.aload_n 0, 1) := bdX4_takeSign_33.2.2.2.2.2.2.2.2.2.2.2.2.2.2.1
theorem dX4_takeSign_59 : decode cX4_takeSign 59 = .ok (.invokevirtual 46, 3) := bdX4_takeSign_33.2.2.2.2.2.2.2.2.2.2.2.2.2.2.2
theorem bdX4_takeSign_62 : (decode cX4_takeSign 62 = .ok (.ifCond .eq 27, 3)) ∧ (decode cX4_takeSign 65 = .ok (.aload_n 0, 1)) ∧ (decode cX4_takeSign 66 = .ok (.getfield 20, 3)) ∧ (decode cX4_takeSign 69 = .ok (.iconst 4, 1)) ∧ (decode cX4_takeSign 70 = .ok (.if_icmp .ge 19, 3)) ∧ (decode cX4_takeSign 73 = .ok (.aload_n 0, 1)) ∧ (decode cX4_takeSign 74 = .ok (.invokevirtual 49, 3)) ∧ (decode cX4_takeSign 77 = .ok (.aload_n 0, 1)) ∧ (decode cX4_takeSign 78 = .ok (.dup, 1)) ∧ (decode cX4_takeSign 79 = .ok (.getfield 30, 3)) ∧ (decode cX4_takeSign 82 = .ok (.iconst 1, 1)) ∧ (decode cX4_takeSign 83 = .ok (.iadd, 1)) ∧ (decode cX4_takeSign 84 = .ok (.putfield 30, 3)) ∧ (decode cX4_takeSign 87 = .ok (.iconst 1, 1)) ∧ (decode cX4_takeSign 88 = .ok (.ireturn, 1)) ∧ (decode cX4_takeSign 89 = .ok (.iconst 0, 1)) := by decide +kernel
theorem dX4_takeSign_62 : decode cX4_takeSign 62 = .ok (.ifCond .eq 27, 3) := bdX4_takeSign_62.1
theorem dX4_takeSign_65 : decode cX4_takeSign 65 = .ok (.aload_n 0, 1) := bdX4_takeSign_62.2.1
theorem dX4_takeSign_66 : decode cX4_takeSign 66 = .ok (.getfield 20, 3) := bdX4_takeSign_62.2.2.1
theorem dX4_takeSign_69 : decode cX4_takeSign 69 = .ok (.iconst 4, 1) := bdX4_takeSign_62.2.2.2.1
theorem dX4_takeSign_70 : decode cX4_takeSign 70 = .ok (.if_icmp .ge 19, 3) := bdX4_takeSign_62.2.2.2.2.1
theorem dX4_takeSign_73 : decode cX4_takeSign 73 = .ok (.aload_n 0, 1) := bdX4_takeSign_62.2.2.2.2.2.1
theorem dX4_takeSign_74 : decode cX4_takeSign 74 = .ok (.invokevirtual 49, 3) := bdX4_takeSign_62.2.2.2.2.2.2.1
theorem dX4_takeSign_77 : decode cX4_takeSign 77 = .ok (.aload_n 0, 1) := bdX4_takeSign_62.2.2.2.2.2.2.2.1
theorem dX4_takeSign_78 : decode cX4_takeSign 78 = .ok (.dup, 1) := bdX4_takeSign_62.2.2.2.2.2.2.2.2.1
theorem dX4_takeSign_79 : decode cX4_takeSign 79 = .ok (.getfield 30, 3) := bdX4_takeSign_62.2.2.2.2.2.2.2.2.2.1
theorem dX4_takeSign_82 : decode cX4_takeSign 82 = .ok (.iconst 1, 1) := bdX4_takeSign_62.2.2.2.2.2.2.2.2.2.2.1
theorem dX4_takeSign_83 : decode cX4_takeSign 83 = .ok (.iadd, 1) := bdX4_takeSign_62.2.2.2.2.2.2.2.2.2.2.2.1
theorem dX4_takeSign_84 : decode cX4_takeSign 84 = .ok (.putfield 30, 3) := bdX4_takeSign_62.2.2.2.2.2.2.2.2.2.2.2.2.1
theorem dX4_takeSign_87 : decode cX4_takeSign 87 = .ok (.iconst 1, 1) := bdX4_takeSign_62.2.2.2.2.2.2.2.2.2.2.2.2.2.1
theorem dX4_takeSign_88 : decode cX4_takeSign 88 = .ok (.ireturn, 1) := bdX4_takeSign_62.2.2.2.2.2.2.2.2.2.2.2.2.2.2.1
theorem dX4_takeSign_89 : decode cX4_takeSign 89 = .ok (.iconst 0, 1) := bdX4_takeSign_62.2.2.2.2.2.2.2.2.2.2.2.2.2.2.2
theorem dX4_takeSign_90 : decode cX4_takeSign 90 = .ok (.ireturn, 1) := by decide +kernel
set_option maxHeartbeats 4000000 in
set_option maxRecDepth 100000 in
theorem k_X4_takeSign (l : Launch) (dC : Nat → ClassId) (dI : Nat → Nat → Nat) (h : Nat → Nat) (cs : Nat → ClassId) (sz : Nat) (I : Nat → Int32) (L : Nat → Int64) (A : Nat → Nat → Int32) (Q : Nat → Nat → Int64) (G : Nat → Nat → Nat → Int32) (J : Nat → Nat → Nat → Int64) (T p9 h6 w6 r6 : Nat) (hT : I 151 = nI T) (hT9 : T ≤ 90) (hp : I 169 = nI p9) (hpT : p9 ≤ T) (hh : I 166 = nI h6) (hh4 : h6 ≤ 4) (hw : I 167 = nI w6) (hw4 : w6 ≤ 4) (hi6 : I 168 = nI r6) (hi4 : r6 ≤ 4) : Met l yX4_takeSign wsX4_takeSign ({ frames := 1, cells := 0, slots := 0, locals := 21 }) (va_Pc [.ref (h 104)] (xPre (dC, dI) (wRead h cs I L A Q G J) (tysA cs) sz)) (va_Qi (fun (r : Int32) (u : CS) => ∃ i166 : Int32, ∃ i167 : Int32, ∃ i168 : Int32, ∃ i169 : Int32, ((r = nI 1 ∧ ∃ h7 w7 r7 q : Nat, h7 ≤ 4 ∧ w7 ≤ 4 ∧ r7 ≤ 4 ∧ q ≤ T ∧ i166 = nI h7 ∧ i167 = nI w7 ∧ i168 = nI r7 ∧ i169 = nI q) ∨ (r = nI 0 ∧ i166 = I 166 ∧ i167 = I 167 ∧ i168 = I 168 ∧ i169 = I 169)) ∧ u = ((va_up (va_up (va_up (va_up I 166 i166) 167 i167) 168 i168) 169 i169), L, A, Q, G, J)) (xB (dC, dI) (tysA cs) (va_A (wRead h cs I L A Q G J) sz) (fun u : CS => wRead h cs u.1 u.2.1 u.2.2.1 u.2.2.2.1 u.2.2.2.2.1 u.2.2.2.2.2)) (va_A (wRead h cs I L A Q G J) sz)) 0 0 (va_A (wRead h cs I L A Q G J) sz) := by
  refine Met.ofW (cc := cX4_takeSign) (maxL := 2) (ret := (some .boolean)) (by decide) rfl ?_
  intro p e s m args below meth c s₁ B hml hv
  obtain ⟨rfl, hsz, hP, hK, hD0, hN⟩ := hv
  have hx := B.exec
  have hb := B.bytes
  have hr := B.returns
  have hts := atoms_spec (ws := wsX4_takeSign) B.pre
  have hown : s.vm.findClass RX4 = some m.cls := findClass_of_methodNamed B.named
  have hlocks := B.notSynchronized
  subst hsz
  have hD := hD0.self (sz := s.heap.size)
  generalize hAe : va_A (wRead h cs I L A Q G J) s.heap.size = A0 at hD ⊢
  have hA : ∀ q : Nat, s.heap.size ≤ q → A0 q := fun q h => by rw [← hAe]; exact Or.inr h
  have hl := lv_entry ([.ref (h 104)]) (n := 2) (Nat.le_of_ble_eq_true rfl)
  rw [lg_entry_eq]
  generalize (lg_sl ([.ref (h 104)]) ++ List.replicate (2 - (lg_sl ([.ref (h 104)])).length) Slot.unset).toArray = ls at hl ⊢
  have hl : lv_has ls 2 [(0, .ref (h 104))] := hl
  generalize hH : s.heap = H at hP ⊢
  have hS : va_S A0 s.heap H [] := by rw [← hH]; exact va_S.rf
  have hinX4 : ∀ w ∈ wsX40, w ∈ wsX4_takeSign := by decide +kernel
  refine lv_aload_n hx hb dX4_takeSign_0 rfl (lv_at hl 0 rfl) ?_
  refine va_get (D := (dC, dI)) (ci := 4) (v := .ref (h 103)) (C := RX4) (T := TX4) (N := 6) hx hb hts hinX4 hown hK hP 0 rfl rfl 0 (by decide) (hts (.fieldLink RX4 16 "MixedWords$Reader" "tape" "LMixedWords$Tape;") (by decide +kernel)) (fun _ h9 => h9) rfl dX4_takeSign_1 ?_
  refine lv_aload_n hx hb dX4_takeSign_4 rfl (lv_at hl 0 rfl) ?_
  refine va_get (D := (dC, dI)) (ci := 4) (v := .int (I 169)) (C := RX4) (T := TX4) (N := 6) hx hb hts hinX4 hown hK hP 0 rfl rfl 5 (by decide) (hts (.fieldLink RX4 30 "MixedWords$Reader" "place" "I") (by decide +kernel)) (fun _ h9 => h9) rfl dX4_takeSign_5 ?_
  refine xt_i (y := nI p9) (hp) ?_
  refine xj_i (wc := (wTape h cs I L A Q G J)) (wr := [(h 104, .inr (4, [.ref (h 103), .ref (h 160), .int (I 166), .int (I 167), .int (I 168), .int (I 169)])), (h 160, .inl (cs 3, 5, .inr (.inr (.inr (.inr (fun i => if i < 5 then some (h (i + 161)) else none)))))), (h 161, .inl (cs 0, 4, .inl ((G 1) 0))), (h 162, .inl (cs 0, 4, .inl ((G 1) 1))), (h 163, .inl (cs 0, 4, .inl ((G 1) 2))), (h 164, .inl (cs 0, 4, .inl ((G 1) 3))), (h 165, .inl (cs 0, 4, .inl ((G 1) 4)))]) hP hD hS hA [7, 8] [0, 1, 2, 3, 4, 5, 6] rfl rfl (by decide) (by decide) (va_runV (As := [.int (nI p9)]) (rest := []) ⟨hx, hb, hml, hown, hts⟩ (k_X7_at l dC dI h cs H.size I L A Q G J (nI p9) T hT (by first | assumption | omega | exact hT9)) (cwV 1 hts gX4_takeSign_X7_at rfl rfl rfl (by decide +kernel) ⟨Nat.le_of_ble_eq_true rfl, Nat.le_of_ble_eq_true rfl⟩) (xpV (wc := (wTape h cs I L A Q G J)) hP hD hK hN [7, 8] rfl (by decide) 7 (ci := 7) rfl rfl _) rfl rfl hl.1 rfl (lv_room (Nat.le_of_ble_eq_true rfl)) dX4_takeSign_8 ⟨Nat.zero_le _, Nat.zero_le _⟩) (fun r_2 u_1 H locs hw hP hD hS => ?_)
  obtain ⟨hf_3, rfl⟩ := hw
  have hP : va_P (dC, dI) vwCl (wRead h cs I L A Q G J) H := hP
  have hD : va_D A0 (wRead h cs I L A Q G J) := hD
  refine lv_istore_n (lv' := [(1, .int r_2), (0, .ref (h 104))]) hx hb dX4_takeSign_11 rfl hl (by decide) rfl (fun ls hl => ?_)
  refine lv_iload_n hx hb dX4_takeSign_12 rfl (lv_at hl 0 rfl) ?_
  refine lv_bipush (v := nI 44) hx hb dX4_takeSign_13 (by decide) ?_
  refine lv_icmp_ne (tgt := 52) hx hb dX4_takeSign_15 (by decide) (fun c_15_3 => ?_) (fun c_15_3 => ?_)
  · skip
    refine lv_iload_n hx hb dX4_takeSign_52 rfl (lv_at hl 0 rfl) ?_
    refine lv_bipush (v := nI 59) hx hb dX4_takeSign_53 (by decide) ?_
    refine lv_icmp_ne (tgt := 89) hx hb dX4_takeSign_55 (by decide) (fun c_55_4 => ?_) (fun c_55_4 => ?_)
    · skip
      refine lv_iconst (v := nI 0) hx hb dX4_takeSign_89 (by decide) ?_
      exact xr_z (v := (nI 0)) hx hb hr hlocks hK hS dX4_takeSign_90 (rfl) ((va_up (va_up (va_up (va_up I 166 (I 166)) 167 (I 167)) 168 (I 168)) 169 (I 169)), L, A, Q, G, J) ⟨(I 166), (I 167), (I 168), (I 169), (Or.inr ⟨rfl, rfl, rfl, rfl, rfl⟩), rfl⟩ hP hD
    · skip
      have hlt := at_lt (by omega) (by omega) hf_3 (eq45 c_55_4 (by decide))
      refine lv_aload_n hx hb dX4_takeSign_58 rfl (lv_at hl 1 rfl) ?_
      refine xj_i (wc := (wRead h cs I L A Q G J)) (wr := ([] : va_W)) hP hD hS hA [0, 1, 2, 3, 4, 5, 6, 7, 8] [] rfl rfl (by decide) (by decide) (va_runV (As := []) (rest := []) ⟨hx, hb, hml, hown, hts⟩ (k_X4_isRowWhole l dC dI h cs H.size I L A Q G J h6 w6 r6 hh (by first | assumption | omega | exact hh4) hw (by first | assumption | omega | exact hw4) hi6 (by first | assumption | omega | exact hi4)) (cwV 0 hts gX4_takeSign_X4_isRowWhole rfl rfl rfl (by decide +kernel) ⟨Nat.le_of_ble_eq_true rfl, Nat.le_of_ble_eq_true rfl⟩) (xpV (wc := (wRead h cs I L A Q G J)) hP hD hK hN [0, 1, 2, 3, 4, 5, 6, 7, 8] rfl (by decide) 0 (ci := 4) rfl rfl _) rfl rfl hl.1 rfl (lv_room (Nat.le_of_ble_eq_true rfl)) dX4_takeSign_59 ⟨Nat.zero_le _, Nat.zero_le _⟩) (fun r_7 u_6 H locs hw hP hD hS => ?_)
      obtain ⟨hf_8, rfl⟩ := hw
      have hP : va_P (dC, dI) vwCl (wRead h cs I L A Q G J) H := hP
      have hD : va_D A0 (wRead h cs I L A Q G J) := hD
      rcases hf_8 with ⟨rfl, hrw_9⟩ | ⟨rfl, hrw_9, hrw_10⟩
      · skip
        refine lv_if_eq (tgt := 89) hx hb dX4_takeSign_62 (by decide) (fun c9 => False.elim (by revert c9; decide +kernel)) (fun _ => ?_)
        refine lv_aload_n hx hb dX4_takeSign_65 rfl (lv_at hl 1 rfl) ?_
        refine va_get (D := (dC, dI)) (ci := 4) (v := .int (I 166)) (C := RX4) (T := TX4) (N := 6) hx hb hts hinX4 hown hK hP 0 rfl rfl 2 (by decide) (hts (.fieldLink RX4 20 "MixedWords$Reader" "height" "I") (by decide +kernel)) (fun _ h9 => h9) rfl dX4_takeSign_66 ?_
        refine xt_i (y := nI h6) (hh) ?_
        refine lv_iconst (v := nI 4) hx hb dX4_takeSign_69 (by decide) ?_
        refine xn_ge (tgt := 89) hx hb dX4_takeSign_70 (by decide) (by omega) (by omega) (fun c_70_10 => ?_) (fun c_70_10 => ?_)
        · skip
          refine lv_iconst (v := nI 0) hx hb dX4_takeSign_89 (by decide) ?_
          exact xr_z (v := (nI 0)) hx hb hr hlocks hK hS dX4_takeSign_90 (rfl) ((va_up (va_up (va_up (va_up I 166 (I 166)) 167 (I 167)) 168 (I 168)) 169 (I 169)), L, A, Q, G, J) ⟨(I 166), (I 167), (I 168), (I 169), (Or.inr ⟨rfl, rfl, rfl, rfl, rfl⟩), rfl⟩ hP hD
        · skip
          refine lv_aload_n hx hb dX4_takeSign_73 rfl (lv_at hl 1 rfl) ?_
          refine xj_v (wc := (wRead h cs I L A Q G J)) (wr := ([] : va_W)) hP hD hS hA [0, 1, 2, 3, 4, 5, 6, 7, 8] [] rfl rfl (by decide) (by decide) (va_runV (As := []) (rest := []) ⟨hx, hb, hml, hown, hts⟩ (k_X4_endRow l dC dI h cs H.size I L A Q G J h6 r6 hh (by first | assumption | omega | exact hh4) hi6 (by first | assumption | omega | exact hi4)) (cwV 0 hts gX4_takeSign_X4_endRow rfl rfl rfl (by decide +kernel) ⟨Nat.le_of_ble_eq_true rfl, Nat.le_of_ble_eq_true rfl⟩) (xpV (wc := (wRead h cs I L A Q G J)) hP hD hK hN [0, 1, 2, 3, 4, 5, 6, 7, 8] rfl (by decide) 0 (ci := 4) rfl rfl _) rfl rfl hl.1 rfl (lv_room (Nat.le_of_ble_eq_true rfl)) dX4_takeSign_74 ⟨Nat.zero_le _, Nat.zero_le _⟩) (fun u_12 H locs hw hP hD hS => ?_)
          obtain ⟨i167_14, i168_15, i166_16, hf_17, rfl⟩ := hw
          have hP : va_P (dC, dI) vwCl (wRead h cs (va_up (va_up (va_up I 167 i167_14) 168 i168_15) 166 i166_16) L A Q G J) H := hP
          have hD : va_D A0 (wRead h cs (va_up (va_up (va_up I 167 i167_14) 168 i168_15) 166 i166_16) L A Q G J) := hD
          obtain ⟨rfl, rfl, rfl⟩ := hf_17
          refine lv_aload_n hx hb dX4_takeSign_77 rfl (lv_at hl 1 rfl) ?_
          refine lv_dup hx hb dX4_takeSign_78 rfl ?_
          refine va_get (D := (dC, dI)) (ci := 4) (v := .int (I 169)) (C := RX4) (T := TX4) (N := 6) hx hb hts hinX4 hown hK hP 0 rfl rfl 5 (by decide) (hts (.fieldLink RX4 30 "MixedWords$Reader" "place" "I") (by decide +kernel)) (fun _ h9 => h9) rfl dX4_takeSign_79 ?_
          refine xt_i (y := nI p9) (hp) ?_
          refine lv_iconst (v := nI 1) hx hb dX4_takeSign_82 (by decide) ?_
          refine lv_iadd hx hb dX4_takeSign_83 ?_
          refine xt_i (y := nI (p9 + 1)) (nI_add _ _) ?_
          refine va_put (D := (dC, dI)) (ci := 4) (v := .int (nI (p9 + 1))) (ty := .int) (C := RX4) (T := TX4) (N := 6) hx hb hts hinX4 tyX4 tyX4_ok nmX4 hown hK hP hD hS 0 rfl rfl 5 (by decide) (hts (.fieldLink RX4 30 "MixedWords$Reader" "place" "I") (by decide +kernel)) (fun _ h9 => h9) rfl (by decide +kernel) rfl rfl (Nat.le_of_ble_eq_true rfl) dX4_takeSign_84 (fun H locs hP hD hS => ?_)
          have hP : va_P (dC, dI) vwCl (wRead h cs (va_up (va_up (va_up (va_up I 166 (nI (h6 + 1))) 167 (nI r6)) 168 (nI 0)) 169 (nI (p9 + 1))) L A Q G J) H := hP
          have hD : va_D A0 (wRead h cs (va_up (va_up (va_up (va_up I 166 (nI (h6 + 1))) 167 (nI r6)) 168 (nI 0)) 169 (nI (p9 + 1))) L A Q G J) := hD
          refine lv_iconst (v := nI 1) hx hb dX4_takeSign_87 (by decide) ?_
          exact xr_z (v := (nI 1)) hx hb hr hlocks hK hS dX4_takeSign_88 (rfl) ((va_up (va_up (va_up (va_up I 166 (nI (h6 + 1))) 167 (nI r6)) 168 (nI 0)) 169 (nI (p9 + 1))), L, A, Q, G, J) ⟨(nI (h6 + 1)), (nI r6), (nI 0), (nI (p9 + 1)), (Or.inl ⟨rfl, (h6 + 1), r6, 0, (p9 + 1), by omega, by omega, by omega, by omega, by first | rfl | assumption, by first | rfl | assumption, by first | rfl | assumption, rfl⟩), rfl⟩ hP hD
      · skip
        refine lv_if_eq (tgt := 89) hx hb dX4_takeSign_62 (by decide) (fun _ => ?_) (fun c9 => False.elim (by revert c9; decide +kernel))
        refine lv_iconst (v := nI 0) hx hb dX4_takeSign_89 (by decide) ?_
        exact xr_z (v := (nI 0)) hx hb hr hlocks hK hS dX4_takeSign_90 (rfl) ((va_up (va_up (va_up (va_up I 166 (I 166)) 167 (I 167)) 168 (I 168)) 169 (I 169)), L, A, Q, G, J) ⟨(I 166), (I 167), (I 168), (I 169), (Or.inr ⟨rfl, rfl, rfl, rfl, rfl⟩), rfl⟩ hP hD
  · skip
    have hlt := at_lt (by omega) (by omega) hf_3 (eq45 c_15_3 (by decide))
    refine lv_aload_n hx hb dX4_takeSign_18 rfl (lv_at hl 1 rfl) ?_
    refine va_get (D := (dC, dI)) (ci := 4) (v := .int (I 168)) (C := RX4) (T := TX4) (N := 6) hx hb hts hinX4 hown hK hP 0 rfl rfl 4 (by decide) (hts (.fieldLink RX4 27 "MixedWords$Reader" "inRow" "I") (by decide +kernel)) (fun _ h9 => h9) rfl dX4_takeSign_19 ?_
    refine xt_i (y := nI r6) (hi6) ?_
    refine lv_aload_n hx hb dX4_takeSign_22 rfl (lv_at hl 1 rfl) ?_
    refine va_get (D := (dC, dI)) (ci := 4) (v := .int (I 166)) (C := RX4) (T := TX4) (N := 6) hx hb hts hinX4 hown hK hP 0 rfl rfl 2 (by decide) (hts (.fieldLink RX4 20 "MixedWords$Reader" "height" "I") (by decide +kernel)) (fun _ h9 => h9) rfl dX4_takeSign_23 ?_
    refine xt_i (y := nI h6) (hh) ?_
    refine xz_ne (tgt := 33) hx hb dX4_takeSign_26 (by decide) (by omega) (fun c_26_17 => ?_) (fun c_26_17 => ?_)
    · skip
      refine lv_aload_n hx hb dX4_takeSign_33 rfl (lv_at hl 1 rfl) ?_
      refine va_get (D := (dC, dI)) (ci := 4) (v := .int (I 167)) (C := RX4) (T := TX4) (N := 6) hx hb hts hinX4 hown hK hP 0 rfl rfl 3 (by decide) (hts (.fieldLink RX4 24 "MixedWords$Reader" "width" "I") (by decide +kernel)) (fun _ h9 => h9) rfl dX4_takeSign_34 ?_
      refine xt_i (y := nI w6) (hw) ?_
      refine xn_ge (tgt := 52) hx hb dX4_takeSign_37 (by decide) (by omega) (by omega) (fun c_37_18 => ?_) (fun c_37_18 => ?_)
      · skip
        refine lv_iload_n hx hb dX4_takeSign_52 rfl (lv_at hl 0 rfl) ?_
        refine lv_bipush (v := nI 59) hx hb dX4_takeSign_53 (by decide) ?_
        refine lv_icmp_ne (tgt := 89) hx hb dX4_takeSign_55 (by decide) (fun c_55_19 => ?_) (fun c_55_19 => ?_)
        · skip
          refine lv_iconst (v := nI 0) hx hb dX4_takeSign_89 (by decide) ?_
          exact xr_z (v := (nI 0)) hx hb hr hlocks hK hS dX4_takeSign_90 (rfl) ((va_up (va_up (va_up (va_up I 166 (I 166)) 167 (I 167)) 168 (I 168)) 169 (I 169)), L, A, Q, G, J) ⟨(I 166), (I 167), (I 168), (I 169), (Or.inr ⟨rfl, rfl, rfl, rfl, rfl⟩), rfl⟩ hP hD
        · skip
          have hlt := at_lt (by omega) (by omega) hf_3 (eq45 c_55_19 (by decide))
          refine lv_aload_n hx hb dX4_takeSign_58 rfl (lv_at hl 1 rfl) ?_
          refine xj_i (wc := (wRead h cs I L A Q G J)) (wr := ([] : va_W)) hP hD hS hA [0, 1, 2, 3, 4, 5, 6, 7, 8] [] rfl rfl (by decide) (by decide) (va_runV (As := []) (rest := []) ⟨hx, hb, hml, hown, hts⟩ (k_X4_isRowWhole l dC dI h cs H.size I L A Q G J h6 w6 r6 hh (by first | assumption | omega | exact hh4) hw (by first | assumption | omega | exact hw4) hi6 (by first | assumption | omega | exact hi4)) (cwV 0 hts gX4_takeSign_X4_isRowWhole rfl rfl rfl (by decide +kernel) ⟨Nat.le_of_ble_eq_true rfl, Nat.le_of_ble_eq_true rfl⟩) (xpV (wc := (wRead h cs I L A Q G J)) hP hD hK hN [0, 1, 2, 3, 4, 5, 6, 7, 8] rfl (by decide) 0 (ci := 4) rfl rfl _) rfl rfl hl.1 rfl (lv_room (Nat.le_of_ble_eq_true rfl)) dX4_takeSign_59 ⟨Nat.zero_le _, Nat.zero_le _⟩) (fun r_22 u_21 H locs hw hP hD hS => ?_)
          obtain ⟨hf_23, rfl⟩ := hw
          have hP : va_P (dC, dI) vwCl (wRead h cs I L A Q G J) H := hP
          have hD : va_D A0 (wRead h cs I L A Q G J) := hD
          rcases hf_23 with ⟨rfl, hrw_24⟩ | ⟨rfl, hrw_24, hrw_25⟩
          · skip
            refine lv_if_eq (tgt := 89) hx hb dX4_takeSign_62 (by decide) (fun c9 => False.elim (by revert c9; decide +kernel)) (fun _ => ?_)
            refine lv_aload_n hx hb dX4_takeSign_65 rfl (lv_at hl 1 rfl) ?_
            refine va_get (D := (dC, dI)) (ci := 4) (v := .int (I 166)) (C := RX4) (T := TX4) (N := 6) hx hb hts hinX4 hown hK hP 0 rfl rfl 2 (by decide) (hts (.fieldLink RX4 20 "MixedWords$Reader" "height" "I") (by decide +kernel)) (fun _ h9 => h9) rfl dX4_takeSign_66 ?_
            refine xt_i (y := nI h6) (hh) ?_
            refine lv_iconst (v := nI 4) hx hb dX4_takeSign_69 (by decide) ?_
            refine xn_ge (tgt := 89) hx hb dX4_takeSign_70 (by decide) (by omega) (by omega) (fun c_70_25 => ?_) (fun c_70_25 => ?_)
            · skip
              refine lv_iconst (v := nI 0) hx hb dX4_takeSign_89 (by decide) ?_
              exact xr_z (v := (nI 0)) hx hb hr hlocks hK hS dX4_takeSign_90 (rfl) ((va_up (va_up (va_up (va_up I 166 (I 166)) 167 (I 167)) 168 (I 168)) 169 (I 169)), L, A, Q, G, J) ⟨(I 166), (I 167), (I 168), (I 169), (Or.inr ⟨rfl, rfl, rfl, rfl, rfl⟩), rfl⟩ hP hD
            · skip
              refine lv_aload_n hx hb dX4_takeSign_73 rfl (lv_at hl 1 rfl) ?_
              refine xj_v (wc := (wRead h cs I L A Q G J)) (wr := ([] : va_W)) hP hD hS hA [0, 1, 2, 3, 4, 5, 6, 7, 8] [] rfl rfl (by decide) (by decide) (va_runV (As := []) (rest := []) ⟨hx, hb, hml, hown, hts⟩ (k_X4_endRow l dC dI h cs H.size I L A Q G J h6 r6 hh (by first | assumption | omega | exact hh4) hi6 (by first | assumption | omega | exact hi4)) (cwV 0 hts gX4_takeSign_X4_endRow rfl rfl rfl (by decide +kernel) ⟨Nat.le_of_ble_eq_true rfl, Nat.le_of_ble_eq_true rfl⟩) (xpV (wc := (wRead h cs I L A Q G J)) hP hD hK hN [0, 1, 2, 3, 4, 5, 6, 7, 8] rfl (by decide) 0 (ci := 4) rfl rfl _) rfl rfl hl.1 rfl (lv_room (Nat.le_of_ble_eq_true rfl)) dX4_takeSign_74 ⟨Nat.zero_le _, Nat.zero_le _⟩) (fun u_27 H locs hw hP hD hS => ?_)
              obtain ⟨i167_29, i168_30, i166_31, hf_32, rfl⟩ := hw
              have hP : va_P (dC, dI) vwCl (wRead h cs (va_up (va_up (va_up I 167 i167_29) 168 i168_30) 166 i166_31) L A Q G J) H := hP
              have hD : va_D A0 (wRead h cs (va_up (va_up (va_up I 167 i167_29) 168 i168_30) 166 i166_31) L A Q G J) := hD
              obtain ⟨rfl, rfl, rfl⟩ := hf_32
              refine lv_aload_n hx hb dX4_takeSign_77 rfl (lv_at hl 1 rfl) ?_
              refine lv_dup hx hb dX4_takeSign_78 rfl ?_
              refine va_get (D := (dC, dI)) (ci := 4) (v := .int (I 169)) (C := RX4) (T := TX4) (N := 6) hx hb hts hinX4 hown hK hP 0 rfl rfl 5 (by decide) (hts (.fieldLink RX4 30 "MixedWords$Reader" "place" "I") (by decide +kernel)) (fun _ h9 => h9) rfl dX4_takeSign_79 ?_
              refine xt_i (y := nI p9) (hp) ?_
              refine lv_iconst (v := nI 1) hx hb dX4_takeSign_82 (by decide) ?_
              refine lv_iadd hx hb dX4_takeSign_83 ?_
              refine xt_i (y := nI (p9 + 1)) (nI_add _ _) ?_
              refine va_put (D := (dC, dI)) (ci := 4) (v := .int (nI (p9 + 1))) (ty := .int) (C := RX4) (T := TX4) (N := 6) hx hb hts hinX4 tyX4 tyX4_ok nmX4 hown hK hP hD hS 0 rfl rfl 5 (by decide) (hts (.fieldLink RX4 30 "MixedWords$Reader" "place" "I") (by decide +kernel)) (fun _ h9 => h9) rfl (by decide +kernel) rfl rfl (Nat.le_of_ble_eq_true rfl) dX4_takeSign_84 (fun H locs hP hD hS => ?_)
              have hP : va_P (dC, dI) vwCl (wRead h cs (va_up (va_up (va_up (va_up I 166 (nI (h6 + 1))) 167 (nI r6)) 168 (nI 0)) 169 (nI (p9 + 1))) L A Q G J) H := hP
              have hD : va_D A0 (wRead h cs (va_up (va_up (va_up (va_up I 166 (nI (h6 + 1))) 167 (nI r6)) 168 (nI 0)) 169 (nI (p9 + 1))) L A Q G J) := hD
              refine lv_iconst (v := nI 1) hx hb dX4_takeSign_87 (by decide) ?_
              exact xr_z (v := (nI 1)) hx hb hr hlocks hK hS dX4_takeSign_88 (rfl) ((va_up (va_up (va_up (va_up I 166 (nI (h6 + 1))) 167 (nI r6)) 168 (nI 0)) 169 (nI (p9 + 1))), L, A, Q, G, J) ⟨(nI (h6 + 1)), (nI r6), (nI 0), (nI (p9 + 1)), (Or.inl ⟨rfl, (h6 + 1), r6, 0, (p9 + 1), by omega, by omega, by omega, by omega, by first | rfl | assumption, by first | rfl | assumption, by first | rfl | assumption, rfl⟩), rfl⟩ hP hD
          · skip
            refine lv_if_eq (tgt := 89) hx hb dX4_takeSign_62 (by decide) (fun _ => ?_) (fun c9 => False.elim (by revert c9; decide +kernel))
            refine lv_iconst (v := nI 0) hx hb dX4_takeSign_89 (by decide) ?_
            exact xr_z (v := (nI 0)) hx hb hr hlocks hK hS dX4_takeSign_90 (rfl) ((va_up (va_up (va_up (va_up I 166 (I 166)) 167 (I 167)) 168 (I 168)) 169 (I 169)), L, A, Q, G, J) ⟨(I 166), (I 167), (I 168), (I 169), (Or.inr ⟨rfl, rfl, rfl, rfl, rfl⟩), rfl⟩ hP hD
      · skip
        refine lv_aload_n hx hb dX4_takeSign_40 rfl (lv_at hl 1 rfl) ?_
        refine lv_dup hx hb dX4_takeSign_41 rfl ?_
        refine va_get (D := (dC, dI)) (ci := 4) (v := .int (I 169)) (C := RX4) (T := TX4) (N := 6) hx hb hts hinX4 hown hK hP 0 rfl rfl 5 (by decide) (hts (.fieldLink RX4 30 "MixedWords$Reader" "place" "I") (by decide +kernel)) (fun _ h9 => h9) rfl dX4_takeSign_42 ?_
        refine xt_i (y := nI p9) (hp) ?_
        refine lv_iconst (v := nI 1) hx hb dX4_takeSign_45 (by decide) ?_
        refine lv_iadd hx hb dX4_takeSign_46 ?_
        refine xt_i (y := nI (p9 + 1)) (nI_add _ _) ?_
        refine va_put (D := (dC, dI)) (ci := 4) (v := .int (nI (p9 + 1))) (ty := .int) (C := RX4) (T := TX4) (N := 6) hx hb hts hinX4 tyX4 tyX4_ok nmX4 hown hK hP hD hS 0 rfl rfl 5 (by decide) (hts (.fieldLink RX4 30 "MixedWords$Reader" "place" "I") (by decide +kernel)) (fun _ h9 => h9) rfl (by decide +kernel) rfl rfl (Nat.le_of_ble_eq_true rfl) dX4_takeSign_47 (fun H locs hP hD hS => ?_)
        have hP : va_P (dC, dI) vwCl (wRead h cs (va_up I 169 (nI (p9 + 1))) L A Q G J) H := hP
        have hD : va_D A0 (wRead h cs (va_up I 169 (nI (p9 + 1))) L A Q G J) := hD
        refine lv_iconst (v := nI 1) hx hb dX4_takeSign_50 (by decide) ?_
        exact xr_z (v := (nI 1)) hx hb hr hlocks hK hS dX4_takeSign_51 (rfl) ((va_up (va_up (va_up (va_up I 166 (I 166)) 167 (I 167)) 168 (I 168)) 169 (nI (p9 + 1))), L, A, Q, G, J) ⟨(I 166), (I 167), (I 168), (nI (p9 + 1)), (Or.inl ⟨rfl, h6, w6, r6, (p9 + 1), by omega, by omega, by omega, by omega, by first | rfl | assumption, by first | rfl | assumption, by first | rfl | assumption, rfl⟩), rfl⟩ hP hD
    · skip
      refine lv_iconst (v := nI 4) hx hb dX4_takeSign_29 (by decide) ?_
      refine lv_goto (tgt := 37) hx hb dX4_takeSign_30 (by decide) ?_
      refine xn_ge (tgt := 52) hx hb dX4_takeSign_37 (by decide) (by omega) (by omega) (fun c_37_32 => ?_) (fun c_37_32 => ?_)
      · skip
        refine lv_iload_n hx hb dX4_takeSign_52 rfl (lv_at hl 0 rfl) ?_
        refine lv_bipush (v := nI 59) hx hb dX4_takeSign_53 (by decide) ?_
        refine lv_icmp_ne (tgt := 89) hx hb dX4_takeSign_55 (by decide) (fun c_55_33 => ?_) (fun c_55_33 => ?_)
        · skip
          refine lv_iconst (v := nI 0) hx hb dX4_takeSign_89 (by decide) ?_
          exact xr_z (v := (nI 0)) hx hb hr hlocks hK hS dX4_takeSign_90 (rfl) ((va_up (va_up (va_up (va_up I 166 (I 166)) 167 (I 167)) 168 (I 168)) 169 (I 169)), L, A, Q, G, J) ⟨(I 166), (I 167), (I 168), (I 169), (Or.inr ⟨rfl, rfl, rfl, rfl, rfl⟩), rfl⟩ hP hD
        · skip
          have hlt := at_lt (by omega) (by omega) hf_3 (eq45 c_55_33 (by decide))
          refine lv_aload_n hx hb dX4_takeSign_58 rfl (lv_at hl 1 rfl) ?_
          refine xj_i (wc := (wRead h cs I L A Q G J)) (wr := ([] : va_W)) hP hD hS hA [0, 1, 2, 3, 4, 5, 6, 7, 8] [] rfl rfl (by decide) (by decide) (va_runV (As := []) (rest := []) ⟨hx, hb, hml, hown, hts⟩ (k_X4_isRowWhole l dC dI h cs H.size I L A Q G J h6 w6 r6 hh (by first | assumption | omega | exact hh4) hw (by first | assumption | omega | exact hw4) hi6 (by first | assumption | omega | exact hi4)) (cwV 0 hts gX4_takeSign_X4_isRowWhole rfl rfl rfl (by decide +kernel) ⟨Nat.le_of_ble_eq_true rfl, Nat.le_of_ble_eq_true rfl⟩) (xpV (wc := (wRead h cs I L A Q G J)) hP hD hK hN [0, 1, 2, 3, 4, 5, 6, 7, 8] rfl (by decide) 0 (ci := 4) rfl rfl _) rfl rfl hl.1 rfl (lv_room (Nat.le_of_ble_eq_true rfl)) dX4_takeSign_59 ⟨Nat.zero_le _, Nat.zero_le _⟩) (fun r_36 u_35 H locs hw hP hD hS => ?_)
          obtain ⟨hf_37, rfl⟩ := hw
          have hP : va_P (dC, dI) vwCl (wRead h cs I L A Q G J) H := hP
          have hD : va_D A0 (wRead h cs I L A Q G J) := hD
          rcases hf_37 with ⟨rfl, hrw_38⟩ | ⟨rfl, hrw_38, hrw_39⟩
          · skip
            refine lv_if_eq (tgt := 89) hx hb dX4_takeSign_62 (by decide) (fun c9 => False.elim (by revert c9; decide +kernel)) (fun _ => ?_)
            refine lv_aload_n hx hb dX4_takeSign_65 rfl (lv_at hl 1 rfl) ?_
            refine va_get (D := (dC, dI)) (ci := 4) (v := .int (I 166)) (C := RX4) (T := TX4) (N := 6) hx hb hts hinX4 hown hK hP 0 rfl rfl 2 (by decide) (hts (.fieldLink RX4 20 "MixedWords$Reader" "height" "I") (by decide +kernel)) (fun _ h9 => h9) rfl dX4_takeSign_66 ?_
            refine xt_i (y := nI h6) (hh) ?_
            refine lv_iconst (v := nI 4) hx hb dX4_takeSign_69 (by decide) ?_
            refine xn_ge (tgt := 89) hx hb dX4_takeSign_70 (by decide) (by omega) (by omega) (fun c_70_39 => ?_) (fun c_70_39 => ?_)
            · skip
              refine lv_iconst (v := nI 0) hx hb dX4_takeSign_89 (by decide) ?_
              exact xr_z (v := (nI 0)) hx hb hr hlocks hK hS dX4_takeSign_90 (rfl) ((va_up (va_up (va_up (va_up I 166 (I 166)) 167 (I 167)) 168 (I 168)) 169 (I 169)), L, A, Q, G, J) ⟨(I 166), (I 167), (I 168), (I 169), (Or.inr ⟨rfl, rfl, rfl, rfl, rfl⟩), rfl⟩ hP hD
            · skip
              refine lv_aload_n hx hb dX4_takeSign_73 rfl (lv_at hl 1 rfl) ?_
              refine xj_v (wc := (wRead h cs I L A Q G J)) (wr := ([] : va_W)) hP hD hS hA [0, 1, 2, 3, 4, 5, 6, 7, 8] [] rfl rfl (by decide) (by decide) (va_runV (As := []) (rest := []) ⟨hx, hb, hml, hown, hts⟩ (k_X4_endRow l dC dI h cs H.size I L A Q G J h6 r6 hh (by first | assumption | omega | exact hh4) hi6 (by first | assumption | omega | exact hi4)) (cwV 0 hts gX4_takeSign_X4_endRow rfl rfl rfl (by decide +kernel) ⟨Nat.le_of_ble_eq_true rfl, Nat.le_of_ble_eq_true rfl⟩) (xpV (wc := (wRead h cs I L A Q G J)) hP hD hK hN [0, 1, 2, 3, 4, 5, 6, 7, 8] rfl (by decide) 0 (ci := 4) rfl rfl _) rfl rfl hl.1 rfl (lv_room (Nat.le_of_ble_eq_true rfl)) dX4_takeSign_74 ⟨Nat.zero_le _, Nat.zero_le _⟩) (fun u_41 H locs hw hP hD hS => ?_)
              obtain ⟨i167_43, i168_44, i166_45, hf_46, rfl⟩ := hw
              have hP : va_P (dC, dI) vwCl (wRead h cs (va_up (va_up (va_up I 167 i167_43) 168 i168_44) 166 i166_45) L A Q G J) H := hP
              have hD : va_D A0 (wRead h cs (va_up (va_up (va_up I 167 i167_43) 168 i168_44) 166 i166_45) L A Q G J) := hD
              obtain ⟨rfl, rfl, rfl⟩ := hf_46
              refine lv_aload_n hx hb dX4_takeSign_77 rfl (lv_at hl 1 rfl) ?_
              refine lv_dup hx hb dX4_takeSign_78 rfl ?_
              refine va_get (D := (dC, dI)) (ci := 4) (v := .int (I 169)) (C := RX4) (T := TX4) (N := 6) hx hb hts hinX4 hown hK hP 0 rfl rfl 5 (by decide) (hts (.fieldLink RX4 30 "MixedWords$Reader" "place" "I") (by decide +kernel)) (fun _ h9 => h9) rfl dX4_takeSign_79 ?_
              refine xt_i (y := nI p9) (hp) ?_
              refine lv_iconst (v := nI 1) hx hb dX4_takeSign_82 (by decide) ?_
              refine lv_iadd hx hb dX4_takeSign_83 ?_
              refine xt_i (y := nI (p9 + 1)) (nI_add _ _) ?_
              refine va_put (D := (dC, dI)) (ci := 4) (v := .int (nI (p9 + 1))) (ty := .int) (C := RX4) (T := TX4) (N := 6) hx hb hts hinX4 tyX4 tyX4_ok nmX4 hown hK hP hD hS 0 rfl rfl 5 (by decide) (hts (.fieldLink RX4 30 "MixedWords$Reader" "place" "I") (by decide +kernel)) (fun _ h9 => h9) rfl (by decide +kernel) rfl rfl (Nat.le_of_ble_eq_true rfl) dX4_takeSign_84 (fun H locs hP hD hS => ?_)
              have hP : va_P (dC, dI) vwCl (wRead h cs (va_up (va_up (va_up (va_up I 166 (nI (h6 + 1))) 167 (nI r6)) 168 (nI 0)) 169 (nI (p9 + 1))) L A Q G J) H := hP
              have hD : va_D A0 (wRead h cs (va_up (va_up (va_up (va_up I 166 (nI (h6 + 1))) 167 (nI r6)) 168 (nI 0)) 169 (nI (p9 + 1))) L A Q G J) := hD
              refine lv_iconst (v := nI 1) hx hb dX4_takeSign_87 (by decide) ?_
              exact xr_z (v := (nI 1)) hx hb hr hlocks hK hS dX4_takeSign_88 (rfl) ((va_up (va_up (va_up (va_up I 166 (nI (h6 + 1))) 167 (nI r6)) 168 (nI 0)) 169 (nI (p9 + 1))), L, A, Q, G, J) ⟨(nI (h6 + 1)), (nI r6), (nI 0), (nI (p9 + 1)), (Or.inl ⟨rfl, (h6 + 1), r6, 0, (p9 + 1), by omega, by omega, by omega, by omega, by first | rfl | assumption, by first | rfl | assumption, by first | rfl | assumption, rfl⟩), rfl⟩ hP hD
          · skip
            refine lv_if_eq (tgt := 89) hx hb dX4_takeSign_62 (by decide) (fun _ => ?_) (fun c9 => False.elim (by revert c9; decide +kernel))
            refine lv_iconst (v := nI 0) hx hb dX4_takeSign_89 (by decide) ?_
            exact xr_z (v := (nI 0)) hx hb hr hlocks hK hS dX4_takeSign_90 (rfl) ((va_up (va_up (va_up (va_up I 166 (I 166)) 167 (I 167)) 168 (I 168)) 169 (I 169)), L, A, Q, G, J) ⟨(I 166), (I 167), (I 168), (I 169), (Or.inr ⟨rfl, rfl, rfl, rfl, rfl⟩), rfl⟩ hP hD
      · skip
        refine lv_aload_n hx hb dX4_takeSign_40 rfl (lv_at hl 1 rfl) ?_
        refine lv_dup hx hb dX4_takeSign_41 rfl ?_
        refine va_get (D := (dC, dI)) (ci := 4) (v := .int (I 169)) (C := RX4) (T := TX4) (N := 6) hx hb hts hinX4 hown hK hP 0 rfl rfl 5 (by decide) (hts (.fieldLink RX4 30 "MixedWords$Reader" "place" "I") (by decide +kernel)) (fun _ h9 => h9) rfl dX4_takeSign_42 ?_
        refine xt_i (y := nI p9) (hp) ?_
        refine lv_iconst (v := nI 1) hx hb dX4_takeSign_45 (by decide) ?_
        refine lv_iadd hx hb dX4_takeSign_46 ?_
        refine xt_i (y := nI (p9 + 1)) (nI_add _ _) ?_
        refine va_put (D := (dC, dI)) (ci := 4) (v := .int (nI (p9 + 1))) (ty := .int) (C := RX4) (T := TX4) (N := 6) hx hb hts hinX4 tyX4 tyX4_ok nmX4 hown hK hP hD hS 0 rfl rfl 5 (by decide) (hts (.fieldLink RX4 30 "MixedWords$Reader" "place" "I") (by decide +kernel)) (fun _ h9 => h9) rfl (by decide +kernel) rfl rfl (Nat.le_of_ble_eq_true rfl) dX4_takeSign_47 (fun H locs hP hD hS => ?_)
        have hP : va_P (dC, dI) vwCl (wRead h cs (va_up I 169 (nI (p9 + 1))) L A Q G J) H := hP
        have hD : va_D A0 (wRead h cs (va_up I 169 (nI (p9 + 1))) L A Q G J) := hD
        refine lv_iconst (v := nI 1) hx hb dX4_takeSign_50 (by decide) ?_
        exact xr_z (v := (nI 1)) hx hb hr hlocks hK hS dX4_takeSign_51 (rfl) ((va_up (va_up (va_up (va_up I 166 (I 166)) 167 (I 167)) 168 (I 168)) 169 (nI (p9 + 1))), L, A, Q, G, J) ⟨(I 166), (I 167), (I 168), (nI (p9 + 1)), (Or.inl ⟨rfl, h6, w6, r6, (p9 + 1), by omega, by omega, by omega, by omega, by first | rfl | assumption, by first | rfl | assumption, by first | rfl | assumption, rfl⟩), rfl⟩ hP hD
set_option maxRecDepth 20000 in
theorem ggX4_takeNumber_X4_skipBlanks : GoodIn wsX4_takeNumber wsX4_skipBlanks := goodIn_r _ [15, 2, 1, 5, 16, 17, 18, 19, 20, 21, 22, 27, 28, 29, 30, 31, 32, 33, 34] (by decide +kernel) (by decide +kernel)
set_option maxRecDepth 20000 in
theorem gX4_takeNumber_X4_skipBlanks : GoodIn wsX4_takeNumber (wsV RX4 37 RX4 yX4_skipBlanks wsX4_skipBlanks) := goodIn_app (goodIn_of _ (by decide +kernel)) ggX4_takeNumber_X4_skipBlanks
set_option maxRecDepth 20000 in
theorem ggX4_takeNumber_X7_at : GoodIn wsX4_takeNumber wsX7_at := goodIn_r _ [20, 21, 22, 33, 34] (by decide +kernel) (by decide +kernel)
set_option maxRecDepth 20000 in
theorem gX4_takeNumber_X7_at : GoodIn wsX4_takeNumber (wsV RX4 40 RX7 yX7_at wsX7_at) := goodIn_app (goodIn_of _ (by decide +kernel)) ggX4_takeNumber_X7_at
set_option maxRecDepth 20000 in
theorem ggX4_takeNumber_X4_isDigit : GoodIn wsX4_takeNumber wsX4_isDigit := goodIn_r _ [26, 1, 2, 16, 17, 18, 19, 20, 21, 22, 27, 28, 29, 30, 31, 32, 33, 34] (by decide +kernel) (by decide +kernel)
set_option maxRecDepth 20000 in
theorem gX4_takeNumber_X4_isDigit : GoodIn wsX4_takeNumber (wsV RX4 58 RX4 yX4_isDigit wsX4_isDigit) := goodIn_app (goodIn_of _ (by decide +kernel)) ggX4_takeNumber_X4_isDigit
theorem bdX4_takeNumber_0 : (decode cX4_takeNumber 0 = .ok (.aload_n 0, 1)) ∧ (decode cX4_takeNumber 1 = .ok (.invokevirtual 37, 3)) ∧ (decode cX4_takeNumber 4 = .ok (.aload_n 0, 1)) ∧ (decode cX4_takeNumber 5 = .ok (.getfield 16, 3)) ∧ (decode cX4_takeNumber 8 = .ok (.aload_n 0, 1)) ∧ (decode cX4_takeNumber 9 = .ok (.getfield 30, 3)) ∧ (decode cX4_takeNumber 12 = .ok (.invokevirtual 40, 3)) ∧ (decode cX4_takeNumber 15 = .ok (.bipush 45, 2)) ∧ (decode cX4_takeNumber 17 = .ok (.if_icmp .ne 7, 3)) ∧ (decode cX4_takeNumber 20 = .ok (.iconst 1, 1)) ∧ (decode cX4_takeNumber 21 = .ok (.goto 4, 3)) ∧ (decode cX4_takeNumber 24 = .ok (.iconst 0, 1)) ∧ (decode cX4_takeNumber 25 = .ok (.istore_n 1, 1)) ∧ (decode cX4_takeNumber 26 = .ok (.iload_n 1, 1)) ∧ (decode cX4_takeNumber 27 = .ok (.ifCond .eq 17, 3)) ∧ (decode cX4_takeNumber 30 = .ok (.aload_n 0, 1)) := by decide +kernel
theorem dX4_takeNumber_0 : decode cX4_takeNumber 0 = .ok (.aload_n 0, 1) := bdX4_takeNumber_0.1
theorem dX4_takeNumber_1 : decode cX4_takeNumber 1 = .ok (.invokevirtual 37, 3) := bdX4_takeNumber_0.2.1
theorem dX4_takeNumber_4 : decode cX4_takeNumber 4 = .ok (.aload_n 0, 1) := bdX4_takeNumber_0.2.2.1
theorem dX4_takeNumber_5 : decode cX4_takeNumber 5 = .ok (.getfield 16, 3) := bdX4_takeNumber_0.2.2.2.1
theorem dX4_takeNumber_8 : decode cX4_takeNumber 8 = .ok (.aload_n 0, 1) := bdX4_takeNumber_0.2.2.2.2.1
theorem dX4_takeNumber_9 : decode cX4_takeNumber 9 = .ok (.getfield 30, 3) := bdX4_takeNumber_0.2.2.2.2.2.1
theorem dX4_takeNumber_12 : decode cX4_takeNumber 12 = .ok (.invokevirtual 40, 3) := bdX4_takeNumber_0.2.2.2.2.2.2.1
theorem dX4_takeNumber_15 : decode cX4_takeNumber 15 = .ok (.bipush 45, 2) := bdX4_takeNumber_0.2.2.2.2.2.2.2.1
theorem dX4_takeNumber_17 : decode cX4_takeNumber 17 = .ok (.if_icmp .ne 7, 3) := bdX4_takeNumber_0.2.2.2.2.2.2.2.2.1
theorem dX4_takeNumber_20 : decode cX4_takeNumber 20 = .ok (.iconst 1, 1) := bdX4_takeNumber_0.2.2.2.2.2.2.2.2.2.1
theorem dX4_takeNumber_21 : decode cX4_takeNumber 21 = .ok (.goto 4, 3) := bdX4_takeNumber_0.2.2.2.2.2.2.2.2.2.2.1
theorem dX4_takeNumber_24 : decode cX4_takeNumber 24 = .ok (.iconst 0, 1) := bdX4_takeNumber_0.2.2.2.2.2.2.2.2.2.2.2.1
theorem dX4_takeNumber_25 : decode cX4_takeNumber 25 = .ok (.istore_n 1, 1) := bdX4_takeNumber_0.2.2.2.2.2.2.2.2.2.2.2.2.1
theorem dX4_takeNumber_26 : decode cX4_takeNumber 26 = .ok (.iload_n 1, 1) := bdX4_takeNumber_0.2.2.2.2.2.2.2.2.2.2.2.2.2.1
theorem dX4_takeNumber_27 : decode cX4_takeNumber 27 = .ok (.ifCond .eq 17, 3) := bdX4_takeNumber_0.2.2.2.2.2.2.2.2.2.2.2.2.2.2.1
theorem dX4_takeNumber_30 : decode cX4_takeNumber 30 = .ok (.aload_n 0, 1) := bdX4_takeNumber_0.2.2.2.2.2.2.2.2.2.2.2.2.2.2.2
theorem bdX4_takeNumber_31 : (decode cX4_takeNumber 31 = .ok (.dup, 1)) ∧ (decode cX4_takeNumber 32 = .ok (.getfield 30, 3)) ∧ (decode cX4_takeNumber 35 = .ok (.iconst 1, 1)) ∧ (decode cX4_takeNumber 36 = .ok (.iadd, 1)) ∧ (decode cX4_takeNumber 37 = .ok (.putfield 30, 3)) ∧ (decode cX4_takeNumber 40 = .ok (.aload_n 0, 1)) ∧ (decode cX4_takeNumber 41 = .ok (.invokevirtual 37, 3)) ∧ (decode cX4_takeNumber 44 = .ok (.aload_n 0, 1)) ∧ (decode cX4_takeNumber 45 = .ok (.invokevirtual 58, 3)) ∧ (decode cX4_takeNumber 48 = .ok (.ifCond .eq 19, 3)) ∧ (decode cX4_takeNumber 51 = .ok (.aload_n 0, 1)) ∧ (decode cX4_takeNumber 52 = .ok (.getfield 20, 3)) ∧ (decode cX4_takeNumber 55 = .ok (.iconst 5, 1)) ∧ (decode cX4_takeNumber 56 = .ok (.if_icmp .ge 11, 3)) ∧ (decode cX4_takeNumber 59 = .ok (.aload_n 0, 1)) ∧ (decode cX4_takeNumber 60 = .ok (.getfield 27, 3)) := by decide +kernel
theorem dX4_takeNumber_31 : decode cX4_takeNumber 31 = .ok (.dup, 1) := bdX4_takeNumber_31.1
theorem dX4_takeNumber_32 : decode cX4_takeNumber 32 = .ok (.getfield 30, 3) := bdX4_takeNumber_31.2.1
theorem dX4_takeNumber_35 : decode cX4_takeNumber 35 = .ok (.iconst 1, 1) := bdX4_takeNumber_31.2.2.1
theorem dX4_takeNumber_36 : decode cX4_takeNumber 36 = .ok (.iadd, 1) := bdX4_takeNumber_31.2.2.2.1
theorem dX4_takeNumber_37 : decode cX4_takeNumber 37 = .ok (.putfield 30, 3) := bdX4_takeNumber_31.2.2.2.2.1
theorem dX4_takeNumber_40 : decode cX4_takeNumber 40 = .ok (.aload_n 0, 1) := bdX4_takeNumber_31.2.2.2.2.2.1
theorem dX4_takeNumber_41 : decode cX4_takeNumber 41 = .ok (.invokevirtual 37, 3) := bdX4_takeNumber_31.2.2.2.2.2.2.1
theorem dX4_takeNumber_44 : decode cX4_takeNumber 44 = .ok (.aload_n 0, 1) := bdX4_takeNumber_31.2.2.2.2.2.2.2.1
theorem dX4_takeNumber_45 : decode cX4_takeNumber 45 = .ok (.invokevirtual 58, 3) := bdX4_takeNumber_31.2.2.2.2.2.2.2.2.1
theorem dX4_takeNumber_48 : decode cX4_takeNumber 48 = .ok (.ifCond .eq 19, 3) := bdX4_takeNumber_31.2.2.2.2.2.2.2.2.2.1
theorem dX4_takeNumber_51 : decode cX4_takeNumber 51 = .ok (.aload_n 0, 1) := bdX4_takeNumber_31.2.2.2.2.2.2.2.2.2.2.1
theorem dX4_takeNumber_52 : decode cX4_takeNumber 52 = .ok (.getfield 20, 3) := bdX4_takeNumber_31.2.2.2.2.2.2.2.2.2.2.2.1
theorem dX4_takeNumber_55 : decode cX4_takeNumber 55 = .ok (.iconst 5, 1) := bdX4_takeNumber_31.2.2.2.2.2.2.2.2.2.2.2.2.1
theorem dX4_takeNumber_56 : decode cX4_takeNumber 56 = .ok (.if_icmp .ge 11, 3) := bdX4_takeNumber_31.2.2.2.2.2.2.2.2.2.2.2.2.2.1
theorem dX4_takeNumber_59 : decode cX4_takeNumber 59 = .ok (.aload_n 0, 1) := bdX4_takeNumber_31.2.2.2.2.2.2.2.2.2.2.2.2.2.2.1
theorem dX4_takeNumber_60 : decode cX4_takeNumber 60 = .ok (.getfield 27, 3) := bdX4_takeNumber_31.2.2.2.2.2.2.2.2.2.2.2.2.2.2.2
theorem bdX4_takeNumber_63 : (decode cX4_takeNumber 63 = .ok (.iconst 4, 1)) ∧ (decode cX4_takeNumber 64 = .ok (.if_icmp .lt 5, 3)) ∧ (decode cX4_takeNumber 67 = .ok (.iconst 0, 1)) ∧ (decode cX4_takeNumber 68 = .ok (.ireturn, 1)) ∧ (decode cX4_takeNumber 69 = .ok (.aload_n 0, 1)) ∧ (decode cX4_takeNumber 70 = .ok (.getfield 30, 3)) ∧ (decode cX4_takeNumber 73 = .ok (.istore_n 2, 1)) ∧ (decode cX4_takeNumber 74 = .ok (.iconst 0, 1)) ∧ (decode cX4_takeNumber 75 = .ok (.istore_n 3, 1)) ∧ (decode cX4_takeNumber 76 = .ok (.aload_n 0, 1)) ∧ (decode cX4_takeNumber 77 = .ok (.getfield 30, 3)) ∧ (decode cX4_takeNumber 80 = .ok (.aload_n 0, 1)) ∧ (decode cX4_takeNumber 81 = .ok (.getfield 16, 3)) ∧ (decode cX4_takeNumber 84 = .ok (.getfield 55, 3)) ∧ (decode cX4_takeNumber 87 = .ok (.if_icmp .ge 48, 3)) ∧ (decode cX4_takeNumber 90 = .ok (.aload_n 0, 1)) := by decide +kernel
theorem dX4_takeNumber_63 : decode cX4_takeNumber 63 = .ok (.iconst 4, 1) := bdX4_takeNumber_63.1
theorem dX4_takeNumber_64 : decode cX4_takeNumber 64 = .ok (.if_icmp .lt 5, 3) := bdX4_takeNumber_63.2.1
theorem dX4_takeNumber_67 : decode cX4_takeNumber 67 = .ok (.iconst 0, 1) := bdX4_takeNumber_63.2.2.1
theorem dX4_takeNumber_68 : decode cX4_takeNumber 68 = .ok (.ireturn, 1) := bdX4_takeNumber_63.2.2.2.1
theorem dX4_takeNumber_69 : decode cX4_takeNumber 69 = .ok (.aload_n 0, 1) := bdX4_takeNumber_63.2.2.2.2.1
theorem dX4_takeNumber_70 : decode cX4_takeNumber 70 = .ok (.getfield 30, 3) := bdX4_takeNumber_63.2.2.2.2.2.1
theorem dX4_takeNumber_73 : decode cX4_takeNumber 73 = .ok (.istore_n 2, 1) := bdX4_takeNumber_63.2.2.2.2.2.2.1
theorem dX4_takeNumber_74 : decode cX4_takeNumber 74 = .ok (.iconst 0, 1) := bdX4_takeNumber_63.2.2.2.2.2.2.2.1
theorem dX4_takeNumber_75 : decode cX4_takeNumber 75 = .ok (.istore_n 3, 1) := bdX4_takeNumber_63.2.2.2.2.2.2.2.2.1
theorem dX4_takeNumber_76 : decode cX4_takeNumber 76 = .ok (.aload_n 0, 1) := bdX4_takeNumber_63.2.2.2.2.2.2.2.2.2.1
theorem dX4_takeNumber_77 : decode cX4_takeNumber 77 = .ok (.getfield 30, 3) := bdX4_takeNumber_63.2.2.2.2.2.2.2.2.2.2.1
theorem dX4_takeNumber_80 : decode cX4_takeNumber 80 = .ok (.aload_n 0, 1) := bdX4_takeNumber_63.2.2.2.2.2.2.2.2.2.2.2.1
theorem dX4_takeNumber_81 : decode cX4_takeNumber 81 = .ok (.getfield 16, 3) := bdX4_takeNumber_63.2.2.2.2.2.2.2.2.2.2.2.2.1
theorem dX4_takeNumber_84 : decode cX4_takeNumber 84 = .ok (.getfield 55, 3) := bdX4_takeNumber_63.2.2.2.2.2.2.2.2.2.2.2.2.2.1
theorem dX4_takeNumber_87 : decode cX4_takeNumber 87 = .ok (.if_icmp .ge 48, 3) := bdX4_takeNumber_63.2.2.2.2.2.2.2.2.2.2.2.2.2.2.1
theorem dX4_takeNumber_90 : decode cX4_takeNumber 90 = .ok (.aload_n 0, 1) := bdX4_takeNumber_63.2.2.2.2.2.2.2.2.2.2.2.2.2.2.2
theorem bdX4_takeNumber_91 : (decode cX4_takeNumber 91 = .ok (.invokevirtual 58, 3)) ∧ (decode cX4_takeNumber 94 = .ok (.ifCond .eq 41, 3)) ∧ (decode cX4_takeNumber 97 = .ok (.iload_n 3, 1)) ∧ (decode cX4_takeNumber 98 = .ok (.bipush 10, 2)) ∧ (decode cX4_takeNumber 100 = .ok (.imul, 1)) ∧ (decode cX4_takeNumber 101 = .ok (.aload_n 0, 1)) ∧ (decode cX4_takeNumber 102 = .ok (.getfield 16, 3)) ∧ (decode cX4_takeNumber 105 = .ok (.aload_n 0, 1)) ∧ (decode cX4_takeNumber 106 = .ok (.getfield 30, 3)) ∧ (decode cX4_takeNumber 109 = .ok (.invokevirtual 40, 3)) ∧ (decode cX4_takeNumber 112 = .ok (.iadd, 1)) ∧ (decode cX4_takeNumber 113 = .ok (.bipush 48, 2)) ∧ (decode cX4_takeNumber 115 = .ok (.isub, 1)) ∧ (decode cX4_takeNumber 116 = .ok (.bipush 10, 2)) ∧ (decode cX4_takeNumber 118 = .ok (.invokestatic 61, 3)) ∧ (decode cX4_takeNumber 121 = .ok (.istore_n 3, 1)) := by decide +kernel
theorem dX4_takeNumber_91 : decode cX4_takeNumber 91 = .ok (.invokevirtual 58, 3) := bdX4_takeNumber_91.1
theorem dX4_takeNumber_94 : decode cX4_takeNumber 94 = .ok (.ifCond .eq 41, 3) := bdX4_takeNumber_91.2.1
theorem dX4_takeNumber_97 : decode cX4_takeNumber 97 = .ok (.iload_n 3, 1) := bdX4_takeNumber_91.2.2.1
theorem dX4_takeNumber_98 : decode cX4_takeNumber 98 = .ok (.bipush 10, 2) := bdX4_takeNumber_91.2.2.2.1
theorem dX4_takeNumber_100 : decode cX4_takeNumber 100 = .ok (.imul, 1) := bdX4_takeNumber_91.2.2.2.2.1
theorem dX4_takeNumber_101 : decode cX4_takeNumber 101 = .ok (.aload_n 0, 1) := bdX4_takeNumber_91.2.2.2.2.2.1
theorem dX4_takeNumber_102 : decode cX4_takeNumber 102 = .ok (.getfield 16, 3) := bdX4_takeNumber_91.2.2.2.2.2.2.1
theorem dX4_takeNumber_105 : decode cX4_takeNumber 105 = .ok (.aload_n 0, 1) := bdX4_takeNumber_91.2.2.2.2.2.2.2.1
theorem dX4_takeNumber_106 : decode cX4_takeNumber 106 = .ok (.getfield 30, 3) := bdX4_takeNumber_91.2.2.2.2.2.2.2.2.1
theorem dX4_takeNumber_109 : decode cX4_takeNumber 109 = .ok (.invokevirtual 40, 3) := bdX4_takeNumber_91.2.2.2.2.2.2.2.2.2.1
theorem dX4_takeNumber_112 : decode cX4_takeNumber 112 = .ok (.iadd, 1) := bdX4_takeNumber_91.2.2.2.2.2.2.2.2.2.2.1
theorem dX4_takeNumber_113 : decode cX4_takeNumber 113 = .ok (.bipush 48, 2) := bdX4_takeNumber_91.2.2.2.2.2.2.2.2.2.2.2.1
theorem dX4_takeNumber_115 : decode cX4_takeNumber 115 = .ok (.isub, 1) := bdX4_takeNumber_91.2.2.2.2.2.2.2.2.2.2.2.2.1
theorem dX4_takeNumber_116 : decode cX4_takeNumber 116 = .ok (.bipush 10, 2) := bdX4_takeNumber_91.2.2.2.2.2.2.2.2.2.2.2.2.2.1
theorem dX4_takeNumber_118 : decode cX4_takeNumber 118 = .ok (.invokestatic 61, 3) := bdX4_takeNumber_91.2.2.2.2.2.2.2.2.2.2.2.2.2.2.1
theorem dX4_takeNumber_121 : decode cX4_takeNumber 121 = .ok (.istore_n 3, 1) := bdX4_takeNumber_91.2.2.2.2.2.2.2.2.2.2.2.2.2.2.2
theorem bdX4_takeNumber_122 : (decode cX4_takeNumber 122 = .ok (.aload_n 0, 1)) ∧ (decode cX4_takeNumber 123 = .ok (.dup, 1)) ∧ (decode cX4_takeNumber 124 = .ok (.getfield 30, 3)) ∧ (decode cX4_takeNumber 127 = .ok (.iconst 1, 1)) ∧ (decode cX4_takeNumber 128 = .ok (.iadd, 1)) ∧ (decode cX4_takeNumber 129 = .ok (.putfield 30, 3)) ∧ (decode cX4_takeNumber 132 = .ok (.goto (-56), 3)) ∧ (decode cX4_takeNumber 135 = .ok (.iload_n 3, 1)) ∧ (decode cX4_takeNumber 136 = .ok (.bipush 9, 2)) ∧ (decode cX4_takeNumber 138 = .ok (.if_icmp .le 10, 3)) ∧ (decode cX4_takeNumber 141 = .ok (.aload_n 0, 1)) ∧ (decode cX4_takeNumber 142 = .ok (.iload_n 2, 1)) ∧ (decode cX4_takeNumber 143 = .ok (.putfield 30, 3)) ∧ (decode cX4_takeNumber 146 = .ok (.iconst 0, 1)) ∧ (decode cX4_takeNumber 147 = .ok (.ireturn, 1)) ∧ (decode cX4_takeNumber 148 = .ok (.aload_n 0, 1)) := by decide +kernel
theorem dX4_takeNumber_122 : decode cX4_takeNumber 122 = .ok (.aload_n 0, 1) := bdX4_takeNumber_122.1
theorem dX4_takeNumber_123 : decode cX4_takeNumber 123 = .ok (.dup, 1) := bdX4_takeNumber_122.2.1
theorem dX4_takeNumber_124 : decode cX4_takeNumber 124 = .ok (.getfield 30, 3) := bdX4_takeNumber_122.2.2.1
theorem dX4_takeNumber_127 : decode cX4_takeNumber 127 = .ok (.iconst 1, 1) := bdX4_takeNumber_122.2.2.2.1
theorem dX4_takeNumber_128 : decode cX4_takeNumber 128 = .ok (.iadd, 1) := bdX4_takeNumber_122.2.2.2.2.1
theorem dX4_takeNumber_129 : decode cX4_takeNumber 129 = .ok (.putfield 30, 3) := bdX4_takeNumber_122.2.2.2.2.2.1
theorem dX4_takeNumber_132 : decode cX4_takeNumber 132 = .ok (.goto (-56), 3) := bdX4_takeNumber_122.2.2.2.2.2.2.1
theorem dX4_takeNumber_135 : decode cX4_takeNumber 135 = .ok (.iload_n 3, 1) := bdX4_takeNumber_122.2.2.2.2.2.2.2.1
theorem dX4_takeNumber_136 : decode cX4_takeNumber 136 = .ok (.bipush 9, 2) := bdX4_takeNumber_122.2.2.2.2.2.2.2.2.1
theorem dX4_takeNumber_138 : decode cX4_takeNumber 138 = .ok (.if_icmp .le 10, 3) := bdX4_takeNumber_122.2.2.2.2.2.2.2.2.2.1
theorem dX4_takeNumber_141 : decode cX4_takeNumber 141 = .ok (.aload_n 0, 1) := bdX4_takeNumber_122.2.2.2.2.2.2.2.2.2.2.1
theorem dX4_takeNumber_142 : decode cX4_takeNumber 142 = .ok (.iload_n 2, 1) := bdX4_takeNumber_122.2.2.2.2.2.2.2.2.2.2.2.1
theorem dX4_takeNumber_143 : decode cX4_takeNumber 143 = .ok (.putfield 30, 3) := bdX4_takeNumber_122.2.2.2.2.2.2.2.2.2.2.2.2.1
theorem dX4_takeNumber_146 : decode cX4_takeNumber 146 = .ok (.iconst 0, 1) := bdX4_takeNumber_122.2.2.2.2.2.2.2.2.2.2.2.2.2.1
theorem dX4_takeNumber_147 : decode cX4_takeNumber 147 = .ok (.ireturn, 1) := bdX4_takeNumber_122.2.2.2.2.2.2.2.2.2.2.2.2.2.2.1
theorem dX4_takeNumber_148 : decode cX4_takeNumber 148 = .ok (.aload_n 0, 1) := bdX4_takeNumber_122.2.2.2.2.2.2.2.2.2.2.2.2.2.2.2
theorem bdX4_takeNumber_149 : (decode cX4_takeNumber 149 = .ok (.getfield 11, 3)) ∧ (decode cX4_takeNumber 152 = .ok (.aload_n 0, 1)) ∧ (decode cX4_takeNumber 153 = .ok (.getfield 20, 3)) ∧ (decode cX4_takeNumber 156 = .ok (.aaload, 1)) ∧ (decode cX4_takeNumber 157 = .ok (.aload_n 0, 1)) ∧ (decode cX4_takeNumber 158 = .ok (.getfield 27, 3)) ∧ (decode cX4_takeNumber 161 = .ok (.iload_n 1, 1)) ∧ (decode cX4_takeNumber 162 = .ok (.ifCond .eq 8, 3)) ∧ (decode cX4_takeNumber 165 = .ok (.iload_n 3, 1)) ∧ (decode cX4_takeNumber 166 = .ok (.ineg, 1)) ∧ (decode cX4_takeNumber 167 = .ok (.goto 4, 3)) ∧ (decode cX4_takeNumber 170 = .ok (.iload_n 3, 1)) ∧ (decode cX4_takeNumber 171 = .ok (.iastore, 1)) ∧ (decode cX4_takeNumber 172 = .ok (.aload_n 0, 1)) ∧ (decode cX4_takeNumber 173 = .ok (.dup, 1)) ∧ (decode cX4_takeNumber 174 = .ok (.getfield 27, 3)) := by decide +kernel
theorem dX4_takeNumber_149 : decode cX4_takeNumber 149 = .ok (.getfield 11, 3) := bdX4_takeNumber_149.1
theorem dX4_takeNumber_152 : decode cX4_takeNumber 152 = .ok (.aload_n 0, 1) := bdX4_takeNumber_149.2.1
theorem dX4_takeNumber_153 : decode cX4_takeNumber 153 = .ok (.getfield 20, 3) := bdX4_takeNumber_149.2.2.1
theorem dX4_takeNumber_156 : decode cX4_takeNumber 156 = .ok (.aaload, 1) := bdX4_takeNumber_149.2.2.2.1
theorem dX4_takeNumber_157 : decode cX4_takeNumber 157 = .ok (.aload_n 0, 1) := bdX4_takeNumber_149.2.2.2.2.1
theorem dX4_takeNumber_158 : decode cX4_takeNumber 158 = .ok (.getfield 27, 3) := bdX4_takeNumber_149.2.2.2.2.2.1
theorem dX4_takeNumber_161 : decode cX4_takeNumber 161 = .ok (.iload_n 1, 1) := bdX4_takeNumber_149.2.2.2.2.2.2.1
theorem dX4_takeNumber_162 : decode cX4_takeNumber 162 = .ok (.ifCond .eq 8, 3) := bdX4_takeNumber_149.2.2.2.2.2.2.2.1
theorem dX4_takeNumber_165 : decode cX4_takeNumber 165 = .ok (.iload_n 3, 1) := bdX4_takeNumber_149.2.2.2.2.2.2.2.2.1
theorem dX4_takeNumber_166 : decode cX4_takeNumber 166 = .ok (.ineg, 1) := bdX4_takeNumber_149.2.2.2.2.2.2.2.2.2.1
theorem dX4_takeNumber_167 : decode cX4_takeNumber 167 = .ok (.goto 4, 3) := bdX4_takeNumber_149.2.2.2.2.2.2.2.2.2.2.1
theorem dX4_takeNumber_170 : decode cX4_takeNumber 170 = .ok (.iload_n 3, 1) := bdX4_takeNumber_149.2.2.2.2.2.2.2.2.2.2.2.1
theorem dX4_takeNumber_171 : decode cX4_takeNumber 171 = .ok (.iastore, 1) := bdX4_takeNumber_149.2.2.2.2.2.2.2.2.2.2.2.2.1
theorem dX4_takeNumber_172 : decode cX4_takeNumber 172 = .ok (.aload_n 0, 1) := bdX4_takeNumber_149.2.2.2.2.2.2.2.2.2.2.2.2.2.1
theorem dX4_takeNumber_173 : decode cX4_takeNumber 173 = .ok (.dup, 1) := bdX4_takeNumber_149.2.2.2.2.2.2.2.2.2.2.2.2.2.2.1
theorem dX4_takeNumber_174 : decode cX4_takeNumber 174 = .ok (.getfield 27, 3) := bdX4_takeNumber_149.2.2.2.2.2.2.2.2.2.2.2.2.2.2.2
theorem bdX4_takeNumber_177 : (decode cX4_takeNumber 177 = .ok (.iconst 1, 1)) ∧ (decode cX4_takeNumber 178 = .ok (.iadd, 1)) ∧ (decode cX4_takeNumber 179 = .ok (.putfield 27, 3)) ∧ (decode cX4_takeNumber 182 = .ok (.iconst 1, 1)) ∧ (decode cX4_takeNumber 183 = .ok (.ireturn, 1)) := by decide +kernel
theorem dX4_takeNumber_177 : decode cX4_takeNumber 177 = .ok (.iconst 1, 1) := bdX4_takeNumber_177.1
theorem dX4_takeNumber_178 : decode cX4_takeNumber 178 = .ok (.iadd, 1) := bdX4_takeNumber_177.2.1
theorem dX4_takeNumber_179 : decode cX4_takeNumber 179 = .ok (.putfield 27, 3) := bdX4_takeNumber_177.2.2.1
theorem dX4_takeNumber_182 : decode cX4_takeNumber 182 = .ok (.iconst 1, 1) := bdX4_takeNumber_177.2.2.2.1
theorem dX4_takeNumber_183 : decode cX4_takeNumber 183 = .ok (.ireturn, 1) := bdX4_takeNumber_177.2.2.2.2
set_option maxHeartbeats 4000000 in
set_option maxRecDepth 100000 in
theorem k_X4_takeNumber (l : Launch) (dC : Nat → ClassId) (dI : Nat → Nat → Nat) (h : Nat → Nat) (cs : Nat → ClassId) (sz : Nat) (I : Nat → Int32) (L : Nat → Int64) (A : Nat → Nat → Int32) (Q : Nat → Nat → Int64) (G : Nat → Nat → Nat → Int32) (J : Nat → Nat → Nat → Int64) (T p9 h6 r6 : Nat) (hT : I 151 = nI T) (hT9 : T ≤ 90) (hp : I 169 = nI p9) (hpT : p9 ≤ T) (hh : I 166 = nI h6) (hh4 : h6 ≤ 4) (hi6 : I 168 = nI r6) (hi4 : r6 ≤ 4) : Met l yX4_takeNumber wsX4_takeNumber ({ frames := 2, cells := 0, slots := 0, locals := 60 }) (va_Pc [.ref (h 104)] (xPre (dC, dI) (wRead h cs I L A Q G J) (tysA cs) sz)) (va_Qi (fun (r : Int32) (u : CS) => ∃ i169 : Int32, ∃ i168 : Int32, ∃ g1 : Nat → Nat → Int32, (∃ q : Nat, p9 ≤ q ∧ q ≤ T ∧ i169 = nI q ∧ ((r = nI 1 ∧ r6 < 4 ∧ i168 = nI (r6 + 1)) ∨ (r = nI 0 ∧ i168 = I 168))) ∧ u = ((va_up (va_up I 169 i169) 168 i168), L, A, Q, (va_up G 1 g1), J)) (xB (dC, dI) (tysA cs) (va_A (wRead h cs I L A Q G J) sz) (fun u : CS => wRead h cs u.1 u.2.1 u.2.2.1 u.2.2.2.1 u.2.2.2.2.1 u.2.2.2.2.2)) (va_A (wRead h cs I L A Q G J) sz)) 0 0 (va_A (wRead h cs I L A Q G J) sz) := by
  refine Met.ofW (cc := cX4_takeNumber) (maxL := 4) (ret := (some .boolean)) (by decide) rfl ?_
  intro p e s m args below meth c s₁ B hml hv
  obtain ⟨rfl, hsz, hP, hK, hD0, hN⟩ := hv
  have hx := B.exec
  have hb := B.bytes
  have hr := B.returns
  have hts := atoms_spec (ws := wsX4_takeNumber) B.pre
  have hown : s.vm.findClass RX4 = some m.cls := findClass_of_methodNamed B.named
  have hlocks := B.notSynchronized
  subst hsz
  have hD := hD0.self (sz := s.heap.size)
  generalize hAe : va_A (wRead h cs I L A Q G J) s.heap.size = A0 at hD ⊢
  have hA : ∀ q : Nat, s.heap.size ≤ q → A0 q := fun q h => by rw [← hAe]; exact Or.inr h
  have hl := lv_entry ([.ref (h 104)]) (n := 4) (Nat.le_of_ble_eq_true rfl)
  rw [lg_entry_eq]
  generalize (lg_sl ([.ref (h 104)]) ++ List.replicate (4 - (lg_sl ([.ref (h 104)])).length) Slot.unset).toArray = ls at hl ⊢
  have hl : lv_has ls 4 [(0, .ref (h 104))] := hl
  generalize hH : s.heap = H at hP ⊢
  have hS : va_S A0 s.heap H [] := by rw [← hH]; exact va_S.rf
  have hinX4 : ∀ w ∈ wsX40, w ∈ wsX4_takeNumber := by decide +kernel
  have hinX7 : ∀ w ∈ wsX70, w ∈ wsX4_takeNumber := by decide +kernel
  refine lv_aload_n hx hb dX4_takeNumber_0 rfl (lv_at hl 0 rfl) ?_
  refine xj_v (wc := (wRead h cs I L A Q G J)) (wr := ([] : va_W)) hP hD hS hA [0, 1, 2, 3, 4, 5, 6, 7, 8] [] rfl rfl (by decide) (by decide) (va_runV (As := []) (rest := []) ⟨hx, hb, hml, hown, hts⟩ (k_X4_skipBlanks l dC dI h cs H.size I L A Q G J T p9 hT (by first | assumption | omega | exact hT9) hp (by first | assumption | omega | exact hpT)) (cwV 0 hts gX4_takeNumber_X4_skipBlanks rfl rfl rfl (by decide +kernel) ⟨Nat.le_of_ble_eq_true rfl, Nat.le_of_ble_eq_true rfl⟩) (xpV (wc := (wRead h cs I L A Q G J)) hP hD hK hN [0, 1, 2, 3, 4, 5, 6, 7, 8] rfl (by decide) 0 (ci := 4) rfl rfl _) rfl rfl hl.1 rfl (lv_room (Nat.le_of_ble_eq_true rfl)) dX4_takeNumber_1 ⟨Nat.zero_le _, Nat.zero_le _⟩) (fun u_1 H locs hw hP hD hS => ?_)
  obtain ⟨i169_3, hf_4, rfl⟩ := hw
  have hP : va_P (dC, dI) vwCl (wRead h cs (va_up I 169 i169_3) L A Q G J) H := hP
  have hD : va_D A0 (wRead h cs (va_up I 169 i169_3) L A Q G J) := hD
  obtain ⟨q_5, hq_6, hq_7, rfl⟩ := hf_4
  refine lv_aload_n hx hb dX4_takeNumber_4 rfl (lv_at hl 0 rfl) ?_
  refine va_get (D := (dC, dI)) (ci := 4) (v := .ref (h 103)) (C := RX4) (T := TX4) (N := 6) hx hb hts hinX4 hown hK hP 0 rfl rfl 0 (by decide) (hts (.fieldLink RX4 16 "MixedWords$Reader" "tape" "LMixedWords$Tape;") (by decide +kernel)) (fun _ h9 => h9) rfl dX4_takeNumber_5 ?_
  refine lv_aload_n hx hb dX4_takeNumber_8 rfl (lv_at hl 0 rfl) ?_
  refine va_get (D := (dC, dI)) (ci := 4) (v := .int (nI q_5)) (C := RX4) (T := TX4) (N := 6) hx hb hts hinX4 hown hK hP 0 rfl rfl 5 (by decide) (hts (.fieldLink RX4 30 "MixedWords$Reader" "place" "I") (by decide +kernel)) (fun _ h9 => h9) rfl dX4_takeNumber_9 ?_
  refine xj_i (wc := (wTape h cs (va_up I 169 (nI q_5)) L A Q G J)) (wr := [(h 104, .inr (4, [.ref (h 103), .ref (h 160), .int (I 166), .int (I 167), .int (I 168), .int (nI q_5)])), (h 160, .inl (cs 3, 5, .inr (.inr (.inr (.inr (fun i => if i < 5 then some (h (i + 161)) else none)))))), (h 161, .inl (cs 0, 4, .inl ((G 1) 0))), (h 162, .inl (cs 0, 4, .inl ((G 1) 1))), (h 163, .inl (cs 0, 4, .inl ((G 1) 2))), (h 164, .inl (cs 0, 4, .inl ((G 1) 3))), (h 165, .inl (cs 0, 4, .inl ((G 1) 4)))]) hP hD hS hA [7, 8] [0, 1, 2, 3, 4, 5, 6] rfl rfl (by decide) (by decide) (va_runV (As := [.int (nI q_5)]) (rest := []) ⟨hx, hb, hml, hown, hts⟩ (k_X7_at l dC dI h cs H.size (va_up I 169 (nI q_5)) L A Q G J (nI q_5) T hT (by first | assumption | omega | exact hT9)) (cwV 1 hts gX4_takeNumber_X7_at rfl rfl rfl (by decide +kernel) ⟨Nat.le_of_ble_eq_true rfl, Nat.le_of_ble_eq_true rfl⟩) (xpV (wc := (wTape h cs (va_up I 169 (nI q_5)) L A Q G J)) hP hD hK hN [7, 8] rfl (by decide) 7 (ci := 7) rfl rfl _) rfl rfl hl.1 rfl (lv_room (Nat.le_of_ble_eq_true rfl)) dX4_takeNumber_12 ⟨Nat.zero_le _, Nat.zero_le _⟩) (fun r_9 u_8 H locs hw hP hD hS => ?_)
  obtain ⟨hf_10, rfl⟩ := hw
  have hP : va_P (dC, dI) vwCl (wRead h cs (va_up I 169 (nI q_5)) L A Q G J) H := hP
  have hD : va_D A0 (wRead h cs (va_up I 169 (nI q_5)) L A Q G J) := hD
  refine lv_bipush (v := nI 45) hx hb dX4_takeNumber_15 (by decide) ?_
  refine lv_icmp_ne (tgt := 24) hx hb dX4_takeNumber_17 (by decide) (fun c_17_10 => ?_) (fun c_17_10 => ?_)
  · skip
    refine lv_iconst (v := nI 0) hx hb dX4_takeNumber_24 (by decide) ?_
    refine lv_istore_n (lv' := [(1, .int (nI 0)), (0, .ref (h 104))]) hx hb dX4_takeNumber_25 rfl hl (by decide) rfl (fun ls hl => ?_)
    refine lv_iload_n hx hb dX4_takeNumber_26 rfl (lv_at hl 0 rfl) ?_
    refine lv_if_eq (tgt := 44) hx hb dX4_takeNumber_27 (by decide) (fun _ => ?_) (fun c9 => False.elim (by revert c9; decide +kernel))
    have cut_44 : ∀ (b1 : Nat) (q : Nat), (b1 ≤ 1) → (p9 ≤ q) → (q ≤ T) → ∀ (H : Heap) (locs : List Loc) (ls : Array Slot), va_P (dC, dI) vwCl (wRead h cs (va_up I 169 (nI q)) L A Q G J) H → va_D A0 (wRead h cs (va_up I 169 (nI q)) L A Q G J) → va_S A0 s.heap H locs → lv_has ls 4 [(0, .ref (h 104)), (1, .int (nI b1))] → W p l e (headSpec wsX4_takeNumber ({ frames := 2, cells := 0, slots := 0, locals := 60 })).room s m ([.ref (h 104)] : List Value).toArray below meth c H locs 0 0 (MQ below (va_Qi (fun (r : Int32) (u : CS) => ∃ i169 : Int32, ∃ i168 : Int32, ∃ g1 : Nat → Nat → Int32, (∃ q : Nat, p9 ≤ q ∧ q ≤ T ∧ i169 = nI q ∧ ((r = nI 1 ∧ r6 < 4 ∧ i168 = nI (r6 + 1)) ∨ (r = nI 0 ∧ i168 = I 168))) ∧ u = ((va_up (va_up I 169 i169) 168 i168), L, A, Q, (va_up G 1 g1), J)) (xB (dC, dI) (tysA cs) A0 (fun u : CS => wRead h cs u.1 u.2.1 u.2.2.1 u.2.2.2.1 u.2.2.2.2.1 u.2.2.2.2.2)) A0) ([.ref (h 104)] : List Value).toArray s 0 0 A0) (F0 m 44 ls []) := by
      intro b1 q hb44 hq44 hqT44 H locs ls hP hD hS hl
      refine lv_aload_n hx hb dX4_takeNumber_44 rfl (lv_at hl 0 rfl) ?_
      refine xj_i (wc := (wRead h cs (va_up I 169 (nI q)) L A Q G J)) (wr := ([] : va_W)) hP hD hS hA [0, 1, 2, 3, 4, 5, 6, 7, 8] [] rfl rfl (by decide) (by decide) (va_runV (As := []) (rest := []) ⟨hx, hb, hml, hown, hts⟩ (k_X4_isDigit l dC dI h cs H.size (va_up I 169 (nI q)) L A Q G J T q hT (by first | assumption | omega | exact hT9) rfl (by first | assumption | omega | exact hpT)) (cwV 0 hts gX4_takeNumber_X4_isDigit rfl rfl rfl (by decide +kernel) ⟨Nat.le_of_ble_eq_true rfl, Nat.le_of_ble_eq_true rfl⟩) (xpV (wc := (wRead h cs (va_up I 169 (nI q)) L A Q G J)) hP hD hK hN [0, 1, 2, 3, 4, 5, 6, 7, 8] rfl (by decide) 0 (ci := 4) rfl rfl _) rfl rfl hl.1 rfl (lv_room (Nat.le_of_ble_eq_true rfl)) dX4_takeNumber_45 ⟨Nat.zero_le _, Nat.zero_le _⟩) (fun r_13 u_12 H locs hw hP hD hS => ?_)
      obtain ⟨hf_14, rfl⟩ := hw
      have hP : va_P (dC, dI) vwCl (wRead h cs (va_up I 169 (nI q)) L A Q G J) H := hP
      have hD : va_D A0 (wRead h cs (va_up I 169 (nI q)) L A Q G J) := hD
      rcases hf_14 with rfl | rfl
      · skip
        refine lv_if_eq (tgt := 67) hx hb dX4_takeNumber_48 (by decide) (fun _ => ?_) (fun c9 => False.elim (by revert c9; decide +kernel))
        refine lv_iconst (v := nI 0) hx hb dX4_takeNumber_67 (by decide) ?_
        exact xr_z (v := (nI 0)) hx hb hr hlocks hK hS dX4_takeNumber_68 (rfl) ((va_up (va_up I 169 (nI q)) 168 (I 168)), L, A, Q, (va_up G 1 (G 1)), J) ⟨(nI q), (I 168), (G 1), ⟨q, by omega, by omega, rfl, Or.inr ⟨rfl, rfl⟩⟩, rfl⟩ hP hD
      · skip
        refine lv_if_eq (tgt := 67) hx hb dX4_takeNumber_48 (by decide) (fun c9 => False.elim (by revert c9; decide +kernel)) (fun _ => ?_)
        refine lv_aload_n hx hb dX4_takeNumber_51 rfl (lv_at hl 0 rfl) ?_
        refine va_get (D := (dC, dI)) (ci := 4) (v := .int (I 166)) (C := RX4) (T := TX4) (N := 6) hx hb hts hinX4 hown hK hP 0 rfl rfl 2 (by decide) (hts (.fieldLink RX4 20 "MixedWords$Reader" "height" "I") (by decide +kernel)) (fun _ h9 => h9) rfl dX4_takeNumber_52 ?_
        refine xt_i (y := nI h6) (hh) ?_
        refine lv_iconst (v := nI 5) hx hb dX4_takeNumber_55 (by decide) ?_
        refine xn_ge (tgt := 67) hx hb dX4_takeNumber_56 (by decide) (by omega) (by omega) (fun c_56_14 => ?_) (fun c_56_14 => ?_)
        · skip
          refine lv_iconst (v := nI 0) hx hb dX4_takeNumber_67 (by decide) ?_
          exact xr_z (v := (nI 0)) hx hb hr hlocks hK hS dX4_takeNumber_68 (rfl) ((va_up (va_up I 169 (nI q)) 168 (I 168)), L, A, Q, (va_up G 1 (G 1)), J) ⟨(nI q), (I 168), (G 1), ⟨q, by omega, by omega, rfl, Or.inr ⟨rfl, rfl⟩⟩, rfl⟩ hP hD
        · skip
          refine lv_aload_n hx hb dX4_takeNumber_59 rfl (lv_at hl 0 rfl) ?_
          refine va_get (D := (dC, dI)) (ci := 4) (v := .int (I 168)) (C := RX4) (T := TX4) (N := 6) hx hb hts hinX4 hown hK hP 0 rfl rfl 4 (by decide) (hts (.fieldLink RX4 27 "MixedWords$Reader" "inRow" "I") (by decide +kernel)) (fun _ h9 => h9) rfl dX4_takeNumber_60 ?_
          refine xt_i (y := nI r6) (hi6) ?_
          refine lv_iconst (v := nI 4) hx hb dX4_takeNumber_63 (by decide) ?_
          refine xn_lt (tgt := 69) hx hb dX4_takeNumber_64 (by decide) (by omega) (by omega) (fun c_64_15 => ?_) (fun c_64_15 => ?_)
          · skip
            refine lv_aload_n hx hb dX4_takeNumber_69 rfl (lv_at hl 0 rfl) ?_
            refine va_get (D := (dC, dI)) (ci := 4) (v := .int (nI q)) (C := RX4) (T := TX4) (N := 6) hx hb hts hinX4 hown hK hP 0 rfl rfl 5 (by decide) (hts (.fieldLink RX4 30 "MixedWords$Reader" "place" "I") (by decide +kernel)) (fun _ h9 => h9) rfl dX4_takeNumber_70 ?_
            refine lv_istore_n (lv' := [(2, .int (nI q)), (0, .ref (h 104)), (1, .int (nI b1))]) hx hb dX4_takeNumber_73 rfl hl (by decide) rfl (fun ls hl => ?_)
            refine lv_iconst (v := nI 0) hx hb dX4_takeNumber_74 (by decide) ?_
            refine lv_istore_n (lv' := [(3, .int (nI 0)), (2, .int (nI q)), (0, .ref (h 104)), (1, .int (nI b1))]) hx hb dX4_takeNumber_75 rfl hl (by decide) rfl (fun ls hl => ?_)
            have cut_76 : ∀ (nf : Nat) (q2 : Nat) (z3 : Int32), (T - q2) < nf → (q ≤ q2) → (q2 ≤ T) → ∀ (H : Heap) (locs : List Loc) (ls : Array Slot), va_P (dC, dI) vwCl (wRead h cs (va_up I 169 (nI q2)) L A Q G J) H → va_D A0 (wRead h cs (va_up I 169 (nI q2)) L A Q G J) → va_S A0 s.heap H locs → lv_has ls 4 [(0, .ref (h 104)), (1, .int (nI b1)), (2, .int (nI q)), (3, .int z3)] → W p l e (headSpec wsX4_takeNumber ({ frames := 2, cells := 0, slots := 0, locals := 60 })).room s m ([.ref (h 104)] : List Value).toArray below meth c H locs 0 0 (MQ below (va_Qi (fun (r : Int32) (u : CS) => ∃ i169 : Int32, ∃ i168 : Int32, ∃ g1 : Nat → Nat → Int32, (∃ q : Nat, p9 ≤ q ∧ q ≤ T ∧ i169 = nI q ∧ ((r = nI 1 ∧ r6 < 4 ∧ i168 = nI (r6 + 1)) ∨ (r = nI 0 ∧ i168 = I 168))) ∧ u = ((va_up (va_up I 169 i169) 168 i168), L, A, Q, (va_up G 1 g1), J)) (xB (dC, dI) (tysA cs) A0 (fun u : CS => wRead h cs u.1 u.2.1 u.2.2.1 u.2.2.2.1 u.2.2.2.2.1 u.2.2.2.2.2)) A0) ([.ref (h 104)] : List Value).toArray s 0 0 A0) (F0 m 76 ls []) := by
              intro nf
              induction nf with
              | zero => intro q2 z3 hm; exact absurd hm (Nat.not_lt_zero _)
              | succ nf ih_76 =>
                intro q2 z3 hm_76 hq76 hqT76 H locs ls hP hD hS hl
                refine lv_aload_n hx hb dX4_takeNumber_76 rfl (lv_at hl 0 rfl) ?_
                refine va_get (D := (dC, dI)) (ci := 4) (v := .int (nI q2)) (C := RX4) (T := TX4) (N := 6) hx hb hts hinX4 hown hK hP 0 rfl rfl 5 (by decide) (hts (.fieldLink RX4 30 "MixedWords$Reader" "place" "I") (by decide +kernel)) (fun _ h9 => h9) rfl dX4_takeNumber_77 ?_
                refine lv_aload_n hx hb dX4_takeNumber_80 rfl (lv_at hl 0 rfl) ?_
                refine va_get (D := (dC, dI)) (ci := 4) (v := .ref (h 103)) (C := RX4) (T := TX4) (N := 6) hx hb hts hinX4 hown hK hP 0 rfl rfl 0 (by decide) (hts (.fieldLink RX4 16 "MixedWords$Reader" "tape" "LMixedWords$Tape;") (by decide +kernel)) (fun _ h9 => h9) rfl dX4_takeNumber_81 ?_
                refine va_get (D := (dC, dI)) (ci := 7) (v := .int (I 151)) (C := RX7) (T := TX7) (N := 2) hx hb hts hinX7 hown hK hP 7 rfl rfl 1 (by decide) (hts (.fieldLink RX4 55 "MixedWords$Tape" "length" "I") (by decide +kernel)) (fun _ h9 => h9) rfl dX4_takeNumber_84 ?_
                refine xt_i (y := nI T) (hT) ?_
                refine xn_ge (tgt := 135) hx hb dX4_takeNumber_87 (by decide) (by omega) (by omega) (fun c_87_16 => ?_) (fun c_87_16 => ?_)
                · skip
                  refine lv_iload_n hx hb dX4_takeNumber_135 rfl (lv_at hl 3 rfl) ?_
                  refine lv_bipush (v := nI 9) hx hb dX4_takeNumber_136 (by decide) ?_
                  refine lv_icmp_le (tgt := 148) hx hb dX4_takeNumber_138 (by decide) (fun c_138_17 => ?_) (fun c_138_17 => ?_)
                  · skip
                    refine lv_aload_n hx hb dX4_takeNumber_148 rfl (lv_at hl 0 rfl) ?_
                    refine va_get (D := (dC, dI)) (ci := 4) (v := .ref (h 160)) (C := RX4) (T := TX4) (N := 6) hx hb hts hinX4 hown hK hP 0 rfl rfl 1 (by decide) (hts (.fieldLink RX4 11 "MixedWords$Reader" "cells" "[[I") (by decide +kernel)) (fun _ h9 => h9) rfl dX4_takeNumber_149 ?_
                    refine lv_aload_n hx hb dX4_takeNumber_152 rfl (lv_at hl 0 rfl) ?_
                    refine va_get (D := (dC, dI)) (ci := 4) (v := .int (I 166)) (C := RX4) (T := TX4) (N := 6) hx hb hts hinX4 hown hK hP 0 rfl rfl 2 (by decide) (hts (.fieldLink RX4 20 "MixedWords$Reader" "height" "I") (by decide +kernel)) (fun _ h9 => h9) rfl dX4_takeNumber_153 ?_
                    refine xt_i (y := nI h6) (hh) ?_
                    refine xa_aald (b := h (h6 + 161)) hx hb hK hP 1 3 rfl rfl rfl (by omega) (by decide) (if_pos (by omega)) dX4_takeNumber_156 ?_
                    refine lv_aload_n hx hb dX4_takeNumber_157 rfl (lv_at hl 0 rfl) ?_
                    refine va_get (D := (dC, dI)) (ci := 4) (v := .int (I 168)) (C := RX4) (T := TX4) (N := 6) hx hb hts hinX4 hown hK hP 0 rfl rfl 4 (by decide) (hts (.fieldLink RX4 27 "MixedWords$Reader" "inRow" "I") (by decide +kernel)) (fun _ h9 => h9) rfl dX4_takeNumber_158 ?_
                    refine xt_i (y := nI r6) (hi6) ?_
                    refine lv_iload_n hx hb dX4_takeNumber_161 rfl (lv_at hl 1 rfl) ?_
                    refine xz_eq (tgt := 170) hx hb dX4_takeNumber_162 (by decide) (by omega) (fun c_162_18 => ?_) (fun c_162_18 => ?_)
                    · skip
                      refine lv_iload_n hx hb dX4_takeNumber_170 rfl (lv_at hl 3 rfl) ?_
                      refine xa_iast hx hb hK hP hD hS (2 + h6) 0 (wRead_atG1 (by omega)) rfl (by omega) (by decide) dX4_takeNumber_171 (fun H locs hP hD hS => ?_)
                      rw [wRead_setG1 (by omega)] at hP hD
                      have hP : va_P (dC, dI) vwCl (wRead h cs (va_up I 169 (nI q2)) L A Q (va_up G 1 (va_up (G 1) h6 (upd ((G 1) h6) r6 z3))) J) H := hP
                      have hD : va_D A0 (wRead h cs (va_up I 169 (nI q2)) L A Q (va_up G 1 (va_up (G 1) h6 (upd ((G 1) h6) r6 z3))) J) := hD
                      refine lv_aload_n hx hb dX4_takeNumber_172 rfl (lv_at hl 0 rfl) ?_
                      refine lv_dup hx hb dX4_takeNumber_173 rfl ?_
                      refine va_get (D := (dC, dI)) (ci := 4) (v := .int (I 168)) (C := RX4) (T := TX4) (N := 6) hx hb hts hinX4 hown hK hP 0 rfl rfl 4 (by decide) (hts (.fieldLink RX4 27 "MixedWords$Reader" "inRow" "I") (by decide +kernel)) (fun _ h9 => h9) rfl dX4_takeNumber_174 ?_
                      refine xt_i (y := nI r6) (hi6) ?_
                      refine lv_iconst (v := nI 1) hx hb dX4_takeNumber_177 (by decide) ?_
                      refine lv_iadd hx hb dX4_takeNumber_178 ?_
                      refine xt_i (y := nI (r6 + 1)) (nI_add _ _) ?_
                      refine va_put (D := (dC, dI)) (ci := 4) (v := .int (nI (r6 + 1))) (ty := .int) (C := RX4) (T := TX4) (N := 6) hx hb hts hinX4 tyX4 tyX4_ok nmX4 hown hK hP hD hS 0 rfl rfl 4 (by decide) (hts (.fieldLink RX4 27 "MixedWords$Reader" "inRow" "I") (by decide +kernel)) (fun _ h9 => h9) rfl (by decide +kernel) rfl rfl (Nat.le_of_ble_eq_true rfl) dX4_takeNumber_179 (fun H locs hP hD hS => ?_)
                      have hP : va_P (dC, dI) vwCl (wRead h cs (va_up (va_up I 169 (nI q2)) 168 (nI (r6 + 1))) L A Q (va_up G 1 (va_up (G 1) h6 (upd ((G 1) h6) r6 z3))) J) H := hP
                      have hD : va_D A0 (wRead h cs (va_up (va_up I 169 (nI q2)) 168 (nI (r6 + 1))) L A Q (va_up G 1 (va_up (G 1) h6 (upd ((G 1) h6) r6 z3))) J) := hD
                      refine lv_iconst (v := nI 1) hx hb dX4_takeNumber_182 (by decide) ?_
                      exact xr_z (v := (nI 1)) hx hb hr hlocks hK hS dX4_takeNumber_183 (rfl) ((va_up (va_up I 169 (nI q2)) 168 (nI (r6 + 1))), L, A, Q, (va_up G 1 (va_up (G 1) h6 (upd ((G 1) h6) r6 z3))), J) ⟨(nI q2), (nI (r6 + 1)), (va_up (G 1) h6 (upd ((G 1) h6) r6 z3)), ⟨q2, by omega, by omega, rfl, Or.inl ⟨rfl, by omega, rfl⟩⟩, rfl⟩ hP hD
                    · skip
                      refine lv_iload_n hx hb dX4_takeNumber_165 rfl (lv_at hl 3 rfl) ?_
                      refine lv_ineg hx hb dX4_takeNumber_166 ?_
                      refine lv_goto (tgt := 171) hx hb dX4_takeNumber_167 (by decide) ?_
                      refine xa_iast hx hb hK hP hD hS (2 + h6) 0 (wRead_atG1 (by omega)) rfl (by omega) (by decide) dX4_takeNumber_171 (fun H locs hP hD hS => ?_)
                      rw [wRead_setG1 (by omega)] at hP hD
                      have hP : va_P (dC, dI) vwCl (wRead h cs (va_up I 169 (nI q2)) L A Q (va_up G 1 (va_up (G 1) h6 (upd ((G 1) h6) r6 (-z3)))) J) H := hP
                      have hD : va_D A0 (wRead h cs (va_up I 169 (nI q2)) L A Q (va_up G 1 (va_up (G 1) h6 (upd ((G 1) h6) r6 (-z3)))) J) := hD
                      refine lv_aload_n hx hb dX4_takeNumber_172 rfl (lv_at hl 0 rfl) ?_
                      refine lv_dup hx hb dX4_takeNumber_173 rfl ?_
                      refine va_get (D := (dC, dI)) (ci := 4) (v := .int (I 168)) (C := RX4) (T := TX4) (N := 6) hx hb hts hinX4 hown hK hP 0 rfl rfl 4 (by decide) (hts (.fieldLink RX4 27 "MixedWords$Reader" "inRow" "I") (by decide +kernel)) (fun _ h9 => h9) rfl dX4_takeNumber_174 ?_
                      refine xt_i (y := nI r6) (hi6) ?_
                      refine lv_iconst (v := nI 1) hx hb dX4_takeNumber_177 (by decide) ?_
                      refine lv_iadd hx hb dX4_takeNumber_178 ?_
                      refine xt_i (y := nI (r6 + 1)) (nI_add _ _) ?_
                      refine va_put (D := (dC, dI)) (ci := 4) (v := .int (nI (r6 + 1))) (ty := .int) (C := RX4) (T := TX4) (N := 6) hx hb hts hinX4 tyX4 tyX4_ok nmX4 hown hK hP hD hS 0 rfl rfl 4 (by decide) (hts (.fieldLink RX4 27 "MixedWords$Reader" "inRow" "I") (by decide +kernel)) (fun _ h9 => h9) rfl (by decide +kernel) rfl rfl (Nat.le_of_ble_eq_true rfl) dX4_takeNumber_179 (fun H locs hP hD hS => ?_)
                      have hP : va_P (dC, dI) vwCl (wRead h cs (va_up (va_up I 169 (nI q2)) 168 (nI (r6 + 1))) L A Q (va_up G 1 (va_up (G 1) h6 (upd ((G 1) h6) r6 (-z3)))) J) H := hP
                      have hD : va_D A0 (wRead h cs (va_up (va_up I 169 (nI q2)) 168 (nI (r6 + 1))) L A Q (va_up G 1 (va_up (G 1) h6 (upd ((G 1) h6) r6 (-z3)))) J) := hD
                      refine lv_iconst (v := nI 1) hx hb dX4_takeNumber_182 (by decide) ?_
                      exact xr_z (v := (nI 1)) hx hb hr hlocks hK hS dX4_takeNumber_183 (rfl) ((va_up (va_up I 169 (nI q2)) 168 (nI (r6 + 1))), L, A, Q, (va_up G 1 (va_up (G 1) h6 (upd ((G 1) h6) r6 (-z3)))), J) ⟨(nI q2), (nI (r6 + 1)), (va_up (G 1) h6 (upd ((G 1) h6) r6 (-z3))), ⟨q2, by omega, by omega, rfl, Or.inl ⟨rfl, by omega, rfl⟩⟩, rfl⟩ hP hD
                  · skip
                    refine lv_aload_n hx hb dX4_takeNumber_141 rfl (lv_at hl 0 rfl) ?_
                    refine lv_iload_n hx hb dX4_takeNumber_142 rfl (lv_at hl 2 rfl) ?_
                    refine va_put (D := (dC, dI)) (ci := 4) (v := .int (nI q)) (ty := .int) (C := RX4) (T := TX4) (N := 6) hx hb hts hinX4 tyX4 tyX4_ok nmX4 hown hK hP hD hS 0 rfl rfl 5 (by decide) (hts (.fieldLink RX4 30 "MixedWords$Reader" "place" "I") (by decide +kernel)) (fun _ h9 => h9) rfl (by decide +kernel) rfl rfl (Nat.le_of_ble_eq_true rfl) dX4_takeNumber_143 (fun H locs hP hD hS => ?_)
                    have hP : va_P (dC, dI) vwCl (wRead h cs (va_up I 169 (nI q)) L A Q G J) H := hP
                    have hD : va_D A0 (wRead h cs (va_up I 169 (nI q)) L A Q G J) := hD
                    refine lv_iconst (v := nI 0) hx hb dX4_takeNumber_146 (by decide) ?_
                    exact xr_z (v := (nI 0)) hx hb hr hlocks hK hS dX4_takeNumber_147 (rfl) ((va_up (va_up I 169 (nI q)) 168 (I 168)), L, A, Q, (va_up G 1 (G 1)), J) ⟨(nI q), (I 168), (G 1), ⟨q, by omega, by omega, rfl, Or.inr ⟨rfl, rfl⟩⟩, rfl⟩ hP hD
                · skip
                  refine lv_aload_n hx hb dX4_takeNumber_90 rfl (lv_at hl 0 rfl) ?_
                  refine xj_i (wc := (wRead h cs (va_up I 169 (nI q2)) L A Q G J)) (wr := ([] : va_W)) hP hD hS hA [0, 1, 2, 3, 4, 5, 6, 7, 8] [] rfl rfl (by decide) (by decide) (va_runV (As := []) (rest := []) ⟨hx, hb, hml, hown, hts⟩ (k_X4_isDigit l dC dI h cs H.size (va_up I 169 (nI q2)) L A Q G J T q2 hT (by first | assumption | omega | exact hT9) rfl (by first | assumption | omega | exact hpT)) (cwV 0 hts gX4_takeNumber_X4_isDigit rfl rfl rfl (by decide +kernel) ⟨Nat.le_of_ble_eq_true rfl, Nat.le_of_ble_eq_true rfl⟩) (xpV (wc := (wRead h cs (va_up I 169 (nI q2)) L A Q G J)) hP hD hK hN [0, 1, 2, 3, 4, 5, 6, 7, 8] rfl (by decide) 0 (ci := 4) rfl rfl _) rfl rfl hl.1 rfl (lv_room (Nat.le_of_ble_eq_true rfl)) dX4_takeNumber_91 ⟨Nat.zero_le _, Nat.zero_le _⟩) (fun r_21 u_20 H locs hw hP hD hS => ?_)
                  obtain ⟨hf_22, rfl⟩ := hw
                  have hP : va_P (dC, dI) vwCl (wRead h cs (va_up I 169 (nI q2)) L A Q G J) H := hP
                  have hD : va_D A0 (wRead h cs (va_up I 169 (nI q2)) L A Q G J) := hD
                  rcases hf_22 with rfl | rfl
                  · skip
                    refine lv_if_eq (tgt := 135) hx hb dX4_takeNumber_94 (by decide) (fun _ => ?_) (fun c9 => False.elim (by revert c9; decide +kernel))
                    refine lv_iload_n hx hb dX4_takeNumber_135 rfl (lv_at hl 3 rfl) ?_
                    refine lv_bipush (v := nI 9) hx hb dX4_takeNumber_136 (by decide) ?_
                    refine lv_icmp_le (tgt := 148) hx hb dX4_takeNumber_138 (by decide) (fun c_138_22 => ?_) (fun c_138_22 => ?_)
                    · skip
                      refine lv_aload_n hx hb dX4_takeNumber_148 rfl (lv_at hl 0 rfl) ?_
                      refine va_get (D := (dC, dI)) (ci := 4) (v := .ref (h 160)) (C := RX4) (T := TX4) (N := 6) hx hb hts hinX4 hown hK hP 0 rfl rfl 1 (by decide) (hts (.fieldLink RX4 11 "MixedWords$Reader" "cells" "[[I") (by decide +kernel)) (fun _ h9 => h9) rfl dX4_takeNumber_149 ?_
                      refine lv_aload_n hx hb dX4_takeNumber_152 rfl (lv_at hl 0 rfl) ?_
                      refine va_get (D := (dC, dI)) (ci := 4) (v := .int (I 166)) (C := RX4) (T := TX4) (N := 6) hx hb hts hinX4 hown hK hP 0 rfl rfl 2 (by decide) (hts (.fieldLink RX4 20 "MixedWords$Reader" "height" "I") (by decide +kernel)) (fun _ h9 => h9) rfl dX4_takeNumber_153 ?_
                      refine xt_i (y := nI h6) (hh) ?_
                      refine xa_aald (b := h (h6 + 161)) hx hb hK hP 1 3 rfl rfl rfl (by omega) (by decide) (if_pos (by omega)) dX4_takeNumber_156 ?_
                      refine lv_aload_n hx hb dX4_takeNumber_157 rfl (lv_at hl 0 rfl) ?_
                      refine va_get (D := (dC, dI)) (ci := 4) (v := .int (I 168)) (C := RX4) (T := TX4) (N := 6) hx hb hts hinX4 hown hK hP 0 rfl rfl 4 (by decide) (hts (.fieldLink RX4 27 "MixedWords$Reader" "inRow" "I") (by decide +kernel)) (fun _ h9 => h9) rfl dX4_takeNumber_158 ?_
                      refine xt_i (y := nI r6) (hi6) ?_
                      refine lv_iload_n hx hb dX4_takeNumber_161 rfl (lv_at hl 1 rfl) ?_
                      refine xz_eq (tgt := 170) hx hb dX4_takeNumber_162 (by decide) (by omega) (fun c_162_23 => ?_) (fun c_162_23 => ?_)
                      · skip
                        refine lv_iload_n hx hb dX4_takeNumber_170 rfl (lv_at hl 3 rfl) ?_
                        refine xa_iast hx hb hK hP hD hS (2 + h6) 0 (wRead_atG1 (by omega)) rfl (by omega) (by decide) dX4_takeNumber_171 (fun H locs hP hD hS => ?_)
                        rw [wRead_setG1 (by omega)] at hP hD
                        have hP : va_P (dC, dI) vwCl (wRead h cs (va_up I 169 (nI q2)) L A Q (va_up G 1 (va_up (G 1) h6 (upd ((G 1) h6) r6 z3))) J) H := hP
                        have hD : va_D A0 (wRead h cs (va_up I 169 (nI q2)) L A Q (va_up G 1 (va_up (G 1) h6 (upd ((G 1) h6) r6 z3))) J) := hD
                        refine lv_aload_n hx hb dX4_takeNumber_172 rfl (lv_at hl 0 rfl) ?_
                        refine lv_dup hx hb dX4_takeNumber_173 rfl ?_
                        refine va_get (D := (dC, dI)) (ci := 4) (v := .int (I 168)) (C := RX4) (T := TX4) (N := 6) hx hb hts hinX4 hown hK hP 0 rfl rfl 4 (by decide) (hts (.fieldLink RX4 27 "MixedWords$Reader" "inRow" "I") (by decide +kernel)) (fun _ h9 => h9) rfl dX4_takeNumber_174 ?_
                        refine xt_i (y := nI r6) (hi6) ?_
                        refine lv_iconst (v := nI 1) hx hb dX4_takeNumber_177 (by decide) ?_
                        refine lv_iadd hx hb dX4_takeNumber_178 ?_
                        refine xt_i (y := nI (r6 + 1)) (nI_add _ _) ?_
                        refine va_put (D := (dC, dI)) (ci := 4) (v := .int (nI (r6 + 1))) (ty := .int) (C := RX4) (T := TX4) (N := 6) hx hb hts hinX4 tyX4 tyX4_ok nmX4 hown hK hP hD hS 0 rfl rfl 4 (by decide) (hts (.fieldLink RX4 27 "MixedWords$Reader" "inRow" "I") (by decide +kernel)) (fun _ h9 => h9) rfl (by decide +kernel) rfl rfl (Nat.le_of_ble_eq_true rfl) dX4_takeNumber_179 (fun H locs hP hD hS => ?_)
                        have hP : va_P (dC, dI) vwCl (wRead h cs (va_up (va_up I 169 (nI q2)) 168 (nI (r6 + 1))) L A Q (va_up G 1 (va_up (G 1) h6 (upd ((G 1) h6) r6 z3))) J) H := hP
                        have hD : va_D A0 (wRead h cs (va_up (va_up I 169 (nI q2)) 168 (nI (r6 + 1))) L A Q (va_up G 1 (va_up (G 1) h6 (upd ((G 1) h6) r6 z3))) J) := hD
                        refine lv_iconst (v := nI 1) hx hb dX4_takeNumber_182 (by decide) ?_
                        exact xr_z (v := (nI 1)) hx hb hr hlocks hK hS dX4_takeNumber_183 (rfl) ((va_up (va_up I 169 (nI q2)) 168 (nI (r6 + 1))), L, A, Q, (va_up G 1 (va_up (G 1) h6 (upd ((G 1) h6) r6 z3))), J) ⟨(nI q2), (nI (r6 + 1)), (va_up (G 1) h6 (upd ((G 1) h6) r6 z3)), ⟨q2, by omega, by omega, rfl, Or.inl ⟨rfl, by omega, rfl⟩⟩, rfl⟩ hP hD
                      · skip
                        refine lv_iload_n hx hb dX4_takeNumber_165 rfl (lv_at hl 3 rfl) ?_
                        refine lv_ineg hx hb dX4_takeNumber_166 ?_
                        refine lv_goto (tgt := 171) hx hb dX4_takeNumber_167 (by decide) ?_
                        refine xa_iast hx hb hK hP hD hS (2 + h6) 0 (wRead_atG1 (by omega)) rfl (by omega) (by decide) dX4_takeNumber_171 (fun H locs hP hD hS => ?_)
                        rw [wRead_setG1 (by omega)] at hP hD
                        have hP : va_P (dC, dI) vwCl (wRead h cs (va_up I 169 (nI q2)) L A Q (va_up G 1 (va_up (G 1) h6 (upd ((G 1) h6) r6 (-z3)))) J) H := hP
                        have hD : va_D A0 (wRead h cs (va_up I 169 (nI q2)) L A Q (va_up G 1 (va_up (G 1) h6 (upd ((G 1) h6) r6 (-z3)))) J) := hD
                        refine lv_aload_n hx hb dX4_takeNumber_172 rfl (lv_at hl 0 rfl) ?_
                        refine lv_dup hx hb dX4_takeNumber_173 rfl ?_
                        refine va_get (D := (dC, dI)) (ci := 4) (v := .int (I 168)) (C := RX4) (T := TX4) (N := 6) hx hb hts hinX4 hown hK hP 0 rfl rfl 4 (by decide) (hts (.fieldLink RX4 27 "MixedWords$Reader" "inRow" "I") (by decide +kernel)) (fun _ h9 => h9) rfl dX4_takeNumber_174 ?_
                        refine xt_i (y := nI r6) (hi6) ?_
                        refine lv_iconst (v := nI 1) hx hb dX4_takeNumber_177 (by decide) ?_
                        refine lv_iadd hx hb dX4_takeNumber_178 ?_
                        refine xt_i (y := nI (r6 + 1)) (nI_add _ _) ?_
                        refine va_put (D := (dC, dI)) (ci := 4) (v := .int (nI (r6 + 1))) (ty := .int) (C := RX4) (T := TX4) (N := 6) hx hb hts hinX4 tyX4 tyX4_ok nmX4 hown hK hP hD hS 0 rfl rfl 4 (by decide) (hts (.fieldLink RX4 27 "MixedWords$Reader" "inRow" "I") (by decide +kernel)) (fun _ h9 => h9) rfl (by decide +kernel) rfl rfl (Nat.le_of_ble_eq_true rfl) dX4_takeNumber_179 (fun H locs hP hD hS => ?_)
                        have hP : va_P (dC, dI) vwCl (wRead h cs (va_up (va_up I 169 (nI q2)) 168 (nI (r6 + 1))) L A Q (va_up G 1 (va_up (G 1) h6 (upd ((G 1) h6) r6 (-z3)))) J) H := hP
                        have hD : va_D A0 (wRead h cs (va_up (va_up I 169 (nI q2)) 168 (nI (r6 + 1))) L A Q (va_up G 1 (va_up (G 1) h6 (upd ((G 1) h6) r6 (-z3)))) J) := hD
                        refine lv_iconst (v := nI 1) hx hb dX4_takeNumber_182 (by decide) ?_
                        exact xr_z (v := (nI 1)) hx hb hr hlocks hK hS dX4_takeNumber_183 (rfl) ((va_up (va_up I 169 (nI q2)) 168 (nI (r6 + 1))), L, A, Q, (va_up G 1 (va_up (G 1) h6 (upd ((G 1) h6) r6 (-z3)))), J) ⟨(nI q2), (nI (r6 + 1)), (va_up (G 1) h6 (upd ((G 1) h6) r6 (-z3))), ⟨q2, by omega, by omega, rfl, Or.inl ⟨rfl, by omega, rfl⟩⟩, rfl⟩ hP hD
                    · skip
                      refine lv_aload_n hx hb dX4_takeNumber_141 rfl (lv_at hl 0 rfl) ?_
                      refine lv_iload_n hx hb dX4_takeNumber_142 rfl (lv_at hl 2 rfl) ?_
                      refine va_put (D := (dC, dI)) (ci := 4) (v := .int (nI q)) (ty := .int) (C := RX4) (T := TX4) (N := 6) hx hb hts hinX4 tyX4 tyX4_ok nmX4 hown hK hP hD hS 0 rfl rfl 5 (by decide) (hts (.fieldLink RX4 30 "MixedWords$Reader" "place" "I") (by decide +kernel)) (fun _ h9 => h9) rfl (by decide +kernel) rfl rfl (Nat.le_of_ble_eq_true rfl) dX4_takeNumber_143 (fun H locs hP hD hS => ?_)
                      have hP : va_P (dC, dI) vwCl (wRead h cs (va_up I 169 (nI q)) L A Q G J) H := hP
                      have hD : va_D A0 (wRead h cs (va_up I 169 (nI q)) L A Q G J) := hD
                      refine lv_iconst (v := nI 0) hx hb dX4_takeNumber_146 (by decide) ?_
                      exact xr_z (v := (nI 0)) hx hb hr hlocks hK hS dX4_takeNumber_147 (rfl) ((va_up (va_up I 169 (nI q)) 168 (I 168)), L, A, Q, (va_up G 1 (G 1)), J) ⟨(nI q), (I 168), (G 1), ⟨q, by omega, by omega, rfl, Or.inr ⟨rfl, rfl⟩⟩, rfl⟩ hP hD
                  · skip
                    refine lv_if_eq (tgt := 135) hx hb dX4_takeNumber_94 (by decide) (fun c9 => False.elim (by revert c9; decide +kernel)) (fun _ => ?_)
                    refine lv_iload_n hx hb dX4_takeNumber_97 rfl (lv_at hl 3 rfl) ?_
                    refine lv_bipush (v := nI 10) hx hb dX4_takeNumber_98 (by decide) ?_
                    refine lv_imul hx hb dX4_takeNumber_100 ?_
                    refine lv_aload_n hx hb dX4_takeNumber_101 rfl (lv_at hl 0 rfl) ?_
                    refine va_get (D := (dC, dI)) (ci := 4) (v := .ref (h 103)) (C := RX4) (T := TX4) (N := 6) hx hb hts hinX4 hown hK hP 0 rfl rfl 0 (by decide) (hts (.fieldLink RX4 16 "MixedWords$Reader" "tape" "LMixedWords$Tape;") (by decide +kernel)) (fun _ h9 => h9) rfl dX4_takeNumber_102 ?_
                    refine lv_aload_n hx hb dX4_takeNumber_105 rfl (lv_at hl 0 rfl) ?_
                    refine va_get (D := (dC, dI)) (ci := 4) (v := .int (nI q2)) (C := RX4) (T := TX4) (N := 6) hx hb hts hinX4 hown hK hP 0 rfl rfl 5 (by decide) (hts (.fieldLink RX4 30 "MixedWords$Reader" "place" "I") (by decide +kernel)) (fun _ h9 => h9) rfl dX4_takeNumber_106 ?_
                    refine xj_i (wc := (wTape h cs (va_up I 169 (nI q2)) L A Q G J)) (wr := [(h 104, .inr (4, [.ref (h 103), .ref (h 160), .int (I 166), .int (I 167), .int (I 168), .int (nI q2)])), (h 160, .inl (cs 3, 5, .inr (.inr (.inr (.inr (fun i => if i < 5 then some (h (i + 161)) else none)))))), (h 161, .inl (cs 0, 4, .inl ((G 1) 0))), (h 162, .inl (cs 0, 4, .inl ((G 1) 1))), (h 163, .inl (cs 0, 4, .inl ((G 1) 2))), (h 164, .inl (cs 0, 4, .inl ((G 1) 3))), (h 165, .inl (cs 0, 4, .inl ((G 1) 4)))]) hP hD hS hA [7, 8] [0, 1, 2, 3, 4, 5, 6] rfl rfl (by decide) (by decide) (va_runV (As := [.int (nI q2)]) (rest := [.int (z3 * (nI 10))]) ⟨hx, hb, hml, hown, hts⟩ (k_X7_at l dC dI h cs H.size (va_up I 169 (nI q2)) L A Q G J (nI q2) T hT (by first | assumption | omega | exact hT9)) (cwV 1 hts gX4_takeNumber_X7_at rfl rfl rfl (by decide +kernel) ⟨Nat.le_of_ble_eq_true rfl, Nat.le_of_ble_eq_true rfl⟩) (xpV (wc := (wTape h cs (va_up I 169 (nI q2)) L A Q G J)) hP hD hK hN [7, 8] rfl (by decide) 7 (ci := 7) rfl rfl _) rfl rfl hl.1 rfl (lv_room (Nat.le_of_ble_eq_true rfl)) dX4_takeNumber_109 ⟨Nat.zero_le _, Nat.zero_le _⟩) (fun r_26 u_25 H locs hw hP hD hS => ?_)
                    obtain ⟨hf_27, rfl⟩ := hw
                    have hP : va_P (dC, dI) vwCl (wRead h cs (va_up I 169 (nI q2)) L A Q G J) H := hP
                    have hD : va_D A0 (wRead h cs (va_up I 169 (nI q2)) L A Q G J) := hD
                    refine lv_iadd hx hb dX4_takeNumber_112 ?_
                    refine lv_bipush (v := nI 48) hx hb dX4_takeNumber_113 (by decide) ?_
                    refine lv_isub hx hb dX4_takeNumber_115 ?_
                    refine lv_bipush (v := nI 10) hx hb dX4_takeNumber_116 (by decide) ?_
                    refine va_mmin hx hb (hml.trans hl.1.symm) hown (hts (.methodLink RX4 61 Lib.Math.min.name) (by decide +kernel)) (hts (.static Lib.Math.min.name) (by decide +kernel)) (hts (.initialized "java/lang/Math") (by decide +kernel)) (hts (.code Lib.Math.min.name Lib.Math.min.code 2 (some .int)) (by decide +kernel)) (Nat.le_of_ble_eq_true rfl) (Nat.le_of_ble_eq_true rfl) (Nat.zero_le _) (Nat.zero_le _) dX4_takeNumber_118 ?_
                    refine lv_topi (fun x_28 ex_28 => ?_)
                    refine lv_istore_n (lv' := [(3, .int x_28), (0, .ref (h 104)), (1, .int (nI b1)), (2, .int (nI q))]) hx hb dX4_takeNumber_121 rfl hl (by decide) rfl (fun ls hl => ?_)
                    refine lv_aload_n hx hb dX4_takeNumber_122 rfl (lv_at hl 1 rfl) ?_
                    refine lv_dup hx hb dX4_takeNumber_123 rfl ?_
                    refine va_get (D := (dC, dI)) (ci := 4) (v := .int (nI q2)) (C := RX4) (T := TX4) (N := 6) hx hb hts hinX4 hown hK hP 0 rfl rfl 5 (by decide) (hts (.fieldLink RX4 30 "MixedWords$Reader" "place" "I") (by decide +kernel)) (fun _ h9 => h9) rfl dX4_takeNumber_124 ?_
                    refine lv_iconst (v := nI 1) hx hb dX4_takeNumber_127 (by decide) ?_
                    refine lv_iadd hx hb dX4_takeNumber_128 ?_
                    refine xt_i (y := nI (q2 + 1)) (nI_add _ _) ?_
                    refine va_put (D := (dC, dI)) (ci := 4) (v := .int (nI (q2 + 1))) (ty := .int) (C := RX4) (T := TX4) (N := 6) hx hb hts hinX4 tyX4 tyX4_ok nmX4 hown hK hP hD hS 0 rfl rfl 5 (by decide) (hts (.fieldLink RX4 30 "MixedWords$Reader" "place" "I") (by decide +kernel)) (fun _ h9 => h9) rfl (by decide +kernel) rfl rfl (Nat.le_of_ble_eq_true rfl) dX4_takeNumber_129 (fun H locs hP hD hS => ?_)
                    have hP : va_P (dC, dI) vwCl (wRead h cs (va_up I 169 (nI (q2 + 1))) L A Q G J) H := hP
                    have hD : va_D A0 (wRead h cs (va_up I 169 (nI (q2 + 1))) L A Q G J) := hD
                    refine lv_goto (tgt := 76) hx hb dX4_takeNumber_132 (by decide) ?_
                    exact ih_76 (q2 + 1) x_28 (by omega) (by first | assumption | omega) (by first | assumption | omega) _ _ _ hP hD hS (lv_sub hl [1, 2, 3, 0] rfl)
            exact cut_76 _ q (nI 0) (Nat.lt_succ_self _) (by first | assumption | omega) (by first | assumption | omega) _ _ _ hP hD hS (lv_sub hl [2, 3, 1, 0] rfl)
          · skip
            refine lv_iconst (v := nI 0) hx hb dX4_takeNumber_67 (by decide) ?_
            exact xr_z (v := (nI 0)) hx hb hr hlocks hK hS dX4_takeNumber_68 (rfl) ((va_up (va_up I 169 (nI q)) 168 (I 168)), L, A, Q, (va_up G 1 (G 1)), J) ⟨(nI q), (I 168), (G 1), ⟨q, by omega, by omega, rfl, Or.inr ⟨rfl, rfl⟩⟩, rfl⟩ hP hD
    exact cut_44 0 q_5 (by first | assumption | omega) (by first | assumption | omega) (by first | assumption | omega) _ _ _ hP hD hS (lv_sub hl [1, 0] rfl)
  · skip
    have hlt := at_lt (by omega) (by omega) hf_10 (eq45 c_17_10 (by decide))
    refine lv_iconst (v := nI 1) hx hb dX4_takeNumber_20 (by decide) ?_
    refine lv_goto (tgt := 25) hx hb dX4_takeNumber_21 (by decide) ?_
    refine lv_istore_n (lv' := [(1, .int (nI 1)), (0, .ref (h 104))]) hx hb dX4_takeNumber_25 rfl hl (by decide) rfl (fun ls hl => ?_)
    refine lv_iload_n hx hb dX4_takeNumber_26 rfl (lv_at hl 0 rfl) ?_
    refine lv_if_eq (tgt := 44) hx hb dX4_takeNumber_27 (by decide) (fun c9 => False.elim (by revert c9; decide +kernel)) (fun _ => ?_)
    refine lv_aload_n hx hb dX4_takeNumber_30 rfl (lv_at hl 1 rfl) ?_
    refine lv_dup hx hb dX4_takeNumber_31 rfl ?_
    refine va_get (D := (dC, dI)) (ci := 4) (v := .int (nI q_5)) (C := RX4) (T := TX4) (N := 6) hx hb hts hinX4 hown hK hP 0 rfl rfl 5 (by decide) (hts (.fieldLink RX4 30 "MixedWords$Reader" "place" "I") (by decide +kernel)) (fun _ h9 => h9) rfl dX4_takeNumber_32 ?_
    refine lv_iconst (v := nI 1) hx hb dX4_takeNumber_35 (by decide) ?_
    refine lv_iadd hx hb dX4_takeNumber_36 ?_
    refine xt_i (y := nI (q_5 + 1)) (nI_add _ _) ?_
    refine va_put (D := (dC, dI)) (ci := 4) (v := .int (nI (q_5 + 1))) (ty := .int) (C := RX4) (T := TX4) (N := 6) hx hb hts hinX4 tyX4 tyX4_ok nmX4 hown hK hP hD hS 0 rfl rfl 5 (by decide) (hts (.fieldLink RX4 30 "MixedWords$Reader" "place" "I") (by decide +kernel)) (fun _ h9 => h9) rfl (by decide +kernel) rfl rfl (Nat.le_of_ble_eq_true rfl) dX4_takeNumber_37 (fun H locs hP hD hS => ?_)
    have hP : va_P (dC, dI) vwCl (wRead h cs (va_up I 169 (nI (q_5 + 1))) L A Q G J) H := hP
    have hD : va_D A0 (wRead h cs (va_up I 169 (nI (q_5 + 1))) L A Q G J) := hD
    refine lv_aload_n hx hb dX4_takeNumber_40 rfl (lv_at hl 1 rfl) ?_
    refine xj_v (wc := (wRead h cs (va_up I 169 (nI (q_5 + 1))) L A Q G J)) (wr := ([] : va_W)) hP hD hS hA [0, 1, 2, 3, 4, 5, 6, 7, 8] [] rfl rfl (by decide) (by decide) (va_runV (As := []) (rest := []) ⟨hx, hb, hml, hown, hts⟩ (k_X4_skipBlanks l dC dI h cs H.size (va_up I 169 (nI (q_5 + 1))) L A Q G J T (q_5 + 1) hT (by first | assumption | omega | exact hT9) rfl (by first | assumption | omega | exact hpT)) (cwV 0 hts gX4_takeNumber_X4_skipBlanks rfl rfl rfl (by decide +kernel) ⟨Nat.le_of_ble_eq_true rfl, Nat.le_of_ble_eq_true rfl⟩) (xpV (wc := (wRead h cs (va_up I 169 (nI (q_5 + 1))) L A Q G J)) hP hD hK hN [0, 1, 2, 3, 4, 5, 6, 7, 8] rfl (by decide) 0 (ci := 4) rfl rfl _) rfl rfl hl.1 rfl (lv_room (Nat.le_of_ble_eq_true rfl)) dX4_takeNumber_41 ⟨Nat.zero_le _, Nat.zero_le _⟩) (fun u_29 H locs hw hP hD hS => ?_)
    obtain ⟨i169_31, hf_32, rfl⟩ := hw
    have hP : va_P (dC, dI) vwCl (wRead h cs (va_up I 169 i169_31) L A Q G J) H := hP
    have hD : va_D A0 (wRead h cs (va_up I 169 i169_31) L A Q G J) := hD
    obtain ⟨q_33, hq_34, hq_35, rfl⟩ := hf_32
    have cut_44 : ∀ (b1 : Nat) (q : Nat), (b1 ≤ 1) → (p9 ≤ q) → (q ≤ T) → ∀ (H : Heap) (locs : List Loc) (ls : Array Slot), va_P (dC, dI) vwCl (wRead h cs (va_up I 169 (nI q)) L A Q G J) H → va_D A0 (wRead h cs (va_up I 169 (nI q)) L A Q G J) → va_S A0 s.heap H locs → lv_has ls 4 [(0, .ref (h 104)), (1, .int (nI b1))] → W p l e (headSpec wsX4_takeNumber ({ frames := 2, cells := 0, slots := 0, locals := 60 })).room s m ([.ref (h 104)] : List Value).toArray below meth c H locs 0 0 (MQ below (va_Qi (fun (r : Int32) (u : CS) => ∃ i169 : Int32, ∃ i168 : Int32, ∃ g1 : Nat → Nat → Int32, (∃ q : Nat, p9 ≤ q ∧ q ≤ T ∧ i169 = nI q ∧ ((r = nI 1 ∧ r6 < 4 ∧ i168 = nI (r6 + 1)) ∨ (r = nI 0 ∧ i168 = I 168))) ∧ u = ((va_up (va_up I 169 i169) 168 i168), L, A, Q, (va_up G 1 g1), J)) (xB (dC, dI) (tysA cs) A0 (fun u : CS => wRead h cs u.1 u.2.1 u.2.2.1 u.2.2.2.1 u.2.2.2.2.1 u.2.2.2.2.2)) A0) ([.ref (h 104)] : List Value).toArray s 0 0 A0) (F0 m 44 ls []) := by
      intro b1 q hb44 hq44 hqT44 H locs ls hP hD hS hl
      refine lv_aload_n hx hb dX4_takeNumber_44 rfl (lv_at hl 0 rfl) ?_
      refine xj_i (wc := (wRead h cs (va_up I 169 (nI q)) L A Q G J)) (wr := ([] : va_W)) hP hD hS hA [0, 1, 2, 3, 4, 5, 6, 7, 8] [] rfl rfl (by decide) (by decide) (va_runV (As := []) (rest := []) ⟨hx, hb, hml, hown, hts⟩ (k_X4_isDigit l dC dI h cs H.size (va_up I 169 (nI q)) L A Q G J T q hT (by first | assumption | omega | exact hT9) rfl (by first | assumption | omega | exact hpT)) (cwV 0 hts gX4_takeNumber_X4_isDigit rfl rfl rfl (by decide +kernel) ⟨Nat.le_of_ble_eq_true rfl, Nat.le_of_ble_eq_true rfl⟩) (xpV (wc := (wRead h cs (va_up I 169 (nI q)) L A Q G J)) hP hD hK hN [0, 1, 2, 3, 4, 5, 6, 7, 8] rfl (by decide) 0 (ci := 4) rfl rfl _) rfl rfl hl.1 rfl (lv_room (Nat.le_of_ble_eq_true rfl)) dX4_takeNumber_45 ⟨Nat.zero_le _, Nat.zero_le _⟩) (fun r_37 u_36 H locs hw hP hD hS => ?_)
      obtain ⟨hf_38, rfl⟩ := hw
      have hP : va_P (dC, dI) vwCl (wRead h cs (va_up I 169 (nI q)) L A Q G J) H := hP
      have hD : va_D A0 (wRead h cs (va_up I 169 (nI q)) L A Q G J) := hD
      rcases hf_38 with rfl | rfl
      · skip
        refine lv_if_eq (tgt := 67) hx hb dX4_takeNumber_48 (by decide) (fun _ => ?_) (fun c9 => False.elim (by revert c9; decide +kernel))
        refine lv_iconst (v := nI 0) hx hb dX4_takeNumber_67 (by decide) ?_
        exact xr_z (v := (nI 0)) hx hb hr hlocks hK hS dX4_takeNumber_68 (rfl) ((va_up (va_up I 169 (nI q)) 168 (I 168)), L, A, Q, (va_up G 1 (G 1)), J) ⟨(nI q), (I 168), (G 1), ⟨q, by omega, by omega, rfl, Or.inr ⟨rfl, rfl⟩⟩, rfl⟩ hP hD
      · skip
        refine lv_if_eq (tgt := 67) hx hb dX4_takeNumber_48 (by decide) (fun c9 => False.elim (by revert c9; decide +kernel)) (fun _ => ?_)
        refine lv_aload_n hx hb dX4_takeNumber_51 rfl (lv_at hl 0 rfl) ?_
        refine va_get (D := (dC, dI)) (ci := 4) (v := .int (I 166)) (C := RX4) (T := TX4) (N := 6) hx hb hts hinX4 hown hK hP 0 rfl rfl 2 (by decide) (hts (.fieldLink RX4 20 "MixedWords$Reader" "height" "I") (by decide +kernel)) (fun _ h9 => h9) rfl dX4_takeNumber_52 ?_
        refine xt_i (y := nI h6) (hh) ?_
        refine lv_iconst (v := nI 5) hx hb dX4_takeNumber_55 (by decide) ?_
        refine xn_ge (tgt := 67) hx hb dX4_takeNumber_56 (by decide) (by omega) (by omega) (fun c_56_38 => ?_) (fun c_56_38 => ?_)
        · skip
          refine lv_iconst (v := nI 0) hx hb dX4_takeNumber_67 (by decide) ?_
          exact xr_z (v := (nI 0)) hx hb hr hlocks hK hS dX4_takeNumber_68 (rfl) ((va_up (va_up I 169 (nI q)) 168 (I 168)), L, A, Q, (va_up G 1 (G 1)), J) ⟨(nI q), (I 168), (G 1), ⟨q, by omega, by omega, rfl, Or.inr ⟨rfl, rfl⟩⟩, rfl⟩ hP hD
        · skip
          refine lv_aload_n hx hb dX4_takeNumber_59 rfl (lv_at hl 0 rfl) ?_
          refine va_get (D := (dC, dI)) (ci := 4) (v := .int (I 168)) (C := RX4) (T := TX4) (N := 6) hx hb hts hinX4 hown hK hP 0 rfl rfl 4 (by decide) (hts (.fieldLink RX4 27 "MixedWords$Reader" "inRow" "I") (by decide +kernel)) (fun _ h9 => h9) rfl dX4_takeNumber_60 ?_
          refine xt_i (y := nI r6) (hi6) ?_
          refine lv_iconst (v := nI 4) hx hb dX4_takeNumber_63 (by decide) ?_
          refine xn_lt (tgt := 69) hx hb dX4_takeNumber_64 (by decide) (by omega) (by omega) (fun c_64_39 => ?_) (fun c_64_39 => ?_)
          · skip
            refine lv_aload_n hx hb dX4_takeNumber_69 rfl (lv_at hl 0 rfl) ?_
            refine va_get (D := (dC, dI)) (ci := 4) (v := .int (nI q)) (C := RX4) (T := TX4) (N := 6) hx hb hts hinX4 hown hK hP 0 rfl rfl 5 (by decide) (hts (.fieldLink RX4 30 "MixedWords$Reader" "place" "I") (by decide +kernel)) (fun _ h9 => h9) rfl dX4_takeNumber_70 ?_
            refine lv_istore_n (lv' := [(2, .int (nI q)), (0, .ref (h 104)), (1, .int (nI b1))]) hx hb dX4_takeNumber_73 rfl hl (by decide) rfl (fun ls hl => ?_)
            refine lv_iconst (v := nI 0) hx hb dX4_takeNumber_74 (by decide) ?_
            refine lv_istore_n (lv' := [(3, .int (nI 0)), (2, .int (nI q)), (0, .ref (h 104)), (1, .int (nI b1))]) hx hb dX4_takeNumber_75 rfl hl (by decide) rfl (fun ls hl => ?_)
            have cut_76 : ∀ (nf : Nat) (q2 : Nat) (z3 : Int32), (T - q2) < nf → (q ≤ q2) → (q2 ≤ T) → ∀ (H : Heap) (locs : List Loc) (ls : Array Slot), va_P (dC, dI) vwCl (wRead h cs (va_up I 169 (nI q2)) L A Q G J) H → va_D A0 (wRead h cs (va_up I 169 (nI q2)) L A Q G J) → va_S A0 s.heap H locs → lv_has ls 4 [(0, .ref (h 104)), (1, .int (nI b1)), (2, .int (nI q)), (3, .int z3)] → W p l e (headSpec wsX4_takeNumber ({ frames := 2, cells := 0, slots := 0, locals := 60 })).room s m ([.ref (h 104)] : List Value).toArray below meth c H locs 0 0 (MQ below (va_Qi (fun (r : Int32) (u : CS) => ∃ i169 : Int32, ∃ i168 : Int32, ∃ g1 : Nat → Nat → Int32, (∃ q : Nat, p9 ≤ q ∧ q ≤ T ∧ i169 = nI q ∧ ((r = nI 1 ∧ r6 < 4 ∧ i168 = nI (r6 + 1)) ∨ (r = nI 0 ∧ i168 = I 168))) ∧ u = ((va_up (va_up I 169 i169) 168 i168), L, A, Q, (va_up G 1 g1), J)) (xB (dC, dI) (tysA cs) A0 (fun u : CS => wRead h cs u.1 u.2.1 u.2.2.1 u.2.2.2.1 u.2.2.2.2.1 u.2.2.2.2.2)) A0) ([.ref (h 104)] : List Value).toArray s 0 0 A0) (F0 m 76 ls []) := by
              intro nf
              induction nf with
              | zero => intro q2 z3 hm; exact absurd hm (Nat.not_lt_zero _)
              | succ nf ih_76 =>
                intro q2 z3 hm_76 hq76 hqT76 H locs ls hP hD hS hl
                refine lv_aload_n hx hb dX4_takeNumber_76 rfl (lv_at hl 0 rfl) ?_
                refine va_get (D := (dC, dI)) (ci := 4) (v := .int (nI q2)) (C := RX4) (T := TX4) (N := 6) hx hb hts hinX4 hown hK hP 0 rfl rfl 5 (by decide) (hts (.fieldLink RX4 30 "MixedWords$Reader" "place" "I") (by decide +kernel)) (fun _ h9 => h9) rfl dX4_takeNumber_77 ?_
                refine lv_aload_n hx hb dX4_takeNumber_80 rfl (lv_at hl 0 rfl) ?_
                refine va_get (D := (dC, dI)) (ci := 4) (v := .ref (h 103)) (C := RX4) (T := TX4) (N := 6) hx hb hts hinX4 hown hK hP 0 rfl rfl 0 (by decide) (hts (.fieldLink RX4 16 "MixedWords$Reader" "tape" "LMixedWords$Tape;") (by decide +kernel)) (fun _ h9 => h9) rfl dX4_takeNumber_81 ?_
                refine va_get (D := (dC, dI)) (ci := 7) (v := .int (I 151)) (C := RX7) (T := TX7) (N := 2) hx hb hts hinX7 hown hK hP 7 rfl rfl 1 (by decide) (hts (.fieldLink RX4 55 "MixedWords$Tape" "length" "I") (by decide +kernel)) (fun _ h9 => h9) rfl dX4_takeNumber_84 ?_
                refine xt_i (y := nI T) (hT) ?_
                refine xn_ge (tgt := 135) hx hb dX4_takeNumber_87 (by decide) (by omega) (by omega) (fun c_87_40 => ?_) (fun c_87_40 => ?_)
                · skip
                  refine lv_iload_n hx hb dX4_takeNumber_135 rfl (lv_at hl 3 rfl) ?_
                  refine lv_bipush (v := nI 9) hx hb dX4_takeNumber_136 (by decide) ?_
                  refine lv_icmp_le (tgt := 148) hx hb dX4_takeNumber_138 (by decide) (fun c_138_41 => ?_) (fun c_138_41 => ?_)
                  · skip
                    refine lv_aload_n hx hb dX4_takeNumber_148 rfl (lv_at hl 0 rfl) ?_
                    refine va_get (D := (dC, dI)) (ci := 4) (v := .ref (h 160)) (C := RX4) (T := TX4) (N := 6) hx hb hts hinX4 hown hK hP 0 rfl rfl 1 (by decide) (hts (.fieldLink RX4 11 "MixedWords$Reader" "cells" "[[I") (by decide +kernel)) (fun _ h9 => h9) rfl dX4_takeNumber_149 ?_
                    refine lv_aload_n hx hb dX4_takeNumber_152 rfl (lv_at hl 0 rfl) ?_
                    refine va_get (D := (dC, dI)) (ci := 4) (v := .int (I 166)) (C := RX4) (T := TX4) (N := 6) hx hb hts hinX4 hown hK hP 0 rfl rfl 2 (by decide) (hts (.fieldLink RX4 20 "MixedWords$Reader" "height" "I") (by decide +kernel)) (fun _ h9 => h9) rfl dX4_takeNumber_153 ?_
                    refine xt_i (y := nI h6) (hh) ?_
                    refine xa_aald (b := h (h6 + 161)) hx hb hK hP 1 3 rfl rfl rfl (by omega) (by decide) (if_pos (by omega)) dX4_takeNumber_156 ?_
                    refine lv_aload_n hx hb dX4_takeNumber_157 rfl (lv_at hl 0 rfl) ?_
                    refine va_get (D := (dC, dI)) (ci := 4) (v := .int (I 168)) (C := RX4) (T := TX4) (N := 6) hx hb hts hinX4 hown hK hP 0 rfl rfl 4 (by decide) (hts (.fieldLink RX4 27 "MixedWords$Reader" "inRow" "I") (by decide +kernel)) (fun _ h9 => h9) rfl dX4_takeNumber_158 ?_
                    refine xt_i (y := nI r6) (hi6) ?_
                    refine lv_iload_n hx hb dX4_takeNumber_161 rfl (lv_at hl 1 rfl) ?_
                    refine xz_eq (tgt := 170) hx hb dX4_takeNumber_162 (by decide) (by omega) (fun c_162_42 => ?_) (fun c_162_42 => ?_)
                    · skip
                      refine lv_iload_n hx hb dX4_takeNumber_170 rfl (lv_at hl 3 rfl) ?_
                      refine xa_iast hx hb hK hP hD hS (2 + h6) 0 (wRead_atG1 (by omega)) rfl (by omega) (by decide) dX4_takeNumber_171 (fun H locs hP hD hS => ?_)
                      rw [wRead_setG1 (by omega)] at hP hD
                      have hP : va_P (dC, dI) vwCl (wRead h cs (va_up I 169 (nI q2)) L A Q (va_up G 1 (va_up (G 1) h6 (upd ((G 1) h6) r6 z3))) J) H := hP
                      have hD : va_D A0 (wRead h cs (va_up I 169 (nI q2)) L A Q (va_up G 1 (va_up (G 1) h6 (upd ((G 1) h6) r6 z3))) J) := hD
                      refine lv_aload_n hx hb dX4_takeNumber_172 rfl (lv_at hl 0 rfl) ?_
                      refine lv_dup hx hb dX4_takeNumber_173 rfl ?_
                      refine va_get (D := (dC, dI)) (ci := 4) (v := .int (I 168)) (C := RX4) (T := TX4) (N := 6) hx hb hts hinX4 hown hK hP 0 rfl rfl 4 (by decide) (hts (.fieldLink RX4 27 "MixedWords$Reader" "inRow" "I") (by decide +kernel)) (fun _ h9 => h9) rfl dX4_takeNumber_174 ?_
                      refine xt_i (y := nI r6) (hi6) ?_
                      refine lv_iconst (v := nI 1) hx hb dX4_takeNumber_177 (by decide) ?_
                      refine lv_iadd hx hb dX4_takeNumber_178 ?_
                      refine xt_i (y := nI (r6 + 1)) (nI_add _ _) ?_
                      refine va_put (D := (dC, dI)) (ci := 4) (v := .int (nI (r6 + 1))) (ty := .int) (C := RX4) (T := TX4) (N := 6) hx hb hts hinX4 tyX4 tyX4_ok nmX4 hown hK hP hD hS 0 rfl rfl 4 (by decide) (hts (.fieldLink RX4 27 "MixedWords$Reader" "inRow" "I") (by decide +kernel)) (fun _ h9 => h9) rfl (by decide +kernel) rfl rfl (Nat.le_of_ble_eq_true rfl) dX4_takeNumber_179 (fun H locs hP hD hS => ?_)
                      have hP : va_P (dC, dI) vwCl (wRead h cs (va_up (va_up I 169 (nI q2)) 168 (nI (r6 + 1))) L A Q (va_up G 1 (va_up (G 1) h6 (upd ((G 1) h6) r6 z3))) J) H := hP
                      have hD : va_D A0 (wRead h cs (va_up (va_up I 169 (nI q2)) 168 (nI (r6 + 1))) L A Q (va_up G 1 (va_up (G 1) h6 (upd ((G 1) h6) r6 z3))) J) := hD
                      refine lv_iconst (v := nI 1) hx hb dX4_takeNumber_182 (by decide) ?_
                      exact xr_z (v := (nI 1)) hx hb hr hlocks hK hS dX4_takeNumber_183 (rfl) ((va_up (va_up I 169 (nI q2)) 168 (nI (r6 + 1))), L, A, Q, (va_up G 1 (va_up (G 1) h6 (upd ((G 1) h6) r6 z3))), J) ⟨(nI q2), (nI (r6 + 1)), (va_up (G 1) h6 (upd ((G 1) h6) r6 z3)), ⟨q2, by omega, by omega, rfl, Or.inl ⟨rfl, by omega, rfl⟩⟩, rfl⟩ hP hD
                    · skip
                      refine lv_iload_n hx hb dX4_takeNumber_165 rfl (lv_at hl 3 rfl) ?_
                      refine lv_ineg hx hb dX4_takeNumber_166 ?_
                      refine lv_goto (tgt := 171) hx hb dX4_takeNumber_167 (by decide) ?_
                      refine xa_iast hx hb hK hP hD hS (2 + h6) 0 (wRead_atG1 (by omega)) rfl (by omega) (by decide) dX4_takeNumber_171 (fun H locs hP hD hS => ?_)
                      rw [wRead_setG1 (by omega)] at hP hD
                      have hP : va_P (dC, dI) vwCl (wRead h cs (va_up I 169 (nI q2)) L A Q (va_up G 1 (va_up (G 1) h6 (upd ((G 1) h6) r6 (-z3)))) J) H := hP
                      have hD : va_D A0 (wRead h cs (va_up I 169 (nI q2)) L A Q (va_up G 1 (va_up (G 1) h6 (upd ((G 1) h6) r6 (-z3)))) J) := hD
                      refine lv_aload_n hx hb dX4_takeNumber_172 rfl (lv_at hl 0 rfl) ?_
                      refine lv_dup hx hb dX4_takeNumber_173 rfl ?_
                      refine va_get (D := (dC, dI)) (ci := 4) (v := .int (I 168)) (C := RX4) (T := TX4) (N := 6) hx hb hts hinX4 hown hK hP 0 rfl rfl 4 (by decide) (hts (.fieldLink RX4 27 "MixedWords$Reader" "inRow" "I") (by decide +kernel)) (fun _ h9 => h9) rfl dX4_takeNumber_174 ?_
                      refine xt_i (y := nI r6) (hi6) ?_
                      refine lv_iconst (v := nI 1) hx hb dX4_takeNumber_177 (by decide) ?_
                      refine lv_iadd hx hb dX4_takeNumber_178 ?_
                      refine xt_i (y := nI (r6 + 1)) (nI_add _ _) ?_
                      refine va_put (D := (dC, dI)) (ci := 4) (v := .int (nI (r6 + 1))) (ty := .int) (C := RX4) (T := TX4) (N := 6) hx hb hts hinX4 tyX4 tyX4_ok nmX4 hown hK hP hD hS 0 rfl rfl 4 (by decide) (hts (.fieldLink RX4 27 "MixedWords$Reader" "inRow" "I") (by decide +kernel)) (fun _ h9 => h9) rfl (by decide +kernel) rfl rfl (Nat.le_of_ble_eq_true rfl) dX4_takeNumber_179 (fun H locs hP hD hS => ?_)
                      have hP : va_P (dC, dI) vwCl (wRead h cs (va_up (va_up I 169 (nI q2)) 168 (nI (r6 + 1))) L A Q (va_up G 1 (va_up (G 1) h6 (upd ((G 1) h6) r6 (-z3)))) J) H := hP
                      have hD : va_D A0 (wRead h cs (va_up (va_up I 169 (nI q2)) 168 (nI (r6 + 1))) L A Q (va_up G 1 (va_up (G 1) h6 (upd ((G 1) h6) r6 (-z3)))) J) := hD
                      refine lv_iconst (v := nI 1) hx hb dX4_takeNumber_182 (by decide) ?_
                      exact xr_z (v := (nI 1)) hx hb hr hlocks hK hS dX4_takeNumber_183 (rfl) ((va_up (va_up I 169 (nI q2)) 168 (nI (r6 + 1))), L, A, Q, (va_up G 1 (va_up (G 1) h6 (upd ((G 1) h6) r6 (-z3)))), J) ⟨(nI q2), (nI (r6 + 1)), (va_up (G 1) h6 (upd ((G 1) h6) r6 (-z3))), ⟨q2, by omega, by omega, rfl, Or.inl ⟨rfl, by omega, rfl⟩⟩, rfl⟩ hP hD
                  · skip
                    refine lv_aload_n hx hb dX4_takeNumber_141 rfl (lv_at hl 0 rfl) ?_
                    refine lv_iload_n hx hb dX4_takeNumber_142 rfl (lv_at hl 2 rfl) ?_
                    refine va_put (D := (dC, dI)) (ci := 4) (v := .int (nI q)) (ty := .int) (C := RX4) (T := TX4) (N := 6) hx hb hts hinX4 tyX4 tyX4_ok nmX4 hown hK hP hD hS 0 rfl rfl 5 (by decide) (hts (.fieldLink RX4 30 "MixedWords$Reader" "place" "I") (by decide +kernel)) (fun _ h9 => h9) rfl (by decide +kernel) rfl rfl (Nat.le_of_ble_eq_true rfl) dX4_takeNumber_143 (fun H locs hP hD hS => ?_)
                    have hP : va_P (dC, dI) vwCl (wRead h cs (va_up I 169 (nI q)) L A Q G J) H := hP
                    have hD : va_D A0 (wRead h cs (va_up I 169 (nI q)) L A Q G J) := hD
                    refine lv_iconst (v := nI 0) hx hb dX4_takeNumber_146 (by decide) ?_
                    exact xr_z (v := (nI 0)) hx hb hr hlocks hK hS dX4_takeNumber_147 (rfl) ((va_up (va_up I 169 (nI q)) 168 (I 168)), L, A, Q, (va_up G 1 (G 1)), J) ⟨(nI q), (I 168), (G 1), ⟨q, by omega, by omega, rfl, Or.inr ⟨rfl, rfl⟩⟩, rfl⟩ hP hD
                · skip
                  refine lv_aload_n hx hb dX4_takeNumber_90 rfl (lv_at hl 0 rfl) ?_
                  refine xj_i (wc := (wRead h cs (va_up I 169 (nI q2)) L A Q G J)) (wr := ([] : va_W)) hP hD hS hA [0, 1, 2, 3, 4, 5, 6, 7, 8] [] rfl rfl (by decide) (by decide) (va_runV (As := []) (rest := []) ⟨hx, hb, hml, hown, hts⟩ (k_X4_isDigit l dC dI h cs H.size (va_up I 169 (nI q2)) L A Q G J T q2 hT (by first | assumption | omega | exact hT9) rfl (by first | assumption | omega | exact hpT)) (cwV 0 hts gX4_takeNumber_X4_isDigit rfl rfl rfl (by decide +kernel) ⟨Nat.le_of_ble_eq_true rfl, Nat.le_of_ble_eq_true rfl⟩) (xpV (wc := (wRead h cs (va_up I 169 (nI q2)) L A Q G J)) hP hD hK hN [0, 1, 2, 3, 4, 5, 6, 7, 8] rfl (by decide) 0 (ci := 4) rfl rfl _) rfl rfl hl.1 rfl (lv_room (Nat.le_of_ble_eq_true rfl)) dX4_takeNumber_91 ⟨Nat.zero_le _, Nat.zero_le _⟩) (fun r_45 u_44 H locs hw hP hD hS => ?_)
                  obtain ⟨hf_46, rfl⟩ := hw
                  have hP : va_P (dC, dI) vwCl (wRead h cs (va_up I 169 (nI q2)) L A Q G J) H := hP
                  have hD : va_D A0 (wRead h cs (va_up I 169 (nI q2)) L A Q G J) := hD
                  rcases hf_46 with rfl | rfl
                  · skip
                    refine lv_if_eq (tgt := 135) hx hb dX4_takeNumber_94 (by decide) (fun _ => ?_) (fun c9 => False.elim (by revert c9; decide +kernel))
                    refine lv_iload_n hx hb dX4_takeNumber_135 rfl (lv_at hl 3 rfl) ?_
                    refine lv_bipush (v := nI 9) hx hb dX4_takeNumber_136 (by decide) ?_
                    refine lv_icmp_le (tgt := 148) hx hb dX4_takeNumber_138 (by decide) (fun c_138_46 => ?_) (fun c_138_46 => ?_)
                    · skip
                      refine lv_aload_n hx hb dX4_takeNumber_148 rfl (lv_at hl 0 rfl) ?_
                      refine va_get (D := (dC, dI)) (ci := 4) (v := .ref (h 160)) (C := RX4) (T := TX4) (N := 6) hx hb hts hinX4 hown hK hP 0 rfl rfl 1 (by decide) (hts (.fieldLink RX4 11 "MixedWords$Reader" "cells" "[[I") (by decide +kernel)) (fun _ h9 => h9) rfl dX4_takeNumber_149 ?_
                      refine lv_aload_n hx hb dX4_takeNumber_152 rfl (lv_at hl 0 rfl) ?_
                      refine va_get (D := (dC, dI)) (ci := 4) (v := .int (I 166)) (C := RX4) (T := TX4) (N := 6) hx hb hts hinX4 hown hK hP 0 rfl rfl 2 (by decide) (hts (.fieldLink RX4 20 "MixedWords$Reader" "height" "I") (by decide +kernel)) (fun _ h9 => h9) rfl dX4_takeNumber_153 ?_
                      refine xt_i (y := nI h6) (hh) ?_
                      refine xa_aald (b := h (h6 + 161)) hx hb hK hP 1 3 rfl rfl rfl (by omega) (by decide) (if_pos (by omega)) dX4_takeNumber_156 ?_
                      refine lv_aload_n hx hb dX4_takeNumber_157 rfl (lv_at hl 0 rfl) ?_
                      refine va_get (D := (dC, dI)) (ci := 4) (v := .int (I 168)) (C := RX4) (T := TX4) (N := 6) hx hb hts hinX4 hown hK hP 0 rfl rfl 4 (by decide) (hts (.fieldLink RX4 27 "MixedWords$Reader" "inRow" "I") (by decide +kernel)) (fun _ h9 => h9) rfl dX4_takeNumber_158 ?_
                      refine xt_i (y := nI r6) (hi6) ?_
                      refine lv_iload_n hx hb dX4_takeNumber_161 rfl (lv_at hl 1 rfl) ?_
                      refine xz_eq (tgt := 170) hx hb dX4_takeNumber_162 (by decide) (by omega) (fun c_162_47 => ?_) (fun c_162_47 => ?_)
                      · skip
                        refine lv_iload_n hx hb dX4_takeNumber_170 rfl (lv_at hl 3 rfl) ?_
                        refine xa_iast hx hb hK hP hD hS (2 + h6) 0 (wRead_atG1 (by omega)) rfl (by omega) (by decide) dX4_takeNumber_171 (fun H locs hP hD hS => ?_)
                        rw [wRead_setG1 (by omega)] at hP hD
                        have hP : va_P (dC, dI) vwCl (wRead h cs (va_up I 169 (nI q2)) L A Q (va_up G 1 (va_up (G 1) h6 (upd ((G 1) h6) r6 z3))) J) H := hP
                        have hD : va_D A0 (wRead h cs (va_up I 169 (nI q2)) L A Q (va_up G 1 (va_up (G 1) h6 (upd ((G 1) h6) r6 z3))) J) := hD
                        refine lv_aload_n hx hb dX4_takeNumber_172 rfl (lv_at hl 0 rfl) ?_
                        refine lv_dup hx hb dX4_takeNumber_173 rfl ?_
                        refine va_get (D := (dC, dI)) (ci := 4) (v := .int (I 168)) (C := RX4) (T := TX4) (N := 6) hx hb hts hinX4 hown hK hP 0 rfl rfl 4 (by decide) (hts (.fieldLink RX4 27 "MixedWords$Reader" "inRow" "I") (by decide +kernel)) (fun _ h9 => h9) rfl dX4_takeNumber_174 ?_
                        refine xt_i (y := nI r6) (hi6) ?_
                        refine lv_iconst (v := nI 1) hx hb dX4_takeNumber_177 (by decide) ?_
                        refine lv_iadd hx hb dX4_takeNumber_178 ?_
                        refine xt_i (y := nI (r6 + 1)) (nI_add _ _) ?_
                        refine va_put (D := (dC, dI)) (ci := 4) (v := .int (nI (r6 + 1))) (ty := .int) (C := RX4) (T := TX4) (N := 6) hx hb hts hinX4 tyX4 tyX4_ok nmX4 hown hK hP hD hS 0 rfl rfl 4 (by decide) (hts (.fieldLink RX4 27 "MixedWords$Reader" "inRow" "I") (by decide +kernel)) (fun _ h9 => h9) rfl (by decide +kernel) rfl rfl (Nat.le_of_ble_eq_true rfl) dX4_takeNumber_179 (fun H locs hP hD hS => ?_)
                        have hP : va_P (dC, dI) vwCl (wRead h cs (va_up (va_up I 169 (nI q2)) 168 (nI (r6 + 1))) L A Q (va_up G 1 (va_up (G 1) h6 (upd ((G 1) h6) r6 z3))) J) H := hP
                        have hD : va_D A0 (wRead h cs (va_up (va_up I 169 (nI q2)) 168 (nI (r6 + 1))) L A Q (va_up G 1 (va_up (G 1) h6 (upd ((G 1) h6) r6 z3))) J) := hD
                        refine lv_iconst (v := nI 1) hx hb dX4_takeNumber_182 (by decide) ?_
                        exact xr_z (v := (nI 1)) hx hb hr hlocks hK hS dX4_takeNumber_183 (rfl) ((va_up (va_up I 169 (nI q2)) 168 (nI (r6 + 1))), L, A, Q, (va_up G 1 (va_up (G 1) h6 (upd ((G 1) h6) r6 z3))), J) ⟨(nI q2), (nI (r6 + 1)), (va_up (G 1) h6 (upd ((G 1) h6) r6 z3)), ⟨q2, by omega, by omega, rfl, Or.inl ⟨rfl, by omega, rfl⟩⟩, rfl⟩ hP hD
                      · skip
                        refine lv_iload_n hx hb dX4_takeNumber_165 rfl (lv_at hl 3 rfl) ?_
                        refine lv_ineg hx hb dX4_takeNumber_166 ?_
                        refine lv_goto (tgt := 171) hx hb dX4_takeNumber_167 (by decide) ?_
                        refine xa_iast hx hb hK hP hD hS (2 + h6) 0 (wRead_atG1 (by omega)) rfl (by omega) (by decide) dX4_takeNumber_171 (fun H locs hP hD hS => ?_)
                        rw [wRead_setG1 (by omega)] at hP hD
                        have hP : va_P (dC, dI) vwCl (wRead h cs (va_up I 169 (nI q2)) L A Q (va_up G 1 (va_up (G 1) h6 (upd ((G 1) h6) r6 (-z3)))) J) H := hP
                        have hD : va_D A0 (wRead h cs (va_up I 169 (nI q2)) L A Q (va_up G 1 (va_up (G 1) h6 (upd ((G 1) h6) r6 (-z3)))) J) := hD
                        refine lv_aload_n hx hb dX4_takeNumber_172 rfl (lv_at hl 0 rfl) ?_
                        refine lv_dup hx hb dX4_takeNumber_173 rfl ?_
                        refine va_get (D := (dC, dI)) (ci := 4) (v := .int (I 168)) (C := RX4) (T := TX4) (N := 6) hx hb hts hinX4 hown hK hP 0 rfl rfl 4 (by decide) (hts (.fieldLink RX4 27 "MixedWords$Reader" "inRow" "I") (by decide +kernel)) (fun _ h9 => h9) rfl dX4_takeNumber_174 ?_
                        refine xt_i (y := nI r6) (hi6) ?_
                        refine lv_iconst (v := nI 1) hx hb dX4_takeNumber_177 (by decide) ?_
                        refine lv_iadd hx hb dX4_takeNumber_178 ?_
                        refine xt_i (y := nI (r6 + 1)) (nI_add _ _) ?_
                        refine va_put (D := (dC, dI)) (ci := 4) (v := .int (nI (r6 + 1))) (ty := .int) (C := RX4) (T := TX4) (N := 6) hx hb hts hinX4 tyX4 tyX4_ok nmX4 hown hK hP hD hS 0 rfl rfl 4 (by decide) (hts (.fieldLink RX4 27 "MixedWords$Reader" "inRow" "I") (by decide +kernel)) (fun _ h9 => h9) rfl (by decide +kernel) rfl rfl (Nat.le_of_ble_eq_true rfl) dX4_takeNumber_179 (fun H locs hP hD hS => ?_)
                        have hP : va_P (dC, dI) vwCl (wRead h cs (va_up (va_up I 169 (nI q2)) 168 (nI (r6 + 1))) L A Q (va_up G 1 (va_up (G 1) h6 (upd ((G 1) h6) r6 (-z3)))) J) H := hP
                        have hD : va_D A0 (wRead h cs (va_up (va_up I 169 (nI q2)) 168 (nI (r6 + 1))) L A Q (va_up G 1 (va_up (G 1) h6 (upd ((G 1) h6) r6 (-z3)))) J) := hD
                        refine lv_iconst (v := nI 1) hx hb dX4_takeNumber_182 (by decide) ?_
                        exact xr_z (v := (nI 1)) hx hb hr hlocks hK hS dX4_takeNumber_183 (rfl) ((va_up (va_up I 169 (nI q2)) 168 (nI (r6 + 1))), L, A, Q, (va_up G 1 (va_up (G 1) h6 (upd ((G 1) h6) r6 (-z3)))), J) ⟨(nI q2), (nI (r6 + 1)), (va_up (G 1) h6 (upd ((G 1) h6) r6 (-z3))), ⟨q2, by omega, by omega, rfl, Or.inl ⟨rfl, by omega, rfl⟩⟩, rfl⟩ hP hD
                    · skip
                      refine lv_aload_n hx hb dX4_takeNumber_141 rfl (lv_at hl 0 rfl) ?_
                      refine lv_iload_n hx hb dX4_takeNumber_142 rfl (lv_at hl 2 rfl) ?_
                      refine va_put (D := (dC, dI)) (ci := 4) (v := .int (nI q)) (ty := .int) (C := RX4) (T := TX4) (N := 6) hx hb hts hinX4 tyX4 tyX4_ok nmX4 hown hK hP hD hS 0 rfl rfl 5 (by decide) (hts (.fieldLink RX4 30 "MixedWords$Reader" "place" "I") (by decide +kernel)) (fun _ h9 => h9) rfl (by decide +kernel) rfl rfl (Nat.le_of_ble_eq_true rfl) dX4_takeNumber_143 (fun H locs hP hD hS => ?_)
                      have hP : va_P (dC, dI) vwCl (wRead h cs (va_up I 169 (nI q)) L A Q G J) H := hP
                      have hD : va_D A0 (wRead h cs (va_up I 169 (nI q)) L A Q G J) := hD
                      refine lv_iconst (v := nI 0) hx hb dX4_takeNumber_146 (by decide) ?_
                      exact xr_z (v := (nI 0)) hx hb hr hlocks hK hS dX4_takeNumber_147 (rfl) ((va_up (va_up I 169 (nI q)) 168 (I 168)), L, A, Q, (va_up G 1 (G 1)), J) ⟨(nI q), (I 168), (G 1), ⟨q, by omega, by omega, rfl, Or.inr ⟨rfl, rfl⟩⟩, rfl⟩ hP hD
                  · skip
                    refine lv_if_eq (tgt := 135) hx hb dX4_takeNumber_94 (by decide) (fun c9 => False.elim (by revert c9; decide +kernel)) (fun _ => ?_)
                    refine lv_iload_n hx hb dX4_takeNumber_97 rfl (lv_at hl 3 rfl) ?_
                    refine lv_bipush (v := nI 10) hx hb dX4_takeNumber_98 (by decide) ?_
                    refine lv_imul hx hb dX4_takeNumber_100 ?_
                    refine lv_aload_n hx hb dX4_takeNumber_101 rfl (lv_at hl 0 rfl) ?_
                    refine va_get (D := (dC, dI)) (ci := 4) (v := .ref (h 103)) (C := RX4) (T := TX4) (N := 6) hx hb hts hinX4 hown hK hP 0 rfl rfl 0 (by decide) (hts (.fieldLink RX4 16 "MixedWords$Reader" "tape" "LMixedWords$Tape;") (by decide +kernel)) (fun _ h9 => h9) rfl dX4_takeNumber_102 ?_
                    refine lv_aload_n hx hb dX4_takeNumber_105 rfl (lv_at hl 0 rfl) ?_
                    refine va_get (D := (dC, dI)) (ci := 4) (v := .int (nI q2)) (C := RX4) (T := TX4) (N := 6) hx hb hts hinX4 hown hK hP 0 rfl rfl 5 (by decide) (hts (.fieldLink RX4 30 "MixedWords$Reader" "place" "I") (by decide +kernel)) (fun _ h9 => h9) rfl dX4_takeNumber_106 ?_
                    refine xj_i (wc := (wTape h cs (va_up I 169 (nI q2)) L A Q G J)) (wr := [(h 104, .inr (4, [.ref (h 103), .ref (h 160), .int (I 166), .int (I 167), .int (I 168), .int (nI q2)])), (h 160, .inl (cs 3, 5, .inr (.inr (.inr (.inr (fun i => if i < 5 then some (h (i + 161)) else none)))))), (h 161, .inl (cs 0, 4, .inl ((G 1) 0))), (h 162, .inl (cs 0, 4, .inl ((G 1) 1))), (h 163, .inl (cs 0, 4, .inl ((G 1) 2))), (h 164, .inl (cs 0, 4, .inl ((G 1) 3))), (h 165, .inl (cs 0, 4, .inl ((G 1) 4)))]) hP hD hS hA [7, 8] [0, 1, 2, 3, 4, 5, 6] rfl rfl (by decide) (by decide) (va_runV (As := [.int (nI q2)]) (rest := [.int (z3 * (nI 10))]) ⟨hx, hb, hml, hown, hts⟩ (k_X7_at l dC dI h cs H.size (va_up I 169 (nI q2)) L A Q G J (nI q2) T hT (by first | assumption | omega | exact hT9)) (cwV 1 hts gX4_takeNumber_X7_at rfl rfl rfl (by decide +kernel) ⟨Nat.le_of_ble_eq_true rfl, Nat.le_of_ble_eq_true rfl⟩) (xpV (wc := (wTape h cs (va_up I 169 (nI q2)) L A Q G J)) hP hD hK hN [7, 8] rfl (by decide) 7 (ci := 7) rfl rfl _) rfl rfl hl.1 rfl (lv_room (Nat.le_of_ble_eq_true rfl)) dX4_takeNumber_109 ⟨Nat.zero_le _, Nat.zero_le _⟩) (fun r_50 u_49 H locs hw hP hD hS => ?_)
                    obtain ⟨hf_51, rfl⟩ := hw
                    have hP : va_P (dC, dI) vwCl (wRead h cs (va_up I 169 (nI q2)) L A Q G J) H := hP
                    have hD : va_D A0 (wRead h cs (va_up I 169 (nI q2)) L A Q G J) := hD
                    refine lv_iadd hx hb dX4_takeNumber_112 ?_
                    refine lv_bipush (v := nI 48) hx hb dX4_takeNumber_113 (by decide) ?_
                    refine lv_isub hx hb dX4_takeNumber_115 ?_
                    refine lv_bipush (v := nI 10) hx hb dX4_takeNumber_116 (by decide) ?_
                    refine va_mmin hx hb (hml.trans hl.1.symm) hown (hts (.methodLink RX4 61 Lib.Math.min.name) (by decide +kernel)) (hts (.static Lib.Math.min.name) (by decide +kernel)) (hts (.initialized "java/lang/Math") (by decide +kernel)) (hts (.code Lib.Math.min.name Lib.Math.min.code 2 (some .int)) (by decide +kernel)) (Nat.le_of_ble_eq_true rfl) (Nat.le_of_ble_eq_true rfl) (Nat.zero_le _) (Nat.zero_le _) dX4_takeNumber_118 ?_
                    refine lv_topi (fun x_52 ex_52 => ?_)
                    refine lv_istore_n (lv' := [(3, .int x_52), (0, .ref (h 104)), (1, .int (nI b1)), (2, .int (nI q))]) hx hb dX4_takeNumber_121 rfl hl (by decide) rfl (fun ls hl => ?_)
                    refine lv_aload_n hx hb dX4_takeNumber_122 rfl (lv_at hl 1 rfl) ?_
                    refine lv_dup hx hb dX4_takeNumber_123 rfl ?_
                    refine va_get (D := (dC, dI)) (ci := 4) (v := .int (nI q2)) (C := RX4) (T := TX4) (N := 6) hx hb hts hinX4 hown hK hP 0 rfl rfl 5 (by decide) (hts (.fieldLink RX4 30 "MixedWords$Reader" "place" "I") (by decide +kernel)) (fun _ h9 => h9) rfl dX4_takeNumber_124 ?_
                    refine lv_iconst (v := nI 1) hx hb dX4_takeNumber_127 (by decide) ?_
                    refine lv_iadd hx hb dX4_takeNumber_128 ?_
                    refine xt_i (y := nI (q2 + 1)) (nI_add _ _) ?_
                    refine va_put (D := (dC, dI)) (ci := 4) (v := .int (nI (q2 + 1))) (ty := .int) (C := RX4) (T := TX4) (N := 6) hx hb hts hinX4 tyX4 tyX4_ok nmX4 hown hK hP hD hS 0 rfl rfl 5 (by decide) (hts (.fieldLink RX4 30 "MixedWords$Reader" "place" "I") (by decide +kernel)) (fun _ h9 => h9) rfl (by decide +kernel) rfl rfl (Nat.le_of_ble_eq_true rfl) dX4_takeNumber_129 (fun H locs hP hD hS => ?_)
                    have hP : va_P (dC, dI) vwCl (wRead h cs (va_up I 169 (nI (q2 + 1))) L A Q G J) H := hP
                    have hD : va_D A0 (wRead h cs (va_up I 169 (nI (q2 + 1))) L A Q G J) := hD
                    refine lv_goto (tgt := 76) hx hb dX4_takeNumber_132 (by decide) ?_
                    exact ih_76 (q2 + 1) x_52 (by omega) (by first | assumption | omega) (by first | assumption | omega) _ _ _ hP hD hS (lv_sub hl [1, 2, 3, 0] rfl)
            exact cut_76 _ q (nI 0) (Nat.lt_succ_self _) (by first | assumption | omega) (by first | assumption | omega) _ _ _ hP hD hS (lv_sub hl [2, 3, 1, 0] rfl)
          · skip
            refine lv_iconst (v := nI 0) hx hb dX4_takeNumber_67 (by decide) ?_
            exact xr_z (v := (nI 0)) hx hb hr hlocks hK hS dX4_takeNumber_68 (rfl) ((va_up (va_up I 169 (nI q)) 168 (I 168)), L, A, Q, (va_up G 1 (G 1)), J) ⟨(nI q), (I 168), (G 1), ⟨q, by omega, by omega, rfl, Or.inr ⟨rfl, rfl⟩⟩, rfl⟩ hP hD
    exact cut_44 1 q_33 (by first | assumption | omega) (by first | assumption | omega) (by first | assumption | omega) _ _ _ hP hD hS (lv_sub hl [1, 0] rfl)
set_option maxRecDepth 20000 in
theorem ggX4_parse_X4_takeNumber : GoodIn wsX4_parse wsX4_takeNumber := goodIn_r _ [10, 5, 4, 1, 3, 11, 12, 13, 14, 15, 16, 17, 18, 19, 9, 20, 21, 22, 23, 24, 25, 26, 27, 28, 29, 30, 31, 44, 45, 46, 47, 48, 49, 50, 51] (by decide +kernel) (by decide +kernel)
set_option maxRecDepth 20000 in
theorem gX4_parse_X4_takeNumber : GoodIn wsX4_parse (wsV RX4 33 RX4 yX4_takeNumber wsX4_takeNumber) := goodIn_app (goodIn_of _ (by decide +kernel)) ggX4_parse_X4_takeNumber
set_option maxRecDepth 20000 in
theorem ggX4_parse_X4_skipBlanks : GoodIn wsX4_parse wsX4_skipBlanks := goodIn_r _ [20, 4, 5, 11, 21, 22, 23, 24, 25, 26, 27, 44, 45, 46, 47, 48, 49, 50, 51] (by decide +kernel) (by decide +kernel)
set_option maxRecDepth 20000 in
theorem gX4_parse_X4_skipBlanks : GoodIn wsX4_parse (wsV RX4 37 RX4 yX4_skipBlanks wsX4_skipBlanks) := goodIn_app (goodIn_of _ (by decide +kernel)) ggX4_parse_X4_skipBlanks
set_option maxRecDepth 20000 in
theorem ggX4_parse_X7_at : GoodIn wsX4_parse wsX7_at := goodIn_r _ [25, 26, 27, 50, 51] (by decide +kernel) (by decide +kernel)
set_option maxRecDepth 20000 in
theorem gX4_parse_X7_at : GoodIn wsX4_parse (wsV RX4 40 RX7 yX7_at wsX7_at) := goodIn_app (goodIn_of _ (by decide +kernel)) ggX4_parse_X7_at
set_option maxRecDepth 20000 in
theorem ggX4_parse_X4_isRowWhole : GoodIn wsX4_parse wsX4_isRowWhole := goodIn_r _ [35, 1, 3, 2, 44, 45, 46, 47, 48, 49] (by decide +kernel) (by decide +kernel)
set_option maxRecDepth 20000 in
theorem gX4_parse_X4_isRowWhole : GoodIn wsX4_parse (wsV RX4 46 RX4 yX4_isRowWhole wsX4_isRowWhole) := goodIn_app (goodIn_of _ (by decide +kernel)) ggX4_parse_X4_isRowWhole
set_option maxRecDepth 20000 in
theorem ggX4_parse_X4_endRow : GoodIn wsX4_parse wsX4_endRow := goodIn_r _ [39, 3, 2, 1, 44, 45, 46, 47, 48, 49] (by decide +kernel) (by decide +kernel)
set_option maxRecDepth 20000 in
theorem gX4_parse_X4_endRow : GoodIn wsX4_parse (wsV RX4 49 RX4 yX4_endRow wsX4_endRow) := goodIn_app (goodIn_of _ (by decide +kernel)) ggX4_parse_X4_endRow
set_option maxRecDepth 20000 in
theorem ggX4_parse_X4_takeSign : GoodIn wsX4_parse wsX4_takeSign := goodIn_r _ [43, 5, 4, 3, 1, 2, 21, 22, 23, 24, 25, 26, 27, 32, 33, 34, 9, 35, 36, 37, 38, 39, 44, 45, 46, 47, 48, 49, 50, 51] (by decide +kernel) (by decide +kernel)
set_option maxRecDepth 20000 in
theorem gX4_parse_X4_takeSign : GoodIn wsX4_parse (wsV RX4 52 RX4 yX4_takeSign wsX4_takeSign) := goodIn_app (goodIn_of _ (by decide +kernel)) ggX4_parse_X4_takeSign
theorem bdX4_parse_0 : (decode cX4_parse 0 = .ok (.aload_n 0, 1)) ∧ (decode cX4_parse 1 = .ok (.iconst 0, 1)) ∧ (decode cX4_parse 2 = .ok (.putfield 20, 3)) ∧ (decode cX4_parse 5 = .ok (.aload_n 0, 1)) ∧ (decode cX4_parse 6 = .ok (.iconst 0, 1)) ∧ (decode cX4_parse 7 = .ok (.putfield 24, 3)) ∧ (decode cX4_parse 10 = .ok (.aload_n 0, 1)) ∧ (decode cX4_parse 11 = .ok (.iconst 0, 1)) ∧ (decode cX4_parse 12 = .ok (.putfield 27, 3)) ∧ (decode cX4_parse 15 = .ok (.aload_n 0, 1)) ∧ (decode cX4_parse 16 = .ok (.iconst 0, 1)) ∧ (decode cX4_parse 17 = .ok (.putfield 30, 3)) ∧ (decode cX4_parse 20 = .ok (.iconst 0, 1)) ∧ (decode cX4_parse 21 = .ok (.istore_n 1, 1)) ∧ (decode cX4_parse 22 = .ok (.iload_n 1, 1)) ∧ (decode cX4_parse 23 = .ok (.bipush 20, 2)) := by decide +kernel
theorem dX4_parse_0 : decode cX4_parse 0 = .ok (.aload_n 0, 1) := bdX4_parse_0.1
theorem dX4_parse_1 : decode cX4_parse 1 = .ok (.iconst 0, 1) := bdX4_parse_0.2.1
theorem dX4_parse_2 : decode cX4_parse 2 = .ok (.putfield 20, 3) := bdX4_parse_0.2.2.1
theorem dX4_parse_5 : decode cX4_parse 5 = .ok (.aload_n 0, 1) := bdX4_parse_0.2.2.2.1
theorem dX4_parse_6 : decode cX4_parse 6 = .ok (.iconst 0, 1) := bdX4_parse_0.2.2.2.2.1
theorem dX4_parse_7 : decode cX4_parse 7 = .ok (.putfield 24, 3) := bdX4_parse_0.2.2.2.2.2.1
theorem dX4_parse_10 : decode cX4_parse 10 = .ok (.aload_n 0, 1) := bdX4_parse_0.2.2.2.2.2.2.1
theorem dX4_parse_11 : decode cX4_parse 11 = .ok (.iconst 0, 1) := bdX4_parse_0.2.2.2.2.2.2.2.1
theorem dX4_parse_12 : decode cX4_parse 12 = .ok (.putfield 27, 3) := bdX4_parse_0.2.2.2.2.2.2.2.2.1
theorem dX4_parse_15 : decode cX4_parse 15 = .ok (.aload_n 0, 1) := bdX4_parse_0.2.2.2.2.2.2.2.2.2.1
theorem dX4_parse_16 : decode cX4_parse 16 = .ok (.iconst 0, 1) := bdX4_parse_0.2.2.2.2.2.2.2.2.2.2.1
theorem dX4_parse_17 : decode cX4_parse 17 = .ok (.putfield 30, 3) := bdX4_parse_0.2.2.2.2.2.2.2.2.2.2.2.1
theorem dX4_parse_20 : decode cX4_parse 20 = .ok (.iconst 0, 1) := bdX4_parse_0.2.2.2.2.2.2.2.2.2.2.2.2.1
theorem dX4_parse_21 : decode cX4_parse 21 = .ok (.istore_n 1, 1) := bdX4_parse_0.2.2.2.2.2.2.2.2.2.2.2.2.2.1
theorem dX4_parse_22 : decode cX4_parse 22 = .ok (.iload_n 1, 1) := bdX4_parse_0.2.2.2.2.2.2.2.2.2.2.2.2.2.2.1
theorem dX4_parse_23 : decode cX4_parse 23 = .ok (.bipush 20, 2) := bdX4_parse_0.2.2.2.2.2.2.2.2.2.2.2.2.2.2.2
theorem bdX4_parse_25 : (decode cX4_parse 25 = .ok (.if_icmp .ge 71, 3)) ∧ (decode cX4_parse 28 = .ok (.aload_n 0, 1)) ∧ (decode cX4_parse 29 = .ok (.invokevirtual 33, 3)) ∧ (decode cX4_parse 32 = .ok (.ifCond .ne 11, 3)) ∧ (decode cX4_parse 35 = .ok (.bipush (-20), 2)) ∧ (decode cX4_parse 37 = .ok (.aload_n 0, 1)) ∧ (decode cX4_parse 38 = .ok (.getfield 30, 3)) ∧ (decode cX4_parse 41 = .ok (.isub, 1)) ∧ (decode cX4_parse 42 = .ok (.ireturn, 1)) ∧ (decode cX4_parse 43 = .ok (.aload_n 0, 1)) ∧ (decode cX4_parse 44 = .ok (.invokevirtual 37, 3)) ∧ (decode cX4_parse 47 = .ok (.aload_n 0, 1)) ∧ (decode cX4_parse 48 = .ok (.getfield 16, 3)) ∧ (decode cX4_parse 51 = .ok (.aload_n 0, 1)) ∧ (decode cX4_parse 52 = .ok (.getfield 30, 3)) ∧ (decode cX4_parse 55 = .ok (.invokevirtual 40, 3)) := by decide +kernel
theorem dX4_parse_25 : decode cX4_parse 25 = .ok (.if_icmp .ge 71, 3) := bdX4_parse_25.1
theorem dX4_parse_28 : decode cX4_parse 28 = .ok (.aload_n 0, 1) := bdX4_parse_25.2.1
theorem dX4_parse_29 : decode cX4_parse 29 = .ok (.invokevirtual 33, 3) := bdX4_parse_25.2.2.1
theorem dX4_parse_32 : decode cX4_parse 32 = .ok (.ifCond .ne 11, 3) := bdX4_parse_25.2.2.2.1
theorem dX4_parse_35 : decode cX4_parse 35 = .ok (.bipush (-20), 2) := bdX4_parse_25.2.2.2.2.1
theorem dX4_parse_37 : decode cX4_parse 37 = .ok (.aload_n 0, 1) := bdX4_parse_25.2.2.2.2.2.1
theorem dX4_parse_38 : decode cX4_parse 38 = .ok (.getfield 30, 3) := bdX4_parse_25.2.2.2.2.2.2.1
theorem dX4_parse_41 : decode cX4_parse 41 = .ok (.isub, 1) := bdX4_parse_25.2.2.2.2.2.2.2.1
theorem dX4_parse_42 : decode cX4_parse 42 = .ok (.ireturn, 1) := bdX4_parse_25.2.2.2.2.2.2.2.2.1
theorem dX4_parse_43 : decode cX4_parse 43 = .ok (.aload_n 0, 1) := bdX4_parse_25.2.2.2.2.2.2.2.2.2.1
theorem dX4_parse_44 : decode cX4_parse 44 = .ok (.invokevirtual 37, 3) := bdX4_parse_25.2.2.2.2.2.2.2.2.2.2.1
theorem dX4_parse_47 : decode cX4_parse 47 = .ok (.aload_n 0, 1) := bdX4_parse_25.2.2.2.2.2.2.2.2.2.2.2.1
theorem dX4_parse_48 : decode cX4_parse 48 = .ok (.getfield 16, 3) := bdX4_parse_25.2.2.2.2.2.2.2.2.2.2.2.2.1
theorem dX4_parse_51 : decode cX4_parse 51 = .ok (.aload_n 0, 1) := bdX4_parse_25.2.2.2.2.2.2.2.2.2.2.2.2.2.1
theorem dX4_parse_52 : decode cX4_parse 52 = .ok (.getfield 30, 3) := bdX4_parse_25.2.2.2.2.2.2.2.2.2.2.2.2.2.2.1
theorem dX4_parse_55 : decode cX4_parse 55 = .ok (.invokevirtual 40, 3) := bdX4_parse_25.2.2.2.2.2.2.2.2.2.2.2.2.2.2.2
theorem bdX4_parse_58 : (decode cX4_parse 58 = .ok (.iconst (-1), 1)) ∧ (decode cX4_parse 59 = .ok (.if_icmp .ne 16, 3)) ∧ (decode cX4_parse 62 = .ok (.aload_n 0, 1)) ∧ (decode cX4_parse 63 = .ok (.invokevirtual 46, 3)) ∧ (decode cX4_parse 66 = .ok (.ifCond .eq 9, 3)) ∧ (decode cX4_parse 69 = .ok (.aload_n 0, 1)) ∧ (decode cX4_parse 70 = .ok (.invokevirtual 49, 3)) ∧ (decode cX4_parse 73 = .ok (.iconst 0, 1)) ∧ (decode cX4_parse 74 = .ok (.ireturn, 1)) ∧ (decode cX4_parse 75 = .ok (.aload_n 0, 1)) ∧ (decode cX4_parse 76 = .ok (.invokevirtual 52, 3)) ∧ (decode cX4_parse 79 = .ok (.ifCond .ne 11, 3)) ∧ (decode cX4_parse 82 = .ok (.bipush (-20), 2)) ∧ (decode cX4_parse 84 = .ok (.aload_n 0, 1)) ∧ (decode cX4_parse 85 = .ok (.getfield 30, 3)) ∧ (decode cX4_parse 88 = .ok (.isub, 1)) := by decide +kernel
theorem dX4_parse_58 : decode cX4_parse 58 = .ok (.iconst (-1), 1) := bdX4_parse_58.1
theorem dX4_parse_59 : decode cX4_parse 59 = .ok (.if_icmp .ne 16, 3) := bdX4_parse_58.2.1
theorem dX4_parse_62 : decode cX4_parse 62 = .ok (.aload_n 0, 1) := bdX4_parse_58.2.2.1
theorem dX4_parse_63 : decode cX4_parse 63 = .ok (.invokevirtual 46, 3) := bdX4_parse_58.2.2.2.1
theorem dX4_parse_66 : decode cX4_parse 66 = .ok (.ifCond .eq 9, 3) := bdX4_parse_58.2.2.2.2.1
theorem dX4_parse_69 : decode cX4_parse 69 = .ok (.aload_n 0, 1) := bdX4_parse_58.2.2.2.2.2.1
theorem dX4_parse_70 : decode cX4_parse 70 = .ok (.invokevirtual 49, 3) := bdX4_parse_58.2.2.2.2.2.2.1
theorem dX4_parse_73 : decode cX4_parse 73 = .ok (.iconst 0, 1) := bdX4_parse_58.2.2.2.2.2.2.2.1
theorem dX4_parse_74 : decode cX4_parse 74 = .ok (.ireturn, 1) := bdX4_parse_58.2.2.2.2.2.2.2.2.1
theorem dX4_parse_75 : decode cX4_parse 75 = .ok (.aload_n 0, 1) := bdX4_parse_58.2.2.2.2.2.2.2.2.2.1
theorem dX4_parse_76 : decode cX4_parse 76 = .ok (.invokevirtual 52, 3) := bdX4_parse_58.2.2.2.2.2.2.2.2.2.2.1
theorem dX4_parse_79 : decode cX4_parse 79 = .ok (.ifCond .ne 11, 3) := bdX4_parse_58.2.2.2.2.2.2.2.2.2.2.2.1
theorem dX4_parse_82 : decode cX4_parse 82 = .ok (.bipush (-20), 2) := bdX4_parse_58.2.2.2.2.2.2.2.2.2.2.2.2.1
theorem dX4_parse_84 : decode cX4_parse 84 = .ok (.aload_n 0, 1) := bdX4_parse_58.2.2.2.2.2.2.2.2.2.2.2.2.2.1
theorem dX4_parse_85 : decode cX4_parse 85 = .ok (.getfield 30, 3) := bdX4_parse_58.2.2.2.2.2.2.2.2.2.2.2.2.2.2.1
theorem dX4_parse_88 : decode cX4_parse 88 = .ok (.isub, 1) := bdX4_parse_58.2.2.2.2.2.2.2.2.2.2.2.2.2.2.2
theorem bdX4_parse_89 : (decode cX4_parse 89 = .ok (.ireturn, 1)) ∧ (decode cX4_parse 90 = .ok (.iinc 1 1, 3)) ∧ (decode cX4_parse 93 = .ok (.goto (-71), 3)) ∧ (decode cX4_parse 96 = .ok (.bipush (-20), 2)) ∧ (decode cX4_parse 98 = .ok (.aload_n 0, 1)) ∧ (decode cX4_parse 99 = .ok (.getfield 30, 3)) ∧ (decode cX4_parse 102 = .ok (.isub, 1)) ∧ (decode cX4_parse 103 = .ok (.ireturn, 1)) := by decide +kernel
theorem dX4_parse_89 : decode cX4_parse 89 = .ok (.ireturn, 1) := bdX4_parse_89.1
theorem dX4_parse_90 : decode cX4_parse 90 = .ok (.iinc 1 1, 3) := bdX4_parse_89.2.1
theorem dX4_parse_93 : decode cX4_parse 93 = .ok (.goto (-71), 3) := bdX4_parse_89.2.2.1
theorem dX4_parse_96 : decode cX4_parse 96 = .ok (.bipush (-20), 2) := bdX4_parse_89.2.2.2.1
theorem dX4_parse_98 : decode cX4_parse 98 = .ok (.aload_n 0, 1) := bdX4_parse_89.2.2.2.2.1
theorem dX4_parse_99 : decode cX4_parse 99 = .ok (.getfield 30, 3) := bdX4_parse_89.2.2.2.2.2.1
theorem dX4_parse_102 : decode cX4_parse 102 = .ok (.isub, 1) := bdX4_parse_89.2.2.2.2.2.2.1
theorem dX4_parse_103 : decode cX4_parse 103 = .ok (.ireturn, 1) := bdX4_parse_89.2.2.2.2.2.2.2
set_option maxHeartbeats 4000000 in
set_option maxRecDepth 100000 in
theorem k_X4_parse (l : Launch) (dC : Nat → ClassId) (dI : Nat → Nat → Nat) (h : Nat → Nat) (cs : Nat → ClassId) (sz : Nat) (I : Nat → Int32) (L : Nat → Int64) (A : Nat → Nat → Int32) (Q : Nat → Nat → Int64) (G : Nat → Nat → Nat → Int32) (J : Nat → Nat → Nat → Int64) (T : Nat) (hT : I 151 = nI T) (hT9 : T ≤ 90) : Met l yX4_parse wsX4_parse ({ frames := 3, cells := 0, slots := 0, locals := 83 }) (va_Pc [.ref (h 104)] (xPre (dC, dI) (wRead h cs I L A Q G J) (tysA cs) sz)) (va_Qi (fun (r : Int32) (u : CS) => ∃ i166 : Int32, ∃ i167 : Int32, ∃ i168 : Int32, ∃ i169 : Int32, ∃ g1 : Nat → Nat → Int32, ((r = nI 0 ∧ ∃ h7 w7 : Nat, 1 ≤ h7 ∧ h7 ≤ 5 ∧ 1 ≤ w7 ∧ w7 ≤ 4 ∧ i166 = nI h7 ∧ i167 = nI w7) ∨ (∃ q : Nat, q ≤ T ∧ r = -20 - nI q)) ∧ u = ((va_up (va_up (va_up (va_up I 166 i166) 167 i167) 168 i168) 169 i169), L, A, Q, (va_up G 1 g1), J)) (xB (dC, dI) (tysA cs) (va_A (wRead h cs I L A Q G J) sz) (fun u : CS => wRead h cs u.1 u.2.1 u.2.2.1 u.2.2.2.1 u.2.2.2.2.1 u.2.2.2.2.2)) (va_A (wRead h cs I L A Q G J) sz)) 0 0 (va_A (wRead h cs I L A Q G J) sz) := by
  refine Met.ofW (cc := cX4_parse) (maxL := 2) (ret := (some .int)) (by decide) rfl ?_
  intro p e s m args below meth c s₁ B hml hv
  obtain ⟨rfl, hsz, hP, hK, hD0, hN⟩ := hv
  have hx := B.exec
  have hb := B.bytes
  have hr := B.returns
  have hts := atoms_spec (ws := wsX4_parse) B.pre
  have hown : s.vm.findClass RX4 = some m.cls := findClass_of_methodNamed B.named
  have hlocks := B.notSynchronized
  subst hsz
  have hD := hD0.self (sz := s.heap.size)
  generalize hAe : va_A (wRead h cs I L A Q G J) s.heap.size = A0 at hD ⊢
  have hA : ∀ q : Nat, s.heap.size ≤ q → A0 q := fun q h => by rw [← hAe]; exact Or.inr h
  have hl := lv_entry ([.ref (h 104)]) (n := 2) (Nat.le_of_ble_eq_true rfl)
  rw [lg_entry_eq]
  generalize (lg_sl ([.ref (h 104)]) ++ List.replicate (2 - (lg_sl ([.ref (h 104)])).length) Slot.unset).toArray = ls at hl ⊢
  have hl : lv_has ls 2 [(0, .ref (h 104))] := hl
  generalize hH : s.heap = H at hP ⊢
  have hS : va_S A0 s.heap H [] := by rw [← hH]; exact va_S.rf
  have hinX4 : ∀ w ∈ wsX40, w ∈ wsX4_parse := by decide +kernel
  refine lv_aload_n hx hb dX4_parse_0 rfl (lv_at hl 0 rfl) ?_
  refine lv_iconst (v := nI 0) hx hb dX4_parse_1 (by decide) ?_
  refine va_put (D := (dC, dI)) (ci := 4) (v := .int (nI 0)) (ty := .int) (C := RX4) (T := TX4) (N := 6) hx hb hts hinX4 tyX4 tyX4_ok nmX4 hown hK hP hD hS 0 rfl rfl 2 (by decide) (hts (.fieldLink RX4 20 "MixedWords$Reader" "height" "I") (by decide +kernel)) (fun _ h9 => h9) rfl (by decide +kernel) rfl rfl (Nat.le_of_ble_eq_true rfl) dX4_parse_2 (fun H locs hP hD hS => ?_)
  have hP : va_P (dC, dI) vwCl (wRead h cs (va_up I 166 (nI 0)) L A Q G J) H := hP
  have hD : va_D A0 (wRead h cs (va_up I 166 (nI 0)) L A Q G J) := hD
  refine lv_aload_n hx hb dX4_parse_5 rfl (lv_at hl 0 rfl) ?_
  refine lv_iconst (v := nI 0) hx hb dX4_parse_6 (by decide) ?_
  refine va_put (D := (dC, dI)) (ci := 4) (v := .int (nI 0)) (ty := .int) (C := RX4) (T := TX4) (N := 6) hx hb hts hinX4 tyX4 tyX4_ok nmX4 hown hK hP hD hS 0 rfl rfl 3 (by decide) (hts (.fieldLink RX4 24 "MixedWords$Reader" "width" "I") (by decide +kernel)) (fun _ h9 => h9) rfl (by decide +kernel) rfl rfl (Nat.le_of_ble_eq_true rfl) dX4_parse_7 (fun H locs hP hD hS => ?_)
  have hP : va_P (dC, dI) vwCl (wRead h cs (va_up (va_up I 166 (nI 0)) 167 (nI 0)) L A Q G J) H := hP
  have hD : va_D A0 (wRead h cs (va_up (va_up I 166 (nI 0)) 167 (nI 0)) L A Q G J) := hD
  refine lv_aload_n hx hb dX4_parse_10 rfl (lv_at hl 0 rfl) ?_
  refine lv_iconst (v := nI 0) hx hb dX4_parse_11 (by decide) ?_
  refine va_put (D := (dC, dI)) (ci := 4) (v := .int (nI 0)) (ty := .int) (C := RX4) (T := TX4) (N := 6) hx hb hts hinX4 tyX4 tyX4_ok nmX4 hown hK hP hD hS 0 rfl rfl 4 (by decide) (hts (.fieldLink RX4 27 "MixedWords$Reader" "inRow" "I") (by decide +kernel)) (fun _ h9 => h9) rfl (by decide +kernel) rfl rfl (Nat.le_of_ble_eq_true rfl) dX4_parse_12 (fun H locs hP hD hS => ?_)
  have hP : va_P (dC, dI) vwCl (wRead h cs (va_up (va_up (va_up I 166 (nI 0)) 167 (nI 0)) 168 (nI 0)) L A Q G J) H := hP
  have hD : va_D A0 (wRead h cs (va_up (va_up (va_up I 166 (nI 0)) 167 (nI 0)) 168 (nI 0)) L A Q G J) := hD
  refine lv_aload_n hx hb dX4_parse_15 rfl (lv_at hl 0 rfl) ?_
  refine lv_iconst (v := nI 0) hx hb dX4_parse_16 (by decide) ?_
  refine va_put (D := (dC, dI)) (ci := 4) (v := .int (nI 0)) (ty := .int) (C := RX4) (T := TX4) (N := 6) hx hb hts hinX4 tyX4 tyX4_ok nmX4 hown hK hP hD hS 0 rfl rfl 5 (by decide) (hts (.fieldLink RX4 30 "MixedWords$Reader" "place" "I") (by decide +kernel)) (fun _ h9 => h9) rfl (by decide +kernel) rfl rfl (Nat.le_of_ble_eq_true rfl) dX4_parse_17 (fun H locs hP hD hS => ?_)
  have hP : va_P (dC, dI) vwCl (wRead h cs (va_up (va_up (va_up (va_up I 166 (nI 0)) 167 (nI 0)) 168 (nI 0)) 169 (nI 0)) L A Q G J) H := hP
  have hD : va_D A0 (wRead h cs (va_up (va_up (va_up (va_up I 166 (nI 0)) 167 (nI 0)) 168 (nI 0)) 169 (nI 0)) L A Q G J) := hD
  refine lv_iconst (v := nI 0) hx hb dX4_parse_20 (by decide) ?_
  refine lv_istore_n (lv' := [(1, .int (nI 0)), (0, .ref (h 104))]) hx hb dX4_parse_21 rfl hl (by decide) rfl (fun ls hl => ?_)
  have cut_22 : ∀ (nf : Nat) (n : Nat) (h6 : Nat) (w6 : Nat) (r6 : Nat) (q : Nat) (g1 : Nat → Nat → Int32), (20 - n) < nf → (n ≤ 20) → (h6 ≤ 4) → (w6 ≤ 4) → (r6 ≤ 4) → (q ≤ T) → ∀ (H : Heap) (locs : List Loc) (ls : Array Slot), va_P (dC, dI) vwCl (wRead h cs (va_up (va_up (va_up (va_up I 166 (nI h6)) 167 (nI w6)) 168 (nI r6)) 169 (nI q)) L A Q (va_up G 1 g1) J) H → va_D A0 (wRead h cs (va_up (va_up (va_up (va_up I 166 (nI h6)) 167 (nI w6)) 168 (nI r6)) 169 (nI q)) L A Q (va_up G 1 g1) J) → va_S A0 s.heap H locs → lv_has ls 2 [(0, .ref (h 104)), (1, .int (nI n))] → W p l e (headSpec wsX4_parse ({ frames := 3, cells := 0, slots := 0, locals := 83 })).room s m ([.ref (h 104)] : List Value).toArray below meth c H locs 0 0 (MQ below (va_Qi (fun (r : Int32) (u : CS) => ∃ i166 : Int32, ∃ i167 : Int32, ∃ i168 : Int32, ∃ i169 : Int32, ∃ g1 : Nat → Nat → Int32, ((r = nI 0 ∧ ∃ h7 w7 : Nat, 1 ≤ h7 ∧ h7 ≤ 5 ∧ 1 ≤ w7 ∧ w7 ≤ 4 ∧ i166 = nI h7 ∧ i167 = nI w7) ∨ (∃ q : Nat, q ≤ T ∧ r = -20 - nI q)) ∧ u = ((va_up (va_up (va_up (va_up I 166 i166) 167 i167) 168 i168) 169 i169), L, A, Q, (va_up G 1 g1), J)) (xB (dC, dI) (tysA cs) A0 (fun u : CS => wRead h cs u.1 u.2.1 u.2.2.1 u.2.2.2.1 u.2.2.2.2.1 u.2.2.2.2.2)) A0) ([.ref (h 104)] : List Value).toArray s 0 0 A0) (F0 m 22 ls []) := by
    intro nf
    induction nf with
    | zero => intro n h6 w6 r6 q g1 hm; exact absurd hm (Nat.not_lt_zero _)
    | succ nf ih_22 =>
      intro n h6 w6 r6 q g1 hm_22 hn22 hh22 hw22 hr22 hq22 H locs ls hP hD hS hl
      refine lv_iload_n hx hb dX4_parse_22 rfl (lv_at hl 1 rfl) ?_
      refine lv_bipush (v := nI 20) hx hb dX4_parse_23 (by decide) ?_
      refine xn_ge (tgt := 96) hx hb dX4_parse_25 (by decide) (by omega) (by omega) (fun c_25_0 => ?_) (fun c_25_0 => ?_)
      · skip
        refine lv_bipush (v := (-20)) hx hb dX4_parse_96 (by decide) ?_
        refine lv_aload_n hx hb dX4_parse_98 rfl (lv_at hl 0 rfl) ?_
        refine va_get (D := (dC, dI)) (ci := 4) (v := .int (nI q)) (C := RX4) (T := TX4) (N := 6) hx hb hts hinX4 hown hK hP 0 rfl rfl 5 (by decide) (hts (.fieldLink RX4 30 "MixedWords$Reader" "place" "I") (by decide +kernel)) (fun _ h9 => h9) rfl dX4_parse_99 ?_
        refine lv_isub hx hb dX4_parse_102 ?_
        exact xr_i (v := ((-20) - (nI q))) hx hb hr hlocks hK hS dX4_parse_103 ((va_up (va_up (va_up (va_up I 166 (nI h6)) 167 (nI w6)) 168 (nI r6)) 169 (nI q)), L, A, Q, (va_up G 1 g1), J) ⟨(nI h6), (nI w6), (nI r6), (nI q), g1, (Or.inr ⟨q, by omega, rfl⟩), rfl⟩ hP hD
      · skip
        refine lv_aload_n hx hb dX4_parse_28 rfl (lv_at hl 0 rfl) ?_
        refine xj_i (wc := (wRead h cs (va_up (va_up (va_up (va_up I 166 (nI h6)) 167 (nI w6)) 168 (nI r6)) 169 (nI q)) L A Q (va_up G 1 g1) J)) (wr := ([] : va_W)) hP hD hS hA [0, 1, 2, 3, 4, 5, 6, 7, 8] [] rfl rfl (by decide) (by decide) (va_runV (As := []) (rest := []) ⟨hx, hb, hml, hown, hts⟩ (k_X4_takeNumber l dC dI h cs H.size (va_up (va_up (va_up (va_up I 166 (nI h6)) 167 (nI w6)) 168 (nI r6)) 169 (nI q)) L A Q (va_up G 1 g1) J T q h6 r6 hT (by first | assumption | omega | exact hT9) rfl (by first | assumption | omega) rfl (by first | assumption | omega) rfl (by first | assumption | omega)) (cwV 0 hts gX4_parse_X4_takeNumber rfl rfl rfl (by decide +kernel) ⟨Nat.le_of_ble_eq_true rfl, Nat.le_of_ble_eq_true rfl⟩) (xpV (wc := (wRead h cs (va_up (va_up (va_up (va_up I 166 (nI h6)) 167 (nI w6)) 168 (nI r6)) 169 (nI q)) L A Q (va_up G 1 g1) J)) hP hD hK hN [0, 1, 2, 3, 4, 5, 6, 7, 8] rfl (by decide) 0 (ci := 4) rfl rfl _) rfl rfl hl.1 rfl (lv_room (Nat.le_of_ble_eq_true rfl)) dX4_parse_29 ⟨Nat.zero_le _, Nat.zero_le _⟩) (fun r_3 u_2 H locs hw hP hD hS => ?_)
        obtain ⟨i169_4, i168_5, g1_6, hf_7, rfl⟩ := hw
        have hP : va_P (dC, dI) vwCl (wRead h cs (va_up (va_up (va_up (va_up I 166 (nI h6)) 167 (nI w6)) 169 i169_4) 168 i168_5) L A Q (va_up G 1 g1_6) J) H := hP
        have hD : va_D A0 (wRead h cs (va_up (va_up (va_up (va_up I 166 (nI h6)) 167 (nI w6)) 169 i169_4) 168 i168_5) L A Q (va_up G 1 g1_6) J) := hD
        obtain ⟨q_8, hq_9, hq_10, rfl, ⟨rfl, hq_11, rfl⟩ | ⟨rfl, rfl⟩⟩ := hf_7
        · skip
          refine lv_if_ne (tgt := 43) hx hb dX4_parse_32 (by decide) (fun _ => ?_) (fun c9 => False.elim (by revert c9; decide +kernel))
          refine lv_aload_n hx hb dX4_parse_43 rfl (lv_at hl 0 rfl) ?_
          refine xj_v (wc := (wRead h cs (va_up (va_up (va_up (va_up I 166 (nI h6)) 167 (nI w6)) 169 (nI q_8)) 168 (nI (r6 + 1))) L A Q (va_up G 1 g1_6) J)) (wr := ([] : va_W)) hP hD hS hA [0, 1, 2, 3, 4, 5, 6, 7, 8] [] rfl rfl (by decide) (by decide) (va_runV (As := []) (rest := []) ⟨hx, hb, hml, hown, hts⟩ (k_X4_skipBlanks l dC dI h cs H.size (va_up (va_up (va_up (va_up I 166 (nI h6)) 167 (nI w6)) 169 (nI q_8)) 168 (nI (r6 + 1))) L A Q (va_up G 1 g1_6) J T q_8 hT (by first | assumption | omega | exact hT9) rfl (by first | assumption | omega)) (cwV 0 hts gX4_parse_X4_skipBlanks rfl rfl rfl (by decide +kernel) ⟨Nat.le_of_ble_eq_true rfl, Nat.le_of_ble_eq_true rfl⟩) (xpV (wc := (wRead h cs (va_up (va_up (va_up (va_up I 166 (nI h6)) 167 (nI w6)) 169 (nI q_8)) 168 (nI (r6 + 1))) L A Q (va_up G 1 g1_6) J)) hP hD hK hN [0, 1, 2, 3, 4, 5, 6, 7, 8] rfl (by decide) 0 (ci := 4) rfl rfl _) rfl rfl hl.1 rfl (lv_room (Nat.le_of_ble_eq_true rfl)) dX4_parse_44 ⟨Nat.zero_le _, Nat.zero_le _⟩) (fun u_12 H locs hw hP hD hS => ?_)
          obtain ⟨i169_14, hf_15, rfl⟩ := hw
          have hP : va_P (dC, dI) vwCl (wRead h cs (va_up (va_up (va_up (va_up I 166 (nI h6)) 167 (nI w6)) 168 (nI (r6 + 1))) 169 i169_14) L A Q (va_up G 1 g1_6) J) H := hP
          have hD : va_D A0 (wRead h cs (va_up (va_up (va_up (va_up I 166 (nI h6)) 167 (nI w6)) 168 (nI (r6 + 1))) 169 i169_14) L A Q (va_up G 1 g1_6) J) := hD
          obtain ⟨q_16, hq_17, hq_18, rfl⟩ := hf_15
          refine lv_aload_n hx hb dX4_parse_47 rfl (lv_at hl 0 rfl) ?_
          refine va_get (D := (dC, dI)) (ci := 4) (v := .ref (h 103)) (C := RX4) (T := TX4) (N := 6) hx hb hts hinX4 hown hK hP 0 rfl rfl 0 (by decide) (hts (.fieldLink RX4 16 "MixedWords$Reader" "tape" "LMixedWords$Tape;") (by decide +kernel)) (fun _ h9 => h9) rfl dX4_parse_48 ?_
          refine lv_aload_n hx hb dX4_parse_51 rfl (lv_at hl 0 rfl) ?_
          refine va_get (D := (dC, dI)) (ci := 4) (v := .int (nI q_16)) (C := RX4) (T := TX4) (N := 6) hx hb hts hinX4 hown hK hP 0 rfl rfl 5 (by decide) (hts (.fieldLink RX4 30 "MixedWords$Reader" "place" "I") (by decide +kernel)) (fun _ h9 => h9) rfl dX4_parse_52 ?_
          refine xj_i (wc := (wTape h cs (va_up (va_up (va_up (va_up I 166 (nI h6)) 167 (nI w6)) 168 (nI (r6 + 1))) 169 (nI q_16)) L A Q (va_up G 1 g1_6) J)) (wr := [(h 104, .inr (4, [.ref (h 103), .ref (h 160), .int (nI h6), .int (nI w6), .int (nI (r6 + 1)), .int (nI q_16)])), (h 160, .inl (cs 3, 5, .inr (.inr (.inr (.inr (fun i => if i < 5 then some (h (i + 161)) else none)))))), (h 161, .inl (cs 0, 4, .inl (g1_6 0))), (h 162, .inl (cs 0, 4, .inl (g1_6 1))), (h 163, .inl (cs 0, 4, .inl (g1_6 2))), (h 164, .inl (cs 0, 4, .inl (g1_6 3))), (h 165, .inl (cs 0, 4, .inl (g1_6 4)))]) hP hD hS hA [7, 8] [0, 1, 2, 3, 4, 5, 6] rfl rfl (by decide) (by decide) (va_runV (As := [.int (nI q_16)]) (rest := []) ⟨hx, hb, hml, hown, hts⟩ (k_X7_at l dC dI h cs H.size (va_up (va_up (va_up (va_up I 166 (nI h6)) 167 (nI w6)) 168 (nI (r6 + 1))) 169 (nI q_16)) L A Q (va_up G 1 g1_6) J (nI q_16) T hT (by first | assumption | omega | exact hT9)) (cwV 1 hts gX4_parse_X7_at rfl rfl rfl (by decide +kernel) ⟨Nat.le_of_ble_eq_true rfl, Nat.le_of_ble_eq_true rfl⟩) (xpV (wc := (wTape h cs (va_up (va_up (va_up (va_up I 166 (nI h6)) 167 (nI w6)) 168 (nI (r6 + 1))) 169 (nI q_16)) L A Q (va_up G 1 g1_6) J)) hP hD hK hN [7, 8] rfl (by decide) 7 (ci := 7) rfl rfl _) rfl rfl hl.1 rfl (lv_room (Nat.le_of_ble_eq_true rfl)) dX4_parse_55 ⟨Nat.zero_le _, Nat.zero_le _⟩) (fun r_20 u_19 H locs hw hP hD hS => ?_)
          obtain ⟨hf_21, rfl⟩ := hw
          have hP : va_P (dC, dI) vwCl (wRead h cs (va_up (va_up (va_up (va_up I 166 (nI h6)) 167 (nI w6)) 168 (nI (r6 + 1))) 169 (nI q_16)) L A Q (va_up G 1 g1_6) J) H := hP
          have hD : va_D A0 (wRead h cs (va_up (va_up (va_up (va_up I 166 (nI h6)) 167 (nI w6)) 168 (nI (r6 + 1))) 169 (nI q_16)) L A Q (va_up G 1 g1_6) J) := hD
          clear hf_21
          refine lv_iconst (v := (-1)) hx hb dX4_parse_58 (by decide) ?_
          refine lv_icmp_ne (tgt := 75) hx hb dX4_parse_59 (by decide) (fun c_59_21 => ?_) (fun c_59_21 => ?_)
          · skip
            refine lv_aload_n hx hb dX4_parse_75 rfl (lv_at hl 0 rfl) ?_
            refine xj_i (wc := (wRead h cs (va_up (va_up (va_up (va_up I 166 (nI h6)) 167 (nI w6)) 168 (nI (r6 + 1))) 169 (nI q_16)) L A Q (va_up G 1 g1_6) J)) (wr := ([] : va_W)) hP hD hS hA [0, 1, 2, 3, 4, 5, 6, 7, 8] [] rfl rfl (by decide) (by decide) (va_runV (As := []) (rest := []) ⟨hx, hb, hml, hown, hts⟩ (k_X4_takeSign l dC dI h cs H.size (va_up (va_up (va_up (va_up I 166 (nI h6)) 167 (nI w6)) 168 (nI (r6 + 1))) 169 (nI q_16)) L A Q (va_up G 1 g1_6) J T q_16 h6 w6 (r6 + 1) hT (by first | assumption | omega | exact hT9) rfl (by first | assumption | omega) rfl (by first | assumption | omega) rfl (by first | assumption | omega) rfl (by first | assumption | omega)) (cwV 0 hts gX4_parse_X4_takeSign rfl rfl rfl (by decide +kernel) ⟨Nat.le_of_ble_eq_true rfl, Nat.le_of_ble_eq_true rfl⟩) (xpV (wc := (wRead h cs (va_up (va_up (va_up (va_up I 166 (nI h6)) 167 (nI w6)) 168 (nI (r6 + 1))) 169 (nI q_16)) L A Q (va_up G 1 g1_6) J)) hP hD hK hN [0, 1, 2, 3, 4, 5, 6, 7, 8] rfl (by decide) 0 (ci := 4) rfl rfl _) rfl rfl hl.1 rfl (lv_room (Nat.le_of_ble_eq_true rfl)) dX4_parse_76 ⟨Nat.zero_le _, Nat.zero_le _⟩) (fun r_24 u_23 H locs hw hP hD hS => ?_)
            obtain ⟨i166_25, i167_26, i168_27, i169_28, hf_29, rfl⟩ := hw
            have hP : va_P (dC, dI) vwCl (wRead h cs (va_up (va_up (va_up (va_up I 166 i166_25) 167 i167_26) 168 i168_27) 169 i169_28) L A Q (va_up G 1 g1_6) J) H := hP
            have hD : va_D A0 (wRead h cs (va_up (va_up (va_up (va_up I 166 i166_25) 167 i167_26) 168 i168_27) 169 i169_28) L A Q (va_up G 1 g1_6) J) := hD
            rcases hf_29 with ⟨rfl, h_30, w_31, r_32, q_33, hs_34, hs_35, hs_36, hs_37, rfl, rfl, rfl, rfl⟩ | ⟨rfl, rfl, rfl, rfl, rfl⟩
            · skip
              refine lv_if_ne (tgt := 90) hx hb dX4_parse_79 (by decide) (fun _ => ?_) (fun c9 => False.elim (by revert c9; decide +kernel))
              refine lv_iinc (v := nI (n + 1)) (lv' := [(1, .int (nI (n + 1))), (0, .ref (h 104))]) hx hb dX4_parse_90 hl (k := 1) rfl (nI_1 _) (by decide) rfl (fun ls hl => ?_)
              refine lv_goto (tgt := 22) hx hb dX4_parse_93 (by decide) ?_
              exact ih_22 (n + 1) h_30 w_31 r_32 q_33 g1_6 (by omega) (by first | assumption | omega) (by first | assumption | omega) (by first | assumption | omega) (by first | assumption | omega) (by first | assumption | omega) _ _ _ hP hD hS (lv_sub hl [1, 0] rfl)
            · skip
              refine lv_if_ne (tgt := 90) hx hb dX4_parse_79 (by decide) (fun c9 => False.elim (by revert c9; decide +kernel)) (fun _ => ?_)
              refine lv_bipush (v := (-20)) hx hb dX4_parse_82 (by decide) ?_
              refine lv_aload_n hx hb dX4_parse_84 rfl (lv_at hl 0 rfl) ?_
              refine va_get (D := (dC, dI)) (ci := 4) (v := .int (nI q_16)) (C := RX4) (T := TX4) (N := 6) hx hb hts hinX4 hown hK hP 0 rfl rfl 5 (by decide) (hts (.fieldLink RX4 30 "MixedWords$Reader" "place" "I") (by decide +kernel)) (fun _ h9 => h9) rfl dX4_parse_85 ?_
              refine lv_isub hx hb dX4_parse_88 ?_
              exact xr_i (v := ((-20) - (nI q_16))) hx hb hr hlocks hK hS dX4_parse_89 ((va_up (va_up (va_up (va_up I 166 (nI h6)) 167 (nI w6)) 168 (nI (r6 + 1))) 169 (nI q_16)), L, A, Q, (va_up G 1 g1_6), J) ⟨(nI h6), (nI w6), (nI (r6 + 1)), (nI q_16), g1_6, (Or.inr ⟨q_16, by omega, rfl⟩), rfl⟩ hP hD
          · skip
            refine lv_aload_n hx hb dX4_parse_62 rfl (lv_at hl 0 rfl) ?_
            refine xj_i (wc := (wRead h cs (va_up (va_up (va_up (va_up I 166 (nI h6)) 167 (nI w6)) 168 (nI (r6 + 1))) 169 (nI q_16)) L A Q (va_up G 1 g1_6) J)) (wr := ([] : va_W)) hP hD hS hA [0, 1, 2, 3, 4, 5, 6, 7, 8] [] rfl rfl (by decide) (by decide) (va_runV (As := []) (rest := []) ⟨hx, hb, hml, hown, hts⟩ (k_X4_isRowWhole l dC dI h cs H.size (va_up (va_up (va_up (va_up I 166 (nI h6)) 167 (nI w6)) 168 (nI (r6 + 1))) 169 (nI q_16)) L A Q (va_up G 1 g1_6) J h6 w6 (r6 + 1) rfl (by first | assumption | omega) rfl (by first | assumption | omega) rfl (by first | assumption | omega)) (cwV 0 hts gX4_parse_X4_isRowWhole rfl rfl rfl (by decide +kernel) ⟨Nat.le_of_ble_eq_true rfl, Nat.le_of_ble_eq_true rfl⟩) (xpV (wc := (wRead h cs (va_up (va_up (va_up (va_up I 166 (nI h6)) 167 (nI w6)) 168 (nI (r6 + 1))) 169 (nI q_16)) L A Q (va_up G 1 g1_6) J)) hP hD hK hN [0, 1, 2, 3, 4, 5, 6, 7, 8] rfl (by decide) 0 (ci := 4) rfl rfl _) rfl rfl hl.1 rfl (lv_room (Nat.le_of_ble_eq_true rfl)) dX4_parse_63 ⟨Nat.zero_le _, Nat.zero_le _⟩) (fun r_39 u_38 H locs hw hP hD hS => ?_)
            obtain ⟨hf_40, rfl⟩ := hw
            have hP : va_P (dC, dI) vwCl (wRead h cs (va_up (va_up (va_up (va_up I 166 (nI h6)) 167 (nI w6)) 168 (nI (r6 + 1))) 169 (nI q_16)) L A Q (va_up G 1 g1_6) J) H := hP
            have hD : va_D A0 (wRead h cs (va_up (va_up (va_up (va_up I 166 (nI h6)) 167 (nI w6)) 168 (nI (r6 + 1))) 169 (nI q_16)) L A Q (va_up G 1 g1_6) J) := hD
            rcases hf_40 with ⟨rfl, hrw_41⟩ | ⟨rfl, hrw_41, hrw_42⟩
            · skip
              refine lv_if_eq (tgt := 75) hx hb dX4_parse_66 (by decide) (fun c9 => False.elim (by revert c9; decide +kernel)) (fun _ => ?_)
              refine lv_aload_n hx hb dX4_parse_69 rfl (lv_at hl 0 rfl) ?_
              refine xj_v (wc := (wRead h cs (va_up (va_up (va_up (va_up I 166 (nI h6)) 167 (nI w6)) 168 (nI (r6 + 1))) 169 (nI q_16)) L A Q (va_up G 1 g1_6) J)) (wr := ([] : va_W)) hP hD hS hA [0, 1, 2, 3, 4, 5, 6, 7, 8] [] rfl rfl (by decide) (by decide) (va_runV (As := []) (rest := []) ⟨hx, hb, hml, hown, hts⟩ (k_X4_endRow l dC dI h cs H.size (va_up (va_up (va_up (va_up I 166 (nI h6)) 167 (nI w6)) 168 (nI (r6 + 1))) 169 (nI q_16)) L A Q (va_up G 1 g1_6) J h6 (r6 + 1) rfl (by first | assumption | omega) rfl (by first | assumption | omega)) (cwV 0 hts gX4_parse_X4_endRow rfl rfl rfl (by decide +kernel) ⟨Nat.le_of_ble_eq_true rfl, Nat.le_of_ble_eq_true rfl⟩) (xpV (wc := (wRead h cs (va_up (va_up (va_up (va_up I 166 (nI h6)) 167 (nI w6)) 168 (nI (r6 + 1))) 169 (nI q_16)) L A Q (va_up G 1 g1_6) J)) hP hD hK hN [0, 1, 2, 3, 4, 5, 6, 7, 8] rfl (by decide) 0 (ci := 4) rfl rfl _) rfl rfl hl.1 rfl (lv_room (Nat.le_of_ble_eq_true rfl)) dX4_parse_70 ⟨Nat.zero_le _, Nat.zero_le _⟩) (fun u_43 H locs hw hP hD hS => ?_)
              obtain ⟨i167_45, i168_46, i166_47, hf_48, rfl⟩ := hw
              have hP : va_P (dC, dI) vwCl (wRead h cs (va_up (va_up (va_up (va_up I 169 (nI q_16)) 167 i167_45) 168 i168_46) 166 i166_47) L A Q (va_up G 1 g1_6) J) H := hP
              have hD : va_D A0 (wRead h cs (va_up (va_up (va_up (va_up I 169 (nI q_16)) 167 i167_45) 168 i168_46) 166 i166_47) L A Q (va_up G 1 g1_6) J) := hD
              obtain ⟨rfl, rfl, rfl⟩ := hf_48
              refine lv_iconst (v := nI 0) hx hb dX4_parse_73 (by decide) ?_
              exact xr_i (v := (nI 0)) hx hb hr hlocks hK hS dX4_parse_74 ((va_up (va_up (va_up (va_up I 166 (nI (h6 + 1))) 167 (nI (r6 + 1))) 168 (nI 0)) 169 (nI q_16)), L, A, Q, (va_up G 1 g1_6), J) ⟨(nI (h6 + 1)), (nI (r6 + 1)), (nI 0), (nI q_16), g1_6, (Or.inl ⟨rfl, (h6 + 1), (r6 + 1), by omega, by omega, by omega, by omega, rfl, rfl⟩), rfl⟩ hP hD
            · skip
              refine lv_if_eq (tgt := 75) hx hb dX4_parse_66 (by decide) (fun _ => ?_) (fun c9 => False.elim (by revert c9; decide +kernel))
              refine lv_aload_n hx hb dX4_parse_75 rfl (lv_at hl 0 rfl) ?_
              refine xj_i (wc := (wRead h cs (va_up (va_up (va_up (va_up I 166 (nI h6)) 167 (nI w6)) 168 (nI (r6 + 1))) 169 (nI q_16)) L A Q (va_up G 1 g1_6) J)) (wr := ([] : va_W)) hP hD hS hA [0, 1, 2, 3, 4, 5, 6, 7, 8] [] rfl rfl (by decide) (by decide) (va_runV (As := []) (rest := []) ⟨hx, hb, hml, hown, hts⟩ (k_X4_takeSign l dC dI h cs H.size (va_up (va_up (va_up (va_up I 166 (nI h6)) 167 (nI w6)) 168 (nI (r6 + 1))) 169 (nI q_16)) L A Q (va_up G 1 g1_6) J T q_16 h6 w6 (r6 + 1) hT (by first | assumption | omega | exact hT9) rfl (by first | assumption | omega) rfl (by first | assumption | omega) rfl (by first | assumption | omega) rfl (by first | assumption | omega)) (cwV 0 hts gX4_parse_X4_takeSign rfl rfl rfl (by decide +kernel) ⟨Nat.le_of_ble_eq_true rfl, Nat.le_of_ble_eq_true rfl⟩) (xpV (wc := (wRead h cs (va_up (va_up (va_up (va_up I 166 (nI h6)) 167 (nI w6)) 168 (nI (r6 + 1))) 169 (nI q_16)) L A Q (va_up G 1 g1_6) J)) hP hD hK hN [0, 1, 2, 3, 4, 5, 6, 7, 8] rfl (by decide) 0 (ci := 4) rfl rfl _) rfl rfl hl.1 rfl (lv_room (Nat.le_of_ble_eq_true rfl)) dX4_parse_76 ⟨Nat.zero_le _, Nat.zero_le _⟩) (fun r_50 u_49 H locs hw hP hD hS => ?_)
              obtain ⟨i166_51, i167_52, i168_53, i169_54, hf_55, rfl⟩ := hw
              have hP : va_P (dC, dI) vwCl (wRead h cs (va_up (va_up (va_up (va_up I 166 i166_51) 167 i167_52) 168 i168_53) 169 i169_54) L A Q (va_up G 1 g1_6) J) H := hP
              have hD : va_D A0 (wRead h cs (va_up (va_up (va_up (va_up I 166 i166_51) 167 i167_52) 168 i168_53) 169 i169_54) L A Q (va_up G 1 g1_6) J) := hD
              rcases hf_55 with ⟨rfl, h_56, w_57, r_58, q_59, hs_60, hs_61, hs_62, hs_63, rfl, rfl, rfl, rfl⟩ | ⟨rfl, rfl, rfl, rfl, rfl⟩
              · skip
                refine lv_if_ne (tgt := 90) hx hb dX4_parse_79 (by decide) (fun _ => ?_) (fun c9 => False.elim (by revert c9; decide +kernel))
                refine lv_iinc (v := nI (n + 1)) (lv' := [(1, .int (nI (n + 1))), (0, .ref (h 104))]) hx hb dX4_parse_90 hl (k := 1) rfl (nI_1 _) (by decide) rfl (fun ls hl => ?_)
                refine lv_goto (tgt := 22) hx hb dX4_parse_93 (by decide) ?_
                exact ih_22 (n + 1) h_56 w_57 r_58 q_59 g1_6 (by omega) (by first | assumption | omega) (by first | assumption | omega) (by first | assumption | omega) (by first | assumption | omega) (by first | assumption | omega) _ _ _ hP hD hS (lv_sub hl [1, 0] rfl)
              · skip
                refine lv_if_ne (tgt := 90) hx hb dX4_parse_79 (by decide) (fun c9 => False.elim (by revert c9; decide +kernel)) (fun _ => ?_)
                refine lv_bipush (v := (-20)) hx hb dX4_parse_82 (by decide) ?_
                refine lv_aload_n hx hb dX4_parse_84 rfl (lv_at hl 0 rfl) ?_
                refine va_get (D := (dC, dI)) (ci := 4) (v := .int (nI q_16)) (C := RX4) (T := TX4) (N := 6) hx hb hts hinX4 hown hK hP 0 rfl rfl 5 (by decide) (hts (.fieldLink RX4 30 "MixedWords$Reader" "place" "I") (by decide +kernel)) (fun _ h9 => h9) rfl dX4_parse_85 ?_
                refine lv_isub hx hb dX4_parse_88 ?_
                exact xr_i (v := ((-20) - (nI q_16))) hx hb hr hlocks hK hS dX4_parse_89 ((va_up (va_up (va_up (va_up I 166 (nI h6)) 167 (nI w6)) 168 (nI (r6 + 1))) 169 (nI q_16)), L, A, Q, (va_up G 1 g1_6), J) ⟨(nI h6), (nI w6), (nI (r6 + 1)), (nI q_16), g1_6, (Or.inr ⟨q_16, by omega, rfl⟩), rfl⟩ hP hD
        · skip
          refine lv_if_ne (tgt := 43) hx hb dX4_parse_32 (by decide) (fun c9 => False.elim (by revert c9; decide +kernel)) (fun _ => ?_)
          refine lv_bipush (v := (-20)) hx hb dX4_parse_35 (by decide) ?_
          refine lv_aload_n hx hb dX4_parse_37 rfl (lv_at hl 0 rfl) ?_
          refine va_get (D := (dC, dI)) (ci := 4) (v := .int (nI q_8)) (C := RX4) (T := TX4) (N := 6) hx hb hts hinX4 hown hK hP 0 rfl rfl 5 (by decide) (hts (.fieldLink RX4 30 "MixedWords$Reader" "place" "I") (by decide +kernel)) (fun _ h9 => h9) rfl dX4_parse_38 ?_
          refine lv_isub hx hb dX4_parse_41 ?_
          exact xr_i (v := ((-20) - (nI q_8))) hx hb hr hlocks hK hS dX4_parse_42 ((va_up (va_up (va_up (va_up I 166 (nI h6)) 167 (nI w6)) 168 (nI r6)) 169 (nI q_8)), L, A, Q, (va_up G 1 g1_6), J) ⟨(nI h6), (nI w6), (nI r6), (nI q_8), g1_6, (Or.inr ⟨q_8, by omega, rfl⟩), rfl⟩ hP hD
  exact cut_22 _ 0 0 0 0 0 (G 1) (Nat.lt_succ_self _) (by first | assumption | omega) (by first | assumption | omega) (by first | assumption | omega) (by first | assumption | omega) (by first | assumption | omega) _ _ _ hP hD hS (lv_sub hl [1, 0] rfl)
