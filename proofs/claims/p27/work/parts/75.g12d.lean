theorem rg1 {x : Int32} {n : Nat} (hn : n < 2147483648) (h1 : ¬ x < nI 1) (h2 : x < nI n) : ∃ i : Nat, 1 ≤ i ∧ i < n ∧ x = nI i := by
  rw [Int32.lt_iff_toInt_lt, nI_toInt (by omega)] at h1
  rw [Int32.lt_iff_toInt_lt, nI_toInt hn] at h2
  obtain ⟨e, -⟩ := nI_at (x := x) (by omega)
  exact ⟨x.toInt.toNat, by omega, by omega, e⟩
set_option maxRecDepth 20000 in
theorem ggX9_worth_X2_worthOf : GoodIn wsX9_worth wsX2_worthOf := goodIn_r _ [9, 10, 11, 12, 13, 14, 15, 16, 17, 18, 19, 8, 20, 30, 31, 32, 33, 34, 35, 36, 37, 38, 39, 40] rfl (by decide +kernel)
set_option maxRecDepth 20000 in
theorem gX9_worth_X2_worthOf : GoodIn wsX9_worth (wsV RX9 180 RX2 yX2_worthOf wsX2_worthOf) := goodIn_app (goodIn_of _ (by decide +kernel)) ggX9_worth_X2_worthOf
theorem bdX9_worth_0 : (decode cX9_worth 0 = .ok (.iload_n 1, 1)) ∧ (decode cX9_worth 1 = .ok (.iconst 1, 1)) ∧ (decode cX9_worth 2 = .ok (.if_icmp .lt 16, 3)) ∧ (decode cX9_worth 5 = .ok (.iload_n 1, 1)) ∧ (decode cX9_worth 6 = .ok (.iconst 1, 1)) ∧ (decode cX9_worth 7 = .ok (.aload_n 0, 1)) ∧ (decode cX9_worth 8 = .ok (.getfield 12, 3)) ∧ (decode cX9_worth 11 = .ok (.getfield 106, 3)) ∧ (decode cX9_worth 14 = .ok (.ishl, 1)) ∧ (decode cX9_worth 15 = .ok (.if_icmp .lt 7, 3)) ∧ (decode cX9_worth 18 = .ok (.ldc2_w 178, 3)) ∧ (decode cX9_worth 21 = .ok (.lreturn, 1)) ∧ (decode cX9_worth 22 = .ok (.aload_n 0, 1)) ∧ (decode cX9_worth 23 = .ok (.getfield 51, 3)) ∧ (decode cX9_worth 26 = .ok (.aload_n 0, 1)) ∧ (decode cX9_worth 27 = .ok (.getfield 12, 3)) := by decide +kernel
theorem dX9_worth_0 : decode cX9_worth 0 = .ok (.iload_n 1, 1) := bdX9_worth_0.1
theorem dX9_worth_1 : decode cX9_worth 1 = .ok (.iconst 1, 1) := bdX9_worth_0.2.1
theorem dX9_worth_2 : decode cX9_worth 2 = .ok (.if_icmp .lt 16, 3) := bdX9_worth_0.2.2.1
theorem dX9_worth_5 : decode cX9_worth 5 = .ok (.iload_n 1, 1) := bdX9_worth_0.2.2.2.1
theorem dX9_worth_6 : decode cX9_worth 6 = .ok (.iconst 1, 1) := bdX9_worth_0.2.2.2.2.1
theorem dX9_worth_7 : decode cX9_worth 7 = .ok (.aload_n 0, 1) := bdX9_worth_0.2.2.2.2.2.1
theorem dX9_worth_8 : decode cX9_worth 8 = .ok (.getfield 12, 3) := bdX9_worth_0.2.2.2.2.2.2.1
theorem dX9_worth_11 : decode cX9_worth 11 = .ok (.getfield 106, 3) := bdX9_worth_0.2.2.2.2.2.2.2.1
theorem dX9_worth_14 : decode cX9_worth 14 = .ok (.ishl, 1) := bdX9_worth_0.2.2.2.2.2.2.2.2.1
theorem dX9_worth_15 : decode cX9_worth 15 = .ok (.if_icmp .lt 7, 3) := bdX9_worth_0.2.2.2.2.2.2.2.2.2.1
theorem dX9_worth_18 : decode cX9_worth 18 = .ok (.ldc2_w 178, 3) := bdX9_worth_0.2.2.2.2.2.2.2.2.2.2.1
theorem dX9_worth_21 : decode cX9_worth 21 = .ok (.lreturn, 1) := bdX9_worth_0.2.2.2.2.2.2.2.2.2.2.2.1
theorem dX9_worth_22 : decode cX9_worth 22 = .ok (.aload_n 0, 1) := bdX9_worth_0.2.2.2.2.2.2.2.2.2.2.2.2.1
theorem dX9_worth_23 : decode cX9_worth 23 = .ok (.getfield 51, 3) := bdX9_worth_0.2.2.2.2.2.2.2.2.2.2.2.2.2.1
theorem dX9_worth_26 : decode cX9_worth 26 = .ok (.aload_n 0, 1) := bdX9_worth_0.2.2.2.2.2.2.2.2.2.2.2.2.2.2.1
theorem dX9_worth_27 : decode cX9_worth 27 = .ok (.getfield 12, 3) := bdX9_worth_0.2.2.2.2.2.2.2.2.2.2.2.2.2.2.2
theorem bdX9_worth_30 : (decode cX9_worth 30 = .ok (.iload_n 1, 1)) ∧ (decode cX9_worth 31 = .ok (.invokevirtual 180, 3)) ∧ (decode cX9_worth 34 = .ok (.lreturn, 1)) := by decide +kernel
theorem dX9_worth_30 : decode cX9_worth 30 = .ok (.iload_n 1, 1) := bdX9_worth_30.1
theorem dX9_worth_31 : decode cX9_worth 31 = .ok (.invokevirtual 180, 3) := bdX9_worth_30.2.1
theorem dX9_worth_34 : decode cX9_worth 34 = .ok (.lreturn, 1) := bdX9_worth_30.2.2
set_option maxHeartbeats 4000000 in
set_option maxRecDepth 100000 in
theorem k_X9_worth (l : Launch) (dC : Nat → ClassId) (dI : Nat → Nat → Nat) (h : Nat → Nat) (cs : Nat → ClassId) (sz : Nat) (I : Nat → Int32) (L : Nat → Int64) (A : Nat → Nat → Int32) (Q : Nat → Nat → Int64) (G : Nat → Nat → Nat → Int32) (J : Nat → Nat → Nat → Int64) (x : Int32) (R M : Nat) (hR : I 120 = nI R) (hR1 : 1 ≤ R) (hR5 : R ≤ 5) (hM : I 121 = nI M) (hM1 : 1 ≤ M) (hM4 : M ≤ 4) : Met l yX9_worth wsX9_worth ({ frames := 6, cells := 0, slots := 0, locals := 165 }) (va_Pc [.ref (h 100), .int x] (xPre (dC, dI) (wFL h cs I L A Q G J) (tysA cs) sz)) (va_Ql (fun (r : Int64) (u : CS) => ∃ a186 : Nat → Int32, ∃ j0 : Nat → Nat → Int64, ((∃ i : Nat, 1 ≤ i ∧ i < 2 ^ M ∧ x = nI i ∧ r = lpD (gramC (G 0) R M x) (selC x M) 4 0 (nI 1 <<< (nI (selC x M) &&& 31) - nI 1)) ∨ (r = -1 ∧ ∀ i : Nat, 1 ≤ i → i < 2 ^ M → x ≠ nI i)) ∧ u = (I, L, (va_up A 186 a186), Q, G, (va_up J 0 j0))) (xB (dC, dI) (tysA cs) (va_A (wFL h cs I L A Q G J) sz) (fun u : CS => wFL h cs u.1 u.2.1 u.2.2.1 u.2.2.2.1 u.2.2.2.2.1 u.2.2.2.2.2)) (va_A (wFL h cs I L A Q G J) sz)) 0 0 (va_A (wFL h cs I L A Q G J) sz) := by
  refine Met.ofW (cc := cX9_worth) (maxL := 2) (ret := (some .long)) (by decide) rfl ?_
  intro p e s m args below meth c s₁ B hml hv
  obtain ⟨rfl, hsz, hP, hK, hD0, hN⟩ := hv
  have hx := B.exec
  have hb := B.bytes
  have hr := B.returns
  have hts := atoms_spec (ws := wsX9_worth) B.pre
  have hown : s.vm.findClass RX9 = some m.cls := findClass_of_methodNamed B.named
  have hlocks := B.notSynchronized
  subst hsz
  have hD := hD0.self (sz := s.heap.size)
  generalize hAe : va_A (wFL h cs I L A Q G J) s.heap.size = A0 at hD ⊢
  have hA : ∀ q : Nat, s.heap.size ≤ q → A0 q := fun q h => by rw [← hAe]; exact Or.inr h
  have hl := lv_entry ([.ref (h 100), .int x]) (n := 2) (Nat.le_of_ble_eq_true rfl)
  rw [lg_entry_eq]
  generalize (lg_sl ([.ref (h 100), .int x]) ++ List.replicate (2 - (lg_sl ([.ref (h 100), .int x])).length) Slot.unset).toArray = ls at hl ⊢
  have hl : lv_has ls 2 [(0, .ref (h 100)), (1, .int x)] := hl
  generalize hH : s.heap = H at hP ⊢
  have hS : va_S A0 s.heap H [] := by rw [← hH]; exact va_S.rf
  have hinX9 : ∀ w ∈ wsX90, w ∈ wsX9_worth := by decide +kernel
  have hinX3 : ∀ w ∈ wsX30, w ∈ wsX9_worth := by decide +kernel
  have hp2 : 1 ≤ 2 ^ M := Nat.one_le_two_pow
  have hp16 : 2 ^ M ≤ 16 := Nat.pow_le_pow_right (by decide) hM4
  refine lv_iload_n hx hb dX9_worth_0 rfl (lv_at hl 1 rfl) ?_
  refine lv_iconst (v := nI 1) hx hb dX9_worth_1 (by decide) ?_
  refine lv_icmp_lt (tgt := 18) hx hb dX9_worth_2 (by decide) (fun c_2_0 => ?_) (fun c_2_0 => ?_)
  · skip
    refine lv_ldc2 (v := (-1)) hx hb hown (hts (.constantLong RX9 178 (-1)) (by decide +kernel)) dX9_worth_18 ?_
    exact xr_l (v := (-1 : Int64)) hx hb hr hlocks hK hS dX9_worth_21 (I, L, (va_up A 186 (A 186)), Q, G, (va_up J 0 (J 0))) ⟨(A 186), (J 0), (Or.inr ⟨rfl, fun i a9 b9 e9 => by first | (have q9 := bad_lo (k := 1) (by omega) (by omega) (by assumption) e9; omega) | exact absurd (by rw [e9, Int32.lt_iff_toInt_lt, nI_toInt (by omega), nI_toInt (by omega)]; omega) (by assumption : ¬ x < nI (2 ^ M))⟩), rfl⟩ hP hD
  · skip
    refine lv_iload_n hx hb dX9_worth_5 rfl (lv_at hl 1 rfl) ?_
    refine lv_iconst (v := nI 1) hx hb dX9_worth_6 (by decide) ?_
    refine lv_aload_n hx hb dX9_worth_7 rfl (lv_at hl 0 rfl) ?_
    refine va_get (D := (dC, dI)) (ci := 9) (v := .ref (h 101)) (C := RX9) (T := TX9) (N := 9) hx hb hts hinX9 hown hK hP 0 rfl rfl 0 (by decide) (hts (.fieldLink RX9 12 "MixedWords" "mix" "LMixedWords$Mix;") (by decide +kernel)) (fun _ h9 => h9) rfl dX9_worth_8 ?_
    refine va_get (D := (dC, dI)) (ci := 3) (v := .int (I 121)) (C := RX3) (T := TX3) (N := 6) hx hb hts hinX3 hown hK hP 10 rfl rfl 1 (by decide) (hts (.fieldLink RX9 106 "MixedWords$Mix" "width" "I") (by decide +kernel)) (fun _ h9 => h9) rfl dX9_worth_11 ?_
    refine xt_i (y := nI M) (hM) ?_
    refine lv_ishl hx hb dX9_worth_14 ?_
    refine xt_i (y := nI (2 ^ M)) (shl_pw hM4) ?_
    refine lv_icmp_lt (tgt := 22) hx hb dX9_worth_15 (by decide) (fun c_15_1 => ?_) (fun c_15_1 => ?_)
    · skip
      refine lv_aload_n hx hb dX9_worth_22 rfl (lv_at hl 0 rfl) ?_
      refine va_get (D := (dC, dI)) (ci := 9) (v := .ref (h 106)) (C := RX9) (T := TX9) (N := 9) hx hb hts hinX9 hown hK hP 0 rfl rfl 5 (by decide) (hts (.fieldLink RX9 51 "MixedWords" "least" "LMixedWords$Least;") (by decide +kernel)) (fun _ h9 => h9) rfl dX9_worth_23 ?_
      refine lv_aload_n hx hb dX9_worth_26 rfl (lv_at hl 0 rfl) ?_
      refine va_get (D := (dC, dI)) (ci := 9) (v := .ref (h 101)) (C := RX9) (T := TX9) (N := 9) hx hb hts hinX9 hown hK hP 0 rfl rfl 0 (by decide) (hts (.fieldLink RX9 12 "MixedWords" "mix" "LMixedWords$Mix;") (by decide +kernel)) (fun _ h9 => h9) rfl dX9_worth_27 ?_
      refine lv_iload_n hx hb dX9_worth_30 rfl (lv_at hl 1 rfl) ?_
      refine xj_l (wc := (wLm h cs I L A Q G J)) (wr := [(h 100, .inr (9, [.ref (h 101), .ref (h 102), .ref (h 103), .ref (h 104), .ref (h 105), .ref (h 106), .ref (h 107), .ref (h 108), .ref (h 109)]))]) hP hD hS hA [1, 2, 3, 4, 5, 6, 7, 8, 9, 10, 11, 12, 13, 14, 15, 16, 17] [0] rfl rfl (by decide +kernel) (by decide +kernel) (va_runV (As := [.ref (h 101), .int x]) (rest := []) ⟨hx, hb, hml, hown, hts⟩ (k_X2_worthOf l dC dI h cs H.size I L A Q G J x R M hR (by first | assumption | omega | exact hR1) (by first | assumption | omega | exact hR5) hM (by first | assumption | omega | exact hM1) (by first | assumption | omega | exact hM4)) (cwV 2 hts gX9_worth_X2_worthOf rfl rfl rfl (by decide +kernel) ⟨Nat.le_of_ble_eq_true rfl, Nat.le_of_ble_eq_true rfl⟩) (xpV (wc := (wLm h cs I L A Q G J)) hP hD hK hN [1, 2, 3, 4, 5, 6, 7, 8, 9, 10, 11, 12, 13, 14, 15, 16, 17] rfl (by decide) 1 (ci := 2) rfl rfl _) rfl rfl hl.1 rfl (lv_room (Nat.le_of_ble_eq_true rfl)) dX9_worth_31 ⟨Nat.zero_le _, Nat.zero_le _⟩) (fun r_4 u_3 H locs hw hP hD hS => ?_)
      obtain ⟨a186_5, j0_6, hf_7, rfl⟩ := hw
      have hP : va_P (dC, dI) vwCl (wFL h cs I L (va_up A 186 a186_5) Q G (va_up J 0 j0_6)) H := hP
      have hD : va_D A0 (wFL h cs I L (va_up A 186 a186_5) Q G (va_up J 0 j0_6)) := hD
      have hwf := hf_7
      exact xr_l (v := r_4) hx hb hr hlocks hK hS dX9_worth_34 (I, L, (va_up A 186 a186_5), Q, G, (va_up J 0 j0_6)) ⟨a186_5, j0_6, (by obtain ⟨i9, a9, b9, e9⟩ := rg1 (x := x) (n := 2 ^ M) (by omega) (by assumption) (by assumption); exact Or.inl ⟨i9, a9, b9, e9, hwf⟩), rfl⟩ hP hD
    · skip
      refine lv_ldc2 (v := (-1)) hx hb hown (hts (.constantLong RX9 178 (-1)) (by decide +kernel)) dX9_worth_18 ?_
      exact xr_l (v := (-1 : Int64)) hx hb hr hlocks hK hS dX9_worth_21 (I, L, (va_up A 186 (A 186)), Q, G, (va_up J 0 (J 0))) ⟨(A 186), (J 0), (Or.inr ⟨rfl, fun i a9 b9 e9 => by first | (have q9 := bad_lo (k := 1) (by omega) (by omega) (by assumption) e9; omega) | exact absurd (by rw [e9, Int32.lt_iff_toInt_lt, nI_toInt (by omega), nI_toInt (by omega)]; omega) (by assumption : ¬ x < nI (2 ^ M))⟩), rfl⟩ hP hD
