def wdC (ix : Nat → Int32) (a : Nat) : Nat → Int32
  | 0 => nI 0
  | k + 1 => wdC ix a k * nI a + ix k
set_option maxRecDepth 20000 in
theorem ggX9_off_X3_wordCount : GoodIn wsX9_off wsX3_wordCount := goodIn_r _ [7, 8, 9, 10, 11, 6, 12, 13, 39, 40, 41, 42, 43, 44] rfl (by decide +kernel)
set_option maxRecDepth 20000 in
theorem gX9_off_X3_wordCount : GoodIn wsX9_off (wsV RX9 156 RX3 yX3_wordCount wsX3_wordCount) := goodIn_app (goodIn_of _ (by decide +kernel)) ggX9_off_X3_wordCount
set_option maxRecDepth 20000 in
theorem ggX9_off_X8_offOf : GoodIn wsX9_off wsX8_offOf := goodIn_r _ [18, 19, 20, 21, 22, 23, 24, 25, 26, 27, 17, 28, 29, 10, 11, 6, 12, 13, 45, 46, 47, 48, 49, 50, 39, 40, 41, 42, 43, 44] rfl (by decide +kernel)
set_option maxRecDepth 20000 in
theorem gX9_off_X8_offOf : GoodIn wsX9_off (wsV RX9 159 RX8 yX8_offOf wsX8_offOf) := goodIn_app (goodIn_of _ (by decide +kernel)) ggX9_off_X8_offOf
theorem bdX9_off_0 : (decode cX9_off 0 = .ok (.iload_n 1, 1)) ∧ (decode cX9_off 1 = .ok (.ifCond .lt 14, 3)) ∧ (decode cX9_off 4 = .ok (.iload_n 1, 1)) ∧ (decode cX9_off 5 = .ok (.aload_n 0, 1)) ∧ (decode cX9_off 6 = .ok (.getfield 12, 3)) ∧ (decode cX9_off 9 = .ok (.invokevirtual 156, 3)) ∧ (decode cX9_off 12 = .ok (.if_icmp .lt 7, 3)) ∧ (decode cX9_off 15 = .ok (.iconst (-1), 1)) ∧ (decode cX9_off 16 = .ok (.goto 11, 3)) ∧ (decode cX9_off 19 = .ok (.aload_n 0, 1)) ∧ (decode cX9_off 20 = .ok (.getfield 44, 3)) ∧ (decode cX9_off 23 = .ok (.iload_n 1, 1)) ∧ (decode cX9_off 24 = .ok (.invokevirtual 159, 3)) ∧ (decode cX9_off 27 = .ok (.ireturn, 1)) := by decide +kernel
theorem dX9_off_0 : decode cX9_off 0 = .ok (.iload_n 1, 1) := bdX9_off_0.1
theorem dX9_off_1 : decode cX9_off 1 = .ok (.ifCond .lt 14, 3) := bdX9_off_0.2.1
theorem dX9_off_4 : decode cX9_off 4 = .ok (.iload_n 1, 1) := bdX9_off_0.2.2.1
theorem dX9_off_5 : decode cX9_off 5 = .ok (.aload_n 0, 1) := bdX9_off_0.2.2.2.1
theorem dX9_off_6 : decode cX9_off 6 = .ok (.getfield 12, 3) := bdX9_off_0.2.2.2.2.1
theorem dX9_off_9 : decode cX9_off 9 = .ok (.invokevirtual 156, 3) := bdX9_off_0.2.2.2.2.2.1
theorem dX9_off_12 : decode cX9_off 12 = .ok (.if_icmp .lt 7, 3) := bdX9_off_0.2.2.2.2.2.2.1
theorem dX9_off_15 : decode cX9_off 15 = .ok (.iconst (-1), 1) := bdX9_off_0.2.2.2.2.2.2.2.1
theorem dX9_off_16 : decode cX9_off 16 = .ok (.goto 11, 3) := bdX9_off_0.2.2.2.2.2.2.2.2.1
theorem dX9_off_19 : decode cX9_off 19 = .ok (.aload_n 0, 1) := bdX9_off_0.2.2.2.2.2.2.2.2.2.1
theorem dX9_off_20 : decode cX9_off 20 = .ok (.getfield 44, 3) := bdX9_off_0.2.2.2.2.2.2.2.2.2.2.1
theorem dX9_off_23 : decode cX9_off 23 = .ok (.iload_n 1, 1) := bdX9_off_0.2.2.2.2.2.2.2.2.2.2.2.1
theorem dX9_off_24 : decode cX9_off 24 = .ok (.invokevirtual 159, 3) := bdX9_off_0.2.2.2.2.2.2.2.2.2.2.2.2.1
theorem dX9_off_27 : decode cX9_off 27 = .ok (.ireturn, 1) := bdX9_off_0.2.2.2.2.2.2.2.2.2.2.2.2.2
set_option maxHeartbeats 4000000 in
set_option maxRecDepth 100000 in
theorem k_X9_off (l : Launch) (dC : Nat → ClassId) (dI : Nat → Nat → Nat) (h : Nat → Nat) (cs : Nat → ClassId) (sz : Nat) (I : Nat → Int32) (L : Nat → Int64) (A : Nat → Nat → Int32) (Q : Nat → Nat → Int64) (G : Nat → Nat → Nat → Int32) (J : Nat → Nat → Nat → Int64) (x : Int32) (R M a : Nat) (hR : I 120 = nI R) (hR1 : 1 ≤ R) (hR5 : R ≤ 5) (hM : I 121 = nI M) (hM1 : 1 ≤ M) (hM4 : M ≤ 4) (ha : I 122 = nI a) (ha2 : a = 2 ∨ a = 4) : Met l yX9_off wsX9_off ({ frames := 3, cells := 0, slots := 0, locals := 67 }) (va_Pc [.ref (h 100), .int x] (xPre (dC, dI) (wFO h cs I L A Q G J) (tysA cs) sz)) (va_Qi (fun (r : Int32) (u : CS) => ((∃ i : Nat, i < a ^ M ∧ x = nI i ∧ r = offC (A 136) (G 0) a M i R) ∨ (r = -1 ∧ ∀ i : Nat, i < a ^ M → x ≠ nI i)) ∧ u = (I, L, A, Q, G, J)) (xB (dC, dI) (tysA cs) (va_A (wFO h cs I L A Q G J) sz) (fun u : CS => wFO h cs u.1 u.2.1 u.2.2.1 u.2.2.2.1 u.2.2.2.2.1 u.2.2.2.2.2)) (va_A (wFO h cs I L A Q G J) sz)) 0 0 (va_A (wFO h cs I L A Q G J) sz) := by
  refine Met.ofW (cc := cX9_off) (maxL := 2) (ret := (some .int)) (by decide) rfl ?_
  intro p e s m args below meth c s₁ B hml hv
  obtain ⟨rfl, hsz, hP, hK, hD0, hN⟩ := hv
  have hx := B.exec
  have hb := B.bytes
  have hr := B.returns
  have hts := atoms_spec (ws := wsX9_off) B.pre
  have hown : s.vm.findClass RX9 = some m.cls := findClass_of_methodNamed B.named
  have hlocks := B.notSynchronized
  subst hsz
  have hD := hD0.self (sz := s.heap.size)
  generalize hAe : va_A (wFO h cs I L A Q G J) s.heap.size = A0 at hD ⊢
  have hA : ∀ q : Nat, s.heap.size ≤ q → A0 q := fun q h => by rw [← hAe]; exact Or.inr h
  have hl := lv_entry ([.ref (h 100), .int x]) (n := 2) (Nat.le_of_ble_eq_true rfl)
  rw [lg_entry_eq]
  generalize (lg_sl ([.ref (h 100), .int x]) ++ List.replicate (2 - (lg_sl ([.ref (h 100), .int x])).length) Slot.unset).toArray = ls at hl ⊢
  have hl : lv_has ls 2 [(0, .ref (h 100)), (1, .int x)] := hl
  generalize hH : s.heap = H at hP ⊢
  have hS : va_S A0 s.heap H [] := by rw [← hH]; exact va_S.rf
  have hinX9 : ∀ w ∈ wsX90, w ∈ wsX9_off := by decide +kernel
  have hpw : a ^ M ≤ 256 := pw_le ha2 hM4
  refine lv_iload_n hx hb dX9_off_0 rfl (lv_at hl 1 rfl) ?_
  refine lv_if_lt (tgt := 15) hx hb dX9_off_1 (by decide) (fun c_1_0 => ?_) (fun c_1_0 => ?_)
  · skip
    refine lv_iconst (v := (-1)) hx hb dX9_off_15 (by decide) ?_
    refine lv_goto (tgt := 27) hx hb dX9_off_16 (by decide) ?_
    exact xr_i (v := (-1)) hx hb hr hlocks hK hS dX9_off_27 (I, L, A, Q, G, J) ⟨(Or.inr ⟨rfl, by first | exact rg_no1 (by omega) (by assumption) | exact rg_no2 (by omega) (Int32.not_lt.mp (by assumption))⟩), rfl⟩ hP hD
  · skip
    refine lv_iload_n hx hb dX9_off_4 rfl (lv_at hl 1 rfl) ?_
    refine lv_aload_n hx hb dX9_off_5 rfl (lv_at hl 0 rfl) ?_
    refine va_get (D := (dC, dI)) (ci := 9) (v := .ref (h 101)) (C := RX9) (T := TX9) (N := 9) hx hb hts hinX9 hown hK hP 0 rfl rfl 0 (by decide) (hts (.fieldLink RX9 12 "MixedWords" "mix" "LMixedWords$Mix;") (by decide +kernel)) (fun _ h9 => h9) rfl dX9_off_6 ?_
    refine xj_i (wc := (wMix h cs I L A Q G J)) (wr := [(h 100, .inr (9, [.ref (h 101), .ref (h 102), .ref (h 103), .ref (h 104), .ref (h 105), .ref (h 106), .ref (h 107), .ref (h 108), .ref (h 109)])), (h 105, .inr (8, [.ref (h 101), .ref (h 170), .ref (h 171), .ref (h 172), .int (I 173), .int (I 174)])), (h 170, .inl (cs 0, 256, .inl (A 170))), (h 171, .inl (cs 0, 256, .inl (A 171))), (h 172, .inl (cs 0, 256, .inl (A 172)))]) hP hD hS hA [5, 6, 7, 8, 9, 10, 11, 12] [0, 1, 2, 3, 4] rfl rfl (by decide +kernel) (by decide +kernel) (va_runV (As := []) (rest := [.int x]) ⟨hx, hb, hml, hown, hts⟩ (k_X3_wordCount l dC dI h cs H.size I L A Q G J M a hM (by first | assumption | omega | exact hM1) (by first | assumption | omega | exact hM4) ha (by first | assumption | omega | exact ha2)) (cwV 0 hts gX9_off_X3_wordCount rfl rfl rfl (by decide +kernel) ⟨Nat.le_of_ble_eq_true rfl, Nat.le_of_ble_eq_true rfl⟩) (xpV (wc := (wMix h cs I L A Q G J)) hP hD hK hN [5, 6, 7, 8, 9, 10, 11, 12] rfl (by decide) 5 (ci := 3) rfl rfl _) rfl rfl hl.1 rfl (lv_room (Nat.le_of_ble_eq_true rfl)) dX9_off_9 ⟨Nat.zero_le _, Nat.zero_le _⟩) (fun r_3 u_2 H locs hw hP hD hS => ?_)
    obtain ⟨hf_4, rfl⟩ := hw
    have hP : va_P (dC, dI) vwCl (wFO h cs I L A Q G J) H := hP
    have hD : va_D A0 (wFO h cs I L A Q G J) := hD
    obtain rfl := hf_4
    refine lv_icmp_lt (tgt := 19) hx hb dX9_off_12 (by decide) (fun c_12_4 => ?_) (fun c_12_4 => ?_)
    · skip
      obtain ⟨w9, hw9, hxw9⟩ := rg_yes (x := x) (n := a ^ M) (by omega) (by assumption) (Int32.not_le.mpr (by assumption))
      rw [hxw9] at hl
      refine lv_aload_n hx hb dX9_off_19 rfl (lv_at hl 0 rfl) ?_
      refine va_get (D := (dC, dI)) (ci := 9) (v := .ref (h 105)) (C := RX9) (T := TX9) (N := 9) hx hb hts hinX9 hown hK hP 0 rfl rfl 4 (by decide) (hts (.fieldLink RX9 44 "MixedWords" "words" "LMixedWords$Words;") (by decide +kernel)) (fun _ h9 => h9) rfl dX9_off_20 ?_
      refine lv_iload_n hx hb dX9_off_23 rfl (lv_at hl 1 rfl) ?_
      refine xj_i (wc := (wWords h cs I L A Q G J)) (wr := [(h 100, .inr (9, [.ref (h 101), .ref (h 102), .ref (h 103), .ref (h 104), .ref (h 105), .ref (h 106), .ref (h 107), .ref (h 108), .ref (h 109)]))]) hP hD hS hA [1, 2, 3, 4, 5, 6, 7, 8, 9, 10, 11, 12] [0] rfl rfl (by decide +kernel) (by decide +kernel) (va_runV (As := [.int (nI w9)]) (rest := []) ⟨hx, hb, hml, hown, hts⟩ (k_X8_offOf l dC dI h cs H.size I L A Q G J w9 R M a (by first | assumption | omega) hR (by first | assumption | omega | exact hR1) (by first | assumption | omega | exact hR5) hM (by first | assumption | omega | exact hM1) (by first | assumption | omega | exact hM4) ha (by first | assumption | omega | exact ha2)) (cwV 1 hts gX9_off_X8_offOf rfl rfl rfl (by decide +kernel) ⟨Nat.le_of_ble_eq_true rfl, Nat.le_of_ble_eq_true rfl⟩) (xpV (wc := (wWords h cs I L A Q G J)) hP hD hK hN [1, 2, 3, 4, 5, 6, 7, 8, 9, 10, 11, 12] rfl (by decide) 1 (ci := 8) rfl rfl _) rfl rfl hl.1 rfl (lv_room (Nat.le_of_ble_eq_true rfl)) dX9_off_24 ⟨Nat.zero_le _, Nat.zero_le _⟩) (fun r_7 u_6 H locs hw hP hD hS => ?_)
      obtain ⟨hf_8, rfl⟩ := hw
      have hP : va_P (dC, dI) vwCl (wFO h cs I L A Q G J) H := hP
      have hD : va_D A0 (wFO h cs I L A Q G J) := hD
      obtain rfl := hf_8
      exact xr_i (v := (offC (A 136) (G 0) a M w9 R)) hx hb hr hlocks hK hS dX9_off_27 (I, L, A, Q, G, J) ⟨(Or.inl ⟨w9, hw9, hxw9, rfl⟩), rfl⟩ hP hD
    · skip
      refine lv_iconst (v := (-1)) hx hb dX9_off_15 (by decide) ?_
      refine lv_goto (tgt := 27) hx hb dX9_off_16 (by decide) ?_
      exact xr_i (v := (-1)) hx hb hr hlocks hK hS dX9_off_27 (I, L, A, Q, G, J) ⟨(Or.inr ⟨rfl, by first | exact rg_no1 (by omega) (by assumption) | exact rg_no2 (by omega) (Int32.not_lt.mp (by assumption))⟩), rfl⟩ hP hD
set_option maxRecDepth 20000 in
theorem ggX9_taken_X6_takeAll : GoodIn wsX9_taken wsX6_takeAll := goodIn_r _ [9, 10, 11, 12, 13, 14, 15, 16, 17, 18, 19, 20, 21, 8, 22, 23, 24, 25, 26, 27, 28, 29, 30, 31, 32, 33, 34, 35, 36, 37, 38, 39, 40, 41, 42, 43, 44, 45, 46, 47, 48, 49, 50, 51, 52, 53, 54, 55, 56, 78, 79, 80, 81, 72, 73, 74, 75, 76, 77] rfl (by decide +kernel)
set_option maxRecDepth 20000 in
theorem gX9_taken_X6_takeAll : GoodIn wsX9_taken (wsV RX9 224 RX6 yX6_takeAll wsX6_takeAll) := goodIn_app (goodIn_of _ (by decide +kernel)) ggX9_taken_X6_takeAll
set_option maxRecDepth 20000 in
theorem ggX9_taken_X3_follow : GoodIn wsX9_taken wsX3_follow := goodIn_r _ [61, 62, 72, 73, 74, 75, 76, 77] rfl (by decide +kernel)
set_option maxRecDepth 20000 in
theorem gX9_taken_X3_follow : GoodIn wsX9_taken (wsV RX9 204 RX3 yX3_follow wsX3_follow) := goodIn_app (goodIn_of _ (by decide +kernel)) ggX9_taken_X3_follow
theorem bdX9_taken_0 : (decode cX9_taken 0 = .ok (.aload_n 0, 1)) ∧ (decode cX9_taken 1 = .ok (.getfield 58, 3)) ∧ (decode cX9_taken 4 = .ok (.invokevirtual 224, 3)) ∧ (decode cX9_taken 7 = .ok (.iconst 0, 1)) ∧ (decode cX9_taken 8 = .ok (.istore_n 1, 1)) ∧ (decode cX9_taken 9 = .ok (.iconst 0, 1)) ∧ (decode cX9_taken 10 = .ok (.istore_n 2, 1)) ∧ (decode cX9_taken 11 = .ok (.iload_n 2, 1)) ∧ (decode cX9_taken 12 = .ok (.aload_n 0, 1)) ∧ (decode cX9_taken 13 = .ok (.getfield 12, 3)) ∧ (decode cX9_taken 16 = .ok (.getfield 106, 3)) ∧ (decode cX9_taken 19 = .ok (.if_icmp .ge 27, 3)) ∧ (decode cX9_taken 22 = .ok (.aload_n 0, 1)) ∧ (decode cX9_taken 23 = .ok (.getfield 12, 3)) ∧ (decode cX9_taken 26 = .ok (.iload_n 1, 1)) ∧ (decode cX9_taken 27 = .ok (.aload_n 0, 1)) := by decide +kernel
theorem dX9_taken_0 : decode cX9_taken 0 = .ok (.aload_n 0, 1) := bdX9_taken_0.1
theorem dX9_taken_1 : decode cX9_taken 1 = .ok (.getfield 58, 3) := bdX9_taken_0.2.1
theorem dX9_taken_4 : decode cX9_taken 4 = .ok (.invokevirtual 224, 3) := bdX9_taken_0.2.2.1
theorem dX9_taken_7 : decode cX9_taken 7 = .ok (.iconst 0, 1) := bdX9_taken_0.2.2.2.1
theorem dX9_taken_8 : decode cX9_taken 8 = .ok (.istore_n 1, 1) := bdX9_taken_0.2.2.2.2.1
theorem dX9_taken_9 : decode cX9_taken 9 = .ok (.iconst 0, 1) := bdX9_taken_0.2.2.2.2.2.1
theorem dX9_taken_10 : decode cX9_taken 10 = .ok (.istore_n 2, 1) := bdX9_taken_0.2.2.2.2.2.2.1
theorem dX9_taken_11 : decode cX9_taken 11 = .ok (.iload_n 2, 1) := bdX9_taken_0.2.2.2.2.2.2.2.1
theorem dX9_taken_12 : decode cX9_taken 12 = .ok (.aload_n 0, 1) := bdX9_taken_0.2.2.2.2.2.2.2.2.1
theorem dX9_taken_13 : decode cX9_taken 13 = .ok (.getfield 12, 3) := bdX9_taken_0.2.2.2.2.2.2.2.2.2.1
theorem dX9_taken_16 : decode cX9_taken 16 = .ok (.getfield 106, 3) := bdX9_taken_0.2.2.2.2.2.2.2.2.2.2.1
theorem dX9_taken_19 : decode cX9_taken 19 = .ok (.if_icmp .ge 27, 3) := bdX9_taken_0.2.2.2.2.2.2.2.2.2.2.2.1
theorem dX9_taken_22 : decode cX9_taken 22 = .ok (.aload_n 0, 1) := bdX9_taken_0.2.2.2.2.2.2.2.2.2.2.2.2.1
theorem dX9_taken_23 : decode cX9_taken 23 = .ok (.getfield 12, 3) := bdX9_taken_0.2.2.2.2.2.2.2.2.2.2.2.2.2.1
theorem dX9_taken_26 : decode cX9_taken 26 = .ok (.iload_n 1, 1) := bdX9_taken_0.2.2.2.2.2.2.2.2.2.2.2.2.2.2.1
theorem dX9_taken_27 : decode cX9_taken 27 = .ok (.aload_n 0, 1) := bdX9_taken_0.2.2.2.2.2.2.2.2.2.2.2.2.2.2.2
theorem bdX9_taken_28 : (decode cX9_taken 28 = .ok (.getfield 58, 3)) ∧ (decode cX9_taken 31 = .ok (.getfield 227, 3)) ∧ (decode cX9_taken 34 = .ok (.iload_n 2, 1)) ∧ (decode cX9_taken 35 = .ok (.iaload, 1)) ∧ (decode cX9_taken 36 = .ok (.invokevirtual 204, 3)) ∧ (decode cX9_taken 39 = .ok (.istore_n 1, 1)) ∧ (decode cX9_taken 40 = .ok (.iinc 2 1, 3)) ∧ (decode cX9_taken 43 = .ok (.goto (-32), 3)) ∧ (decode cX9_taken 46 = .ok (.iload_n 1, 1)) ∧ (decode cX9_taken 47 = .ok (.ireturn, 1)) := by decide +kernel
theorem dX9_taken_28 : decode cX9_taken 28 = .ok (.getfield 58, 3) := bdX9_taken_28.1
theorem dX9_taken_31 : decode cX9_taken 31 = .ok (.getfield 227, 3) := bdX9_taken_28.2.1
theorem dX9_taken_34 : decode cX9_taken 34 = .ok (.iload_n 2, 1) := bdX9_taken_28.2.2.1
theorem dX9_taken_35 : decode cX9_taken 35 = .ok (.iaload, 1) := bdX9_taken_28.2.2.2.1
theorem dX9_taken_36 : decode cX9_taken 36 = .ok (.invokevirtual 204, 3) := bdX9_taken_28.2.2.2.2.1
theorem dX9_taken_39 : decode cX9_taken 39 = .ok (.istore_n 1, 1) := bdX9_taken_28.2.2.2.2.2.1
theorem dX9_taken_40 : decode cX9_taken 40 = .ok (.iinc 2 1, 3) := bdX9_taken_28.2.2.2.2.2.2.1
theorem dX9_taken_43 : decode cX9_taken 43 = .ok (.goto (-32), 3) := bdX9_taken_28.2.2.2.2.2.2.2.1
theorem dX9_taken_46 : decode cX9_taken 46 = .ok (.iload_n 1, 1) := bdX9_taken_28.2.2.2.2.2.2.2.2.1
theorem dX9_taken_47 : decode cX9_taken 47 = .ok (.ireturn, 1) := bdX9_taken_28.2.2.2.2.2.2.2.2.2
set_option maxHeartbeats 4000000 in
set_option maxRecDepth 100000 in
theorem k_X9_taken (l : Launch) (dC : Nat → ClassId) (dI : Nat → Nat → Nat) (h : Nat → Nat) (cs : Nat → ClassId) (sz : Nat) (I : Nat → Int32) (L : Nat → Int64) (A : Nat → Nat → Int32) (Q : Nat → Nat → Int64) (G : Nat → Nat → Nat → Int32) (J : Nat → Nat → Nat → Int64) (R M a : Nat) (hR : I 120 = nI R) (hR1 : 1 ≤ R) (hR5 : R ≤ 5) (hM : I 121 = nI M) (hM1 : 1 ≤ M) (hM4 : M ≤ 4) (ha : I 122 = nI a) (ha2 : a = 2 ∨ a = 4) : Met l yX9_taken wsX9_taken ({ frames := 5, cells := 0, slots := 0, locals := 154 }) (va_Pc [.ref (h 100)] (xPre (dC, dI) (wFK h cs I L A Q G J) (tysA cs) sz)) (va_Qi (fun (r : Int32) (u : CS) => ∃ a190 : Nat → Int32, ∃ a191 : Nat → Int32, ∃ a192 : Nat → Int32, (tkP (G 0) a R M (A 136) M a190 a192 ∧ r = wdC a192 a M) ∧ u = (I, L, (va_up (va_up (va_up A 190 a190) 191 a191) 192 a192), Q, G, J)) (xB (dC, dI) (tysA cs) (va_A (wFK h cs I L A Q G J) sz) (fun u : CS => wFK h cs u.1 u.2.1 u.2.2.1 u.2.2.2.1 u.2.2.2.2.1 u.2.2.2.2.2)) (va_A (wFK h cs I L A Q G J) sz)) 0 0 (va_A (wFK h cs I L A Q G J) sz) := by
  refine Met.ofW (cc := cX9_taken) (maxL := 3) (ret := (some .int)) (by decide) rfl ?_
  intro p e s m args below meth c s₁ B hml hv
  obtain ⟨rfl, hsz, hP, hK, hD0, hN⟩ := hv
  have hx := B.exec
  have hb := B.bytes
  have hr := B.returns
  have hts := atoms_spec (ws := wsX9_taken) B.pre
  have hown : s.vm.findClass RX9 = some m.cls := findClass_of_methodNamed B.named
  have hlocks := B.notSynchronized
  subst hsz
  have hD := hD0.self (sz := s.heap.size)
  generalize hAe : va_A (wFK h cs I L A Q G J) s.heap.size = A0 at hD ⊢
  have hA : ∀ q : Nat, s.heap.size ≤ q → A0 q := fun q h => by rw [← hAe]; exact Or.inr h
  have hl := lv_entry ([.ref (h 100)]) (n := 3) (Nat.le_of_ble_eq_true rfl)
  rw [lg_entry_eq]
  generalize (lg_sl ([.ref (h 100)]) ++ List.replicate (3 - (lg_sl ([.ref (h 100)])).length) Slot.unset).toArray = ls at hl ⊢
  have hl : lv_has ls 3 [(0, .ref (h 100))] := hl
  generalize hH : s.heap = H at hP ⊢
  have hS : va_S A0 s.heap H [] := by rw [← hH]; exact va_S.rf
  have hinX9 : ∀ w ∈ wsX90, w ∈ wsX9_taken := by decide +kernel
  have hinX3 : ∀ w ∈ wsX30, w ∈ wsX9_taken := by decide +kernel
  have hinX6 : ∀ w ∈ wsX60, w ∈ wsX9_taken := by decide +kernel
  refine lv_aload_n hx hb dX9_taken_0 rfl (lv_at hl 0 rfl) ?_
  refine va_get (D := (dC, dI)) (ci := 9) (v := .ref (h 107)) (C := RX9) (T := TX9) (N := 9) hx hb hts hinX9 hown hK hP 0 rfl rfl 6 (by decide) (hts (.fieldLink RX9 58 "MixedWords" "taker" "LMixedWords$Taker;") (by decide +kernel)) (fun _ h9 => h9) rfl dX9_taken_1 ?_
  refine xj_v (wc := (wTaker h cs I L A Q G J)) (wr := [(h 100, .inr (9, [.ref (h 101), .ref (h 102), .ref (h 103), .ref (h 104), .ref (h 105), .ref (h 106), .ref (h 107), .ref (h 108), .ref (h 109)]))]) hP hD hS hA [1, 2, 3, 4, 5, 6, 7, 8, 9, 10, 11, 12] [0] rfl rfl (by decide +kernel) (by decide +kernel) (va_runV (As := []) (rest := []) ⟨hx, hb, hml, hown, hts⟩ (k_X6_takeAll l dC dI h cs H.size I L A Q G J R M a hR (by first | assumption | omega | exact hR1) (by first | assumption | omega | exact hR5) hM (by first | assumption | omega | exact hM1) (by first | assumption | omega | exact hM4) ha (by first | assumption | omega | exact ha2)) (cwV 0 hts gX9_taken_X6_takeAll rfl rfl rfl (by decide +kernel) ⟨Nat.le_of_ble_eq_true rfl, Nat.le_of_ble_eq_true rfl⟩) (xpV (wc := (wTaker h cs I L A Q G J)) hP hD hK hN [1, 2, 3, 4, 5, 6, 7, 8, 9, 10, 11, 12] rfl (by decide) 1 (ci := 6) rfl rfl _) rfl rfl hl.1 rfl (lv_room (Nat.le_of_ble_eq_true rfl)) dX9_taken_4 ⟨Nat.zero_le _, Nat.zero_le _⟩) (fun u_1 H locs hw hP hD hS => ?_)
  obtain ⟨a190_3, a191_4, a192_5, hf_6, rfl⟩ := hw
  have hP : va_P (dC, dI) vwCl (wFK h cs I L (va_up (va_up (va_up A 190 a190_3) 191 a191_4) 192 a192_5) Q G J) H := hP
  have hD : va_D A0 (wFK h cs I L (va_up (va_up (va_up A 190 a190_3) 191 a191_4) 192 a192_5) Q G J) := hD
  have htk := hf_6
  refine lv_iconst (v := nI 0) hx hb dX9_taken_7 (by decide) ?_
  refine lv_istore_n (lv' := [(1, .int (nI 0)), (0, .ref (h 100))]) hx hb dX9_taken_8 rfl hl (by decide) rfl (fun ls hl => ?_)
  refine lv_iconst (v := nI 0) hx hb dX9_taken_9 (by decide) ?_
  refine lv_istore_n (lv' := [(2, .int (nI 0)), (1, .int (nI 0)), (0, .ref (h 100))]) hx hb dX9_taken_10 rfl hl (by decide) rfl (fun ls hl => ?_)
  have cut_11 : ∀ (nf : Nat) (k : Nat), (M - k) < nf → (k ≤ M) → ∀ (H : Heap) (locs : List Loc) (ls : Array Slot), va_P (dC, dI) vwCl (wFK h cs I L (va_up (va_up (va_up A 190 a190_3) 191 a191_4) 192 a192_5) Q G J) H → va_D A0 (wFK h cs I L (va_up (va_up (va_up A 190 a190_3) 191 a191_4) 192 a192_5) Q G J) → va_S A0 s.heap H locs → lv_has ls 3 [(0, .ref (h 100)), (1, .int (wdC a192_5 a k)), (2, .int (nI k))] → W p l e (headSpec wsX9_taken ({ frames := 5, cells := 0, slots := 0, locals := 154 })).room s m ([.ref (h 100)] : List Value).toArray below meth c H locs 0 0 (MQ below (va_Qi (fun (r : Int32) (u : CS) => ∃ a190 : Nat → Int32, ∃ a191 : Nat → Int32, ∃ a192 : Nat → Int32, (tkP (G 0) a R M (A 136) M a190 a192 ∧ r = wdC a192 a M) ∧ u = (I, L, (va_up (va_up (va_up A 190 a190) 191 a191) 192 a192), Q, G, J)) (xB (dC, dI) (tysA cs) A0 (fun u : CS => wFK h cs u.1 u.2.1 u.2.2.1 u.2.2.2.1 u.2.2.2.2.1 u.2.2.2.2.2)) A0) ([.ref (h 100)] : List Value).toArray s 0 0 A0) (F0 m 11 ls []) := by
    intro nf
    induction nf with
    | zero => intro k hm; exact absurd hm (Nat.not_lt_zero _)
    | succ nf ih_11 =>
      intro k hm_11 hk11 H locs ls hP hD hS hl
      refine lv_iload_n hx hb dX9_taken_11 rfl (lv_at hl 2 rfl) ?_
      refine lv_aload_n hx hb dX9_taken_12 rfl (lv_at hl 0 rfl) ?_
      refine va_get (D := (dC, dI)) (ci := 9) (v := .ref (h 101)) (C := RX9) (T := TX9) (N := 9) hx hb hts hinX9 hown hK hP 0 rfl rfl 0 (by decide) (hts (.fieldLink RX9 12 "MixedWords" "mix" "LMixedWords$Mix;") (by decide +kernel)) (fun _ h9 => h9) rfl dX9_taken_13 ?_
      refine va_get (D := (dC, dI)) (ci := 3) (v := .int (I 121)) (C := RX3) (T := TX3) (N := 6) hx hb hts hinX3 hown hK hP 5 rfl rfl 1 (by decide) (hts (.fieldLink RX9 106 "MixedWords$Mix" "width" "I") (by decide +kernel)) (fun _ h9 => h9) rfl dX9_taken_16 ?_
      refine xt_i (y := nI M) (hM) ?_
      refine xn_ge (tgt := 46) hx hb dX9_taken_19 (by decide) (by omega) (by omega) (fun c_19_6 => ?_) (fun c_19_6 => ?_)
      · skip
        refine lv_iload_n hx hb dX9_taken_46 rfl (lv_at hl 1 rfl) ?_
        exact xr_i (v := (wdC a192_5 a k)) hx hb hr hlocks hK hS dX9_taken_47 (I, L, (va_up (va_up (va_up A 190 a190_3) 191 a191_4) 192 a192_5), Q, G, J) ⟨a190_3, a191_4, a192_5, ⟨htk.1, by rw [show M = k by omega]⟩, rfl⟩ hP hD
      · skip
        refine lv_aload_n hx hb dX9_taken_22 rfl (lv_at hl 0 rfl) ?_
        refine va_get (D := (dC, dI)) (ci := 9) (v := .ref (h 101)) (C := RX9) (T := TX9) (N := 9) hx hb hts hinX9 hown hK hP 0 rfl rfl 0 (by decide) (hts (.fieldLink RX9 12 "MixedWords" "mix" "LMixedWords$Mix;") (by decide +kernel)) (fun _ h9 => h9) rfl dX9_taken_23 ?_
        refine lv_iload_n hx hb dX9_taken_26 rfl (lv_at hl 1 rfl) ?_
        refine lv_aload_n hx hb dX9_taken_27 rfl (lv_at hl 0 rfl) ?_
        refine va_get (D := (dC, dI)) (ci := 9) (v := .ref (h 107)) (C := RX9) (T := TX9) (N := 9) hx hb hts hinX9 hown hK hP 0 rfl rfl 6 (by decide) (hts (.fieldLink RX9 58 "MixedWords" "taker" "LMixedWords$Taker;") (by decide +kernel)) (fun _ h9 => h9) rfl dX9_taken_28 ?_
        refine va_get (D := (dC, dI)) (ci := 6) (v := .ref (h 192)) (C := RX6) (T := TX6) (N := 4) hx hb hts hinX6 hown hK hP 1 rfl rfl 3 (by decide) (hts (.fieldLink RX9 227 "MixedWords$Taker" "indexes" "[I") (by decide +kernel)) (fun _ h9 => h9) rfl dX9_taken_31 ?_
        refine lv_iload_n hx hb dX9_taken_34 rfl (lv_at hl 2 rfl) ?_
        refine xa_iald hx hb hK hP 4 0 rfl rfl (by omega) (by decide) dX9_taken_35 ?_
        refine xj_i (wc := (wMix h cs I L (va_up (va_up (va_up A 190 a190_3) 191 a191_4) 192 a192_5) Q G J)) (wr := [(h 100, .inr (9, [.ref (h 101), .ref (h 102), .ref (h 103), .ref (h 104), .ref (h 105), .ref (h 106), .ref (h 107), .ref (h 108), .ref (h 109)])), (h 107, .inr (6, [.ref (h 101), .ref (h 190), .ref (h 191), .ref (h 192)])), (h 190, .inl (cs 0, 5, .inl a190_3)), (h 191, .inl (cs 0, 4, .inl a191_4)), (h 192, .inl (cs 0, 4, .inl a192_5))]) hP hD hS hA [5, 6, 7, 8, 9, 10, 11, 12] [0, 1, 2, 3, 4] rfl rfl (by decide +kernel) (by decide +kernel) (va_runV (As := [.int (wdC a192_5 a k), .int (a192_5 k)]) (rest := []) ⟨hx, hb, hml, hown, hts⟩ (k_X3_follow l dC dI h cs H.size I L (va_up (va_up (va_up A 190 a190_3) 191 a191_4) 192 a192_5) Q G J (wdC a192_5 a k) (a192_5 k) a ha (by first | assumption | omega | exact ha2)) (cwV 2 hts gX9_taken_X3_follow rfl rfl rfl (by decide +kernel) ⟨Nat.le_of_ble_eq_true rfl, Nat.le_of_ble_eq_true rfl⟩) (xpV (wc := (wMix h cs I L (va_up (va_up (va_up A 190 a190_3) 191 a191_4) 192 a192_5) Q G J)) hP hD hK hN [5, 6, 7, 8, 9, 10, 11, 12] rfl (by decide) 5 (ci := 3) rfl rfl _) rfl rfl hl.1 rfl (lv_room (Nat.le_of_ble_eq_true rfl)) dX9_taken_36 ⟨Nat.zero_le _, Nat.zero_le _⟩) (fun r_9 u_8 H locs hw hP hD hS => ?_)
        obtain ⟨hf_10, rfl⟩ := hw
        have hP : va_P (dC, dI) vwCl (wFK h cs I L (va_up (va_up (va_up A 190 a190_3) 191 a191_4) 192 a192_5) Q G J) H := hP
        have hD : va_D A0 (wFK h cs I L (va_up (va_up (va_up A 190 a190_3) 191 a191_4) 192 a192_5) Q G J) := hD
        obtain rfl := hf_10
        refine lv_istore_n (lv' := [(1, .int (wdC a192_5 a k * nI a + a192_5 k)), (0, .ref (h 100)), (2, .int (nI k))]) hx hb dX9_taken_39 rfl hl (by decide) rfl (fun ls hl => ?_)
        refine lv_iinc (v := nI (k + 1)) (lv' := [(2, .int (nI (k + 1))), (1, .int (wdC a192_5 a k * nI a + a192_5 k)), (0, .ref (h 100))]) hx hb dX9_taken_40 hl (k := 2) rfl (nI_1 _) (by decide) rfl (fun ls hl => ?_)
        refine lv_goto (tgt := 11) hx hb dX9_taken_43 (by decide) ?_
        exact ih_11 (k + 1) (by omega) (by first | assumption | omega) _ _ _ hP hD hS (lv_sub hl [2, 1, 0] rfl)
  exact cut_11 _ 0 (Nat.lt_succ_self _) (by first | assumption | omega) _ _ _ hP hD hS (lv_sub hl [2, 1, 0] rfl)
set_option maxRecDepth 20000 in
theorem ggX9_order_X3_hasColumn : GoodIn wsX9_order wsX3_hasColumn := goodIn_r _ [8, 9, 75, 76, 77, 78, 79, 80] rfl (by decide +kernel)
set_option maxRecDepth 20000 in
theorem gX9_order_X3_hasColumn : GoodIn wsX9_order (wsV RX9 95 RX3 yX3_hasColumn wsX3_hasColumn) := goodIn_app (goodIn_of _ (by decide +kernel)) ggX9_order_X3_hasColumn
set_option maxRecDepth 20000 in
theorem ggX9_order_X6_takeAll : GoodIn wsX9_order wsX6_takeAll := goodIn_r _ [14, 15, 16, 17, 18, 19, 20, 21, 22, 23, 24, 25, 26, 13, 27, 28, 29, 30, 31, 32, 33, 34, 35, 36, 37, 38, 39, 40, 41, 42, 43, 44, 45, 46, 47, 48, 49, 50, 51, 52, 53, 54, 55, 56, 57, 58, 59, 60, 61, 71, 72, 73, 74, 75, 76, 77, 78, 79, 80] rfl (by decide +kernel)
set_option maxRecDepth 20000 in
theorem gX9_order_X6_takeAll : GoodIn wsX9_order (wsV RX9 224 RX6 yX6_takeAll wsX6_takeAll) := goodIn_app (goodIn_of _ (by decide +kernel)) ggX9_order_X6_takeAll
theorem bdX9_order_0 : (decode cX9_order 0 = .ok (.aload_n 0, 1)) ∧ (decode cX9_order 1 = .ok (.getfield 12, 3)) ∧ (decode cX9_order 4 = .ok (.iload_n 1, 1)) ∧ (decode cX9_order 5 = .ok (.invokevirtual 95, 3)) ∧ (decode cX9_order 8 = .ok (.ifCond .ne 5, 3)) ∧ (decode cX9_order 11 = .ok (.iconst (-1), 1)) ∧ (decode cX9_order 12 = .ok (.ireturn, 1)) ∧ (decode cX9_order 13 = .ok (.aload_n 0, 1)) ∧ (decode cX9_order 14 = .ok (.getfield 58, 3)) ∧ (decode cX9_order 17 = .ok (.invokevirtual 224, 3)) ∧ (decode cX9_order 20 = .ok (.aload_n 0, 1)) ∧ (decode cX9_order 21 = .ok (.getfield 58, 3)) ∧ (decode cX9_order 24 = .ok (.getfield 230, 3)) ∧ (decode cX9_order 27 = .ok (.iload_n 1, 1)) ∧ (decode cX9_order 28 = .ok (.iaload, 1)) ∧ (decode cX9_order 29 = .ok (.ireturn, 1)) := by decide +kernel
theorem dX9_order_0 : decode cX9_order 0 = .ok (.aload_n 0, 1) := bdX9_order_0.1
theorem dX9_order_1 : decode cX9_order 1 = .ok (.getfield 12, 3) := bdX9_order_0.2.1
theorem dX9_order_4 : decode cX9_order 4 = .ok (.iload_n 1, 1) := bdX9_order_0.2.2.1
theorem dX9_order_5 : decode cX9_order 5 = .ok (.invokevirtual 95, 3) := bdX9_order_0.2.2.2.1
theorem dX9_order_8 : decode cX9_order 8 = .ok (.ifCond .ne 5, 3) := bdX9_order_0.2.2.2.2.1
theorem dX9_order_11 : decode cX9_order 11 = .ok (.iconst (-1), 1) := bdX9_order_0.2.2.2.2.2.1
theorem dX9_order_12 : decode cX9_order 12 = .ok (.ireturn, 1) := bdX9_order_0.2.2.2.2.2.2.1
theorem dX9_order_13 : decode cX9_order 13 = .ok (.aload_n 0, 1) := bdX9_order_0.2.2.2.2.2.2.2.1
theorem dX9_order_14 : decode cX9_order 14 = .ok (.getfield 58, 3) := bdX9_order_0.2.2.2.2.2.2.2.2.1
theorem dX9_order_17 : decode cX9_order 17 = .ok (.invokevirtual 224, 3) := bdX9_order_0.2.2.2.2.2.2.2.2.2.1
theorem dX9_order_20 : decode cX9_order 20 = .ok (.aload_n 0, 1) := bdX9_order_0.2.2.2.2.2.2.2.2.2.2.1
theorem dX9_order_21 : decode cX9_order 21 = .ok (.getfield 58, 3) := bdX9_order_0.2.2.2.2.2.2.2.2.2.2.2.1
theorem dX9_order_24 : decode cX9_order 24 = .ok (.getfield 230, 3) := bdX9_order_0.2.2.2.2.2.2.2.2.2.2.2.2.1
theorem dX9_order_27 : decode cX9_order 27 = .ok (.iload_n 1, 1) := bdX9_order_0.2.2.2.2.2.2.2.2.2.2.2.2.2.1
theorem dX9_order_28 : decode cX9_order 28 = .ok (.iaload, 1) := bdX9_order_0.2.2.2.2.2.2.2.2.2.2.2.2.2.2.1
theorem dX9_order_29 : decode cX9_order 29 = .ok (.ireturn, 1) := bdX9_order_0.2.2.2.2.2.2.2.2.2.2.2.2.2.2.2
set_option maxHeartbeats 4000000 in
set_option maxRecDepth 100000 in
theorem k_X9_order (l : Launch) (dC : Nat → ClassId) (dI : Nat → Nat → Nat) (h : Nat → Nat) (cs : Nat → ClassId) (sz : Nat) (I : Nat → Int32) (L : Nat → Int64) (A : Nat → Nat → Int32) (Q : Nat → Nat → Int64) (G : Nat → Nat → Nat → Int32) (J : Nat → Nat → Nat → Int64) (x : Int32) (R M a : Nat) (hR : I 120 = nI R) (hR1 : 1 ≤ R) (hR5 : R ≤ 5) (hM : I 121 = nI M) (hM1 : 1 ≤ M) (hM4 : M ≤ 4) (ha : I 122 = nI a) (ha2 : a = 2 ∨ a = 4) : Met l yX9_order wsX9_order ({ frames := 5, cells := 0, slots := 0, locals := 154 }) (va_Pc [.ref (h 100), .int x] (xPre (dC, dI) (wFK h cs I L A Q G J) (tysA cs) sz)) (va_Qi (fun (r : Int32) (u : CS) => ∃ a190 : Nat → Int32, ∃ a191 : Nat → Int32, ∃ a192 : Nat → Int32, ((∃ i : Nat, i < M ∧ x = nI i ∧ r = nI (gtB (dC9 (G 0) R) (tkC (dC9 (G 0) R) M i) M).1) ∨ (r = -1 ∧ ∀ i : Nat, i < M → x ≠ nI i)) ∧ u = (I, L, (va_up (va_up (va_up A 190 a190) 191 a191) 192 a192), Q, G, J)) (xB (dC, dI) (tysA cs) (va_A (wFK h cs I L A Q G J) sz) (fun u : CS => wFK h cs u.1 u.2.1 u.2.2.1 u.2.2.2.1 u.2.2.2.2.1 u.2.2.2.2.2)) (va_A (wFK h cs I L A Q G J) sz)) 0 0 (va_A (wFK h cs I L A Q G J) sz) := by
  refine Met.ofW (cc := cX9_order) (maxL := 2) (ret := (some .int)) (by decide) rfl ?_
  intro p e s m args below meth c s₁ B hml hv
  obtain ⟨rfl, hsz, hP, hK, hD0, hN⟩ := hv
  have hx := B.exec
  have hb := B.bytes
  have hr := B.returns
  have hts := atoms_spec (ws := wsX9_order) B.pre
  have hown : s.vm.findClass RX9 = some m.cls := findClass_of_methodNamed B.named
  have hlocks := B.notSynchronized
  subst hsz
  have hD := hD0.self (sz := s.heap.size)
  generalize hAe : va_A (wFK h cs I L A Q G J) s.heap.size = A0 at hD ⊢
  have hA : ∀ q : Nat, s.heap.size ≤ q → A0 q := fun q h => by rw [← hAe]; exact Or.inr h
  have hl := lv_entry ([.ref (h 100), .int x]) (n := 2) (Nat.le_of_ble_eq_true rfl)
  rw [lg_entry_eq]
  generalize (lg_sl ([.ref (h 100), .int x]) ++ List.replicate (2 - (lg_sl ([.ref (h 100), .int x])).length) Slot.unset).toArray = ls at hl ⊢
  have hl : lv_has ls 2 [(0, .ref (h 100)), (1, .int x)] := hl
  generalize hH : s.heap = H at hP ⊢
  have hS : va_S A0 s.heap H [] := by rw [← hH]; exact va_S.rf
  have hinX9 : ∀ w ∈ wsX90, w ∈ wsX9_order := by decide +kernel
  have hinX6 : ∀ w ∈ wsX60, w ∈ wsX9_order := by decide +kernel
  refine lv_aload_n hx hb dX9_order_0 rfl (lv_at hl 0 rfl) ?_
  refine va_get (D := (dC, dI)) (ci := 9) (v := .ref (h 101)) (C := RX9) (T := TX9) (N := 9) hx hb hts hinX9 hown hK hP 0 rfl rfl 0 (by decide) (hts (.fieldLink RX9 12 "MixedWords" "mix" "LMixedWords$Mix;") (by decide +kernel)) (fun _ h9 => h9) rfl dX9_order_1 ?_
  refine lv_iload_n hx hb dX9_order_4 rfl (lv_at hl 1 rfl) ?_
  refine xj_i (wc := (wMix h cs I L A Q G J)) (wr := [(h 100, .inr (9, [.ref (h 101), .ref (h 102), .ref (h 103), .ref (h 104), .ref (h 105), .ref (h 106), .ref (h 107), .ref (h 108), .ref (h 109)])), (h 107, .inr (6, [.ref (h 101), .ref (h 190), .ref (h 191), .ref (h 192)])), (h 190, .inl (cs 0, 5, .inl (A 190))), (h 191, .inl (cs 0, 4, .inl (A 191))), (h 192, .inl (cs 0, 4, .inl (A 192)))]) hP hD hS hA [5, 6, 7, 8, 9, 10, 11, 12] [0, 1, 2, 3, 4] rfl rfl (by decide +kernel) (by decide +kernel) (va_runV (As := [.int x]) (rest := []) ⟨hx, hb, hml, hown, hts⟩ (k_X3_hasColumn l dC dI h cs H.size I L A Q G J x M hM (by first | assumption | omega | exact hM1) (by first | assumption | omega | exact hM4)) (cwV 1 hts gX9_order_X3_hasColumn rfl rfl rfl (by decide +kernel) ⟨Nat.le_of_ble_eq_true rfl, Nat.le_of_ble_eq_true rfl⟩) (xpV (wc := (wMix h cs I L A Q G J)) hP hD hK hN [5, 6, 7, 8, 9, 10, 11, 12] rfl (by decide) 5 (ci := 3) rfl rfl _) rfl rfl hl.1 rfl (lv_room (Nat.le_of_ble_eq_true rfl)) dX9_order_5 ⟨Nat.zero_le _, Nat.zero_le _⟩) (fun r_2 u_1 H locs hw hP hD hS => ?_)
  obtain ⟨hf_3, rfl⟩ := hw
  have hP : va_P (dC, dI) vwCl (wFK h cs I L A Q G J) H := hP
  have hD : va_D A0 (wFK h cs I L A Q G J) := hD
  rcases hf_3 with ⟨rfl, i_4, hi_5, hx_6⟩ | ⟨rfl, hn_7⟩
  · skip
    rw [hx_6] at hl
    refine lv_if_ne (tgt := 13) hx hb dX9_order_8 (by decide) (fun _ => ?_) (fun c9 => False.elim (by revert c9; decide +kernel))
    refine lv_aload_n hx hb dX9_order_13 rfl (lv_at hl 0 rfl) ?_
    refine va_get (D := (dC, dI)) (ci := 9) (v := .ref (h 107)) (C := RX9) (T := TX9) (N := 9) hx hb hts hinX9 hown hK hP 0 rfl rfl 6 (by decide) (hts (.fieldLink RX9 58 "MixedWords" "taker" "LMixedWords$Taker;") (by decide +kernel)) (fun _ h9 => h9) rfl dX9_order_14 ?_
    refine xj_v (wc := (wTaker h cs I L A Q G J)) (wr := [(h 100, .inr (9, [.ref (h 101), .ref (h 102), .ref (h 103), .ref (h 104), .ref (h 105), .ref (h 106), .ref (h 107), .ref (h 108), .ref (h 109)]))]) hP hD hS hA [1, 2, 3, 4, 5, 6, 7, 8, 9, 10, 11, 12] [0] rfl rfl (by decide +kernel) (by decide +kernel) (va_runV (As := []) (rest := []) ⟨hx, hb, hml, hown, hts⟩ (k_X6_takeAll l dC dI h cs H.size I L A Q G J R M a hR (by first | assumption | omega | exact hR1) (by first | assumption | omega | exact hR5) hM (by first | assumption | omega | exact hM1) (by first | assumption | omega | exact hM4) ha (by first | assumption | omega | exact ha2)) (cwV 0 hts gX9_order_X6_takeAll rfl rfl rfl (by decide +kernel) ⟨Nat.le_of_ble_eq_true rfl, Nat.le_of_ble_eq_true rfl⟩) (xpV (wc := (wTaker h cs I L A Q G J)) hP hD hK hN [1, 2, 3, 4, 5, 6, 7, 8, 9, 10, 11, 12] rfl (by decide) 1 (ci := 6) rfl rfl _) rfl rfl hl.1 rfl (lv_room (Nat.le_of_ble_eq_true rfl)) dX9_order_17 ⟨Nat.zero_le _, Nat.zero_le _⟩) (fun u_8 H locs hw hP hD hS => ?_)
    obtain ⟨a190_10, a191_11, a192_12, hf_13, rfl⟩ := hw
    have hP : va_P (dC, dI) vwCl (wFK h cs I L (va_up (va_up (va_up A 190 a190_10) 191 a191_11) 192 a192_12) Q G J) H := hP
    have hD : va_D A0 (wFK h cs I L (va_up (va_up (va_up A 190 a190_10) 191 a191_11) 192 a192_12) Q G J) := hD
    have htk := hf_13
    refine lv_aload_n hx hb dX9_order_20 rfl (lv_at hl 0 rfl) ?_
    refine va_get (D := (dC, dI)) (ci := 9) (v := .ref (h 107)) (C := RX9) (T := TX9) (N := 9) hx hb hts hinX9 hown hK hP 0 rfl rfl 6 (by decide) (hts (.fieldLink RX9 58 "MixedWords" "taker" "LMixedWords$Taker;") (by decide +kernel)) (fun _ h9 => h9) rfl dX9_order_21 ?_
    refine va_get (D := (dC, dI)) (ci := 6) (v := .ref (h 191)) (C := RX6) (T := TX6) (N := 4) hx hb hts hinX6 hown hK hP 1 rfl rfl 2 (by decide) (hts (.fieldLink RX9 230 "MixedWords$Taker" "sequence" "[I") (by decide +kernel)) (fun _ h9 => h9) rfl dX9_order_24 ?_
    refine lv_iload_n hx hb dX9_order_27 rfl (lv_at hl 1 rfl) ?_
    refine xa_iald hx hb hK hP 3 0 rfl rfl (by omega) (by decide) dX9_order_28 ?_
    exact xr_i (v := (a191_11 i_4)) hx hb hr hlocks hK hS dX9_order_29 (I, L, (va_up (va_up (va_up A 190 a190_10) 191 a191_11) 192 a192_12), Q, G, J) ⟨a190_10, a191_11, a192_12, (Or.inl ⟨i_4, hi_5, hx_6, htk.2 _ (by omega)⟩), rfl⟩ hP hD
  · skip
    refine lv_if_ne (tgt := 13) hx hb dX9_order_8 (by decide) (fun c9 => False.elim (by revert c9; decide +kernel)) (fun _ => ?_)
    refine lv_iconst (v := (-1)) hx hb dX9_order_11 (by decide) ?_
    exact xr_i (v := (-1)) hx hb hr hlocks hK hS dX9_order_12 (I, L, (va_up (va_up (va_up A 190 (A 190)) 191 (A 191)) 192 (A 192)), Q, G, J) ⟨(A 190), (A 191), (A 192), (Or.inr ⟨rfl, hn_7⟩), rfl⟩ hP hD
