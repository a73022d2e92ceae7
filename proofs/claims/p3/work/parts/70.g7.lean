def wRead (h : Nat → Nat) (cs : Nat → ClassId) (I : Nat → Int32) (L : Nat → Int64) (A : Nat → Nat → Int32) (Q : Nat → Nat → Int64) (G : Nat → Nat → Nat → Int32) (J : Nat → Nat → Nat → Int64) : va_W := [(h 104, .inr (4, [.ref (h 103), .ref (h 160), .int (I 166), .int (I 167), .int (I 168), .int (I 169)])), (h 160, .inl (cs 3, 5, .inr (.inr (.inr (.inr (fun i => if i < 5 then some (h (i + 161)) else none)))))), (h 161, .inl (cs 0, 4, .inl ((G 1) 0))), (h 162, .inl (cs 0, 4, .inl ((G 1) 1))), (h 163, .inl (cs 0, 4, .inl ((G 1) 2))), (h 164, .inl (cs 0, 4, .inl ((G 1) 3))), (h 165, .inl (cs 0, 4, .inl ((G 1) 4))), (h 103, .inr (7, [.ref (h 150), .int (I 151)])), (h 150, .inl (cs 2, 90, .inl (A 150)))]
theorem wRead_atG1 {h : Nat → Nat} {cs : Nat → ClassId} {I : Nat → Int32} {L : Nat → Int64} {A : Nat → Nat → Int32} {Q : Nat → Nat → Int64} {G : Nat → Nat → Nat → Int32} {J : Nat → Nat → Nat → Int64} {k : Nat} (hk : k < 5) : (wRead h cs I L A Q G J)[2 + k]? = some (h (k + 161), .inl (cs 0, 4, .inl (G 1 k))) := by
  rcases (show k = 0 ∨ k = 1 ∨ k = 2 ∨ k = 3 ∨ k = 4 by omega) with rfl | rfl | rfl | rfl | rfl <;> rfl
theorem wRead_setG1 {h : Nat → Nat} {cs : Nat → ClassId} {I : Nat → Int32} {L : Nat → Int64} {A : Nat → Nat → Int32} {Q : Nat → Nat → Int64} {G : Nat → Nat → Nat → Int32} {J : Nat → Nat → Nat → Int64} {k : Nat} {f : Nat → Int32} (hk : k < 5) : (wRead h cs I L A Q G J).set (2 + k) (h (k + 161), .inl (cs 0, 4, .inl (f))) = wRead h cs I L A Q (va_up G 1 (va_up (G 1) k f)) J := by
  rcases (show k = 0 ∨ k = 1 ∨ k = 2 ∨ k = 3 ∨ k = 4 by omega) with rfl | rfl | rfl | rfl | rfl <;> rfl
set_option maxRecDepth 20000 in
theorem ggX4_skipBlanks_X7_at : GoodIn wsX4_skipBlanks wsX7_at := goodIn_r _ [8, 9, 10, 17, 18] (by decide +kernel) (by decide +kernel)
set_option maxRecDepth 20000 in
theorem gX4_skipBlanks_X7_at : GoodIn wsX4_skipBlanks (wsV RX4 40 RX7 yX7_at wsX7_at) := goodIn_app (goodIn_of _ (by decide +kernel)) ggX4_skipBlanks_X7_at
theorem bdX4_skipBlanks_0 : (decode cX4_skipBlanks 0 = .ok (.aload_n 0, 1)) ∧ (decode cX4_skipBlanks 1 = .ok (.getfield 30, 3)) ∧ (decode cX4_skipBlanks 4 = .ok (.aload_n 0, 1)) ∧ (decode cX4_skipBlanks 5 = .ok (.getfield 16, 3)) ∧ (decode cX4_skipBlanks 8 = .ok (.getfield 55, 3)) ∧ (decode cX4_skipBlanks 11 = .ok (.if_icmp .ge 32, 3)) ∧ (decode cX4_skipBlanks 14 = .ok (.aload_n 0, 1)) ∧ (decode cX4_skipBlanks 15 = .ok (.getfield 16, 3)) ∧ (decode cX4_skipBlanks 18 = .ok (.aload_n 0, 1)) ∧ (decode cX4_skipBlanks 19 = .ok (.getfield 30, 3)) ∧ (decode cX4_skipBlanks 22 = .ok (.invokevirtual 40, 3)) ∧ (decode cX4_skipBlanks 25 = .ok (.bipush 32, 2)) ∧ (decode cX4_skipBlanks 27 = .ok (.if_icmp .ne 16, 3)) ∧ (decode cX4_skipBlanks 30 = .ok (.aload_n 0, 1)) ∧ (decode cX4_skipBlanks 31 = .ok (.dup, 1)) ∧ (decode cX4_skipBlanks 32 = .ok (.getfield 30, 3)) := by decide +kernel
theorem dX4_skipBlanks_0 : decode cX4_skipBlanks 0 = .ok (.aload_n 0, 1) := bdX4_skipBlanks_0.1
theorem dX4_skipBlanks_1 : decode cX4_skipBlanks 1 = .ok (.getfield 30, 3) := bdX4_skipBlanks_0.2.1
theorem dX4_skipBlanks_4 : decode cX4_skipBlanks 4 = .ok (.aload_n 0, 1) := bdX4_skipBlanks_0.2.2.1
theorem dX4_skipBlanks_5 : decode cX4_skipBlanks 5 = .ok (.getfield 16, 3) := bdX4_skipBlanks_0.2.2.2.1
theorem dX4_skipBlanks_8 : decode cX4_skipBlanks 8 = .ok (.getfield 55, 3) := bdX4_skipBlanks_0.2.2.2.2.1
theorem dX4_skipBlanks_11 : decode cX4_skipBlanks 11 = .ok (.if_icmp .ge 32, 3) := bdX4_skipBlanks_0.2.2.2.2.2.1
theorem dX4_skipBlanks_14 : decode cX4_skipBlanks 14 = .ok (.aload_n 0, 1) := bdX4_skipBlanks_0.2.2.2.2.2.2.1
theorem dX4_skipBlanks_15 : decode cX4_skipBlanks 15 = .ok (.getfield 16, 3) := bdX4_skipBlanks_0.2.2.2.2.2.2.2.1
theorem dX4_skipBlanks_18 : decode cX4_skipBlanks 18 = .ok (.aload_n 0, 1) := bdX4_skipBlanks_0.2.2.2.2.2.2.2.2.1
theorem dX4_skipBlanks_19 : decode cX4_skipBlanks 19 = .ok (.getfield 30, 3) := bdX4_skipBlanks_0.2.2.2.2.2.2.2.2.2.1
theorem dX4_skipBlanks_22 : decode cX4_skipBlanks 22 = .ok (.invokevirtual 40, 3) := bdX4_skipBlanks_0.2.2.2.2.2.2.2.2.2.2.1
theorem dX4_skipBlanks_25 : decode cX4_skipBlanks 25 = .ok (.bipush 32, 2) := bdX4_skipBlanks_0.2.2.2.2.2.2.2.2.2.2.2.1
theorem dX4_skipBlanks_27 : decode cX4_skipBlanks 27 = .ok (.if_icmp .ne 16, 3) := bdX4_skipBlanks_0.2.2.2.2.2.2.2.2.2.2.2.2.1
theorem dX4_skipBlanks_30 : decode cX4_skipBlanks 30 = .ok (.aload_n 0, 1) := bdX4_skipBlanks_0.2.2.2.2.2.2.2.2.2.2.2.2.2.1
theorem dX4_skipBlanks_31 : decode cX4_skipBlanks 31 = .ok (.dup, 1) := bdX4_skipBlanks_0.2.2.2.2.2.2.2.2.2.2.2.2.2.2.1
theorem dX4_skipBlanks_32 : decode cX4_skipBlanks 32 = .ok (.getfield 30, 3) := bdX4_skipBlanks_0.2.2.2.2.2.2.2.2.2.2.2.2.2.2.2
theorem bdX4_skipBlanks_35 : (decode cX4_skipBlanks 35 = .ok (.iconst 1, 1)) ∧ (decode cX4_skipBlanks 36 = .ok (.iadd, 1)) ∧ (decode cX4_skipBlanks 37 = .ok (.putfield 30, 3)) ∧ (decode cX4_skipBlanks 40 = .ok (.goto (-40), 3)) ∧ (decode cX4_skipBlanks 43 = .ok (.return_, 1)) := by decide +kernel
theorem dX4_skipBlanks_35 : decode cX4_skipBlanks 35 = .ok (.iconst 1, 1) := bdX4_skipBlanks_35.1
theorem dX4_skipBlanks_36 : decode cX4_skipBlanks 36 = .ok (.iadd, 1) := bdX4_skipBlanks_35.2.1
theorem dX4_skipBlanks_37 : decode cX4_skipBlanks 37 = .ok (.putfield 30, 3) := bdX4_skipBlanks_35.2.2.1
theorem dX4_skipBlanks_40 : decode cX4_skipBlanks 40 = .ok (.goto (-40), 3) := bdX4_skipBlanks_35.2.2.2.1
theorem dX4_skipBlanks_43 : decode cX4_skipBlanks 43 = .ok (.return_, 1) := bdX4_skipBlanks_35.2.2.2.2
set_option maxHeartbeats 4000000 in
set_option maxRecDepth 100000 in
theorem k_X4_skipBlanks (l : Launch) (dC : Nat → ClassId) (dI : Nat → Nat → Nat) (h : Nat → Nat) (cs : Nat → ClassId) (sz : Nat) (I : Nat → Int32) (L : Nat → Int64) (A : Nat → Nat → Int32) (Q : Nat → Nat → Int64) (G : Nat → Nat → Nat → Int32) (J : Nat → Nat → Nat → Int64) (T p9 : Nat) (hT : I 151 = nI T) (hT9 : T ≤ 90) (hp : I 169 = nI p9) (hpT : p9 ≤ T) : Met l yX4_skipBlanks wsX4_skipBlanks ({ frames := 1, cells := 0, slots := 0, locals := 21 }) (va_Pc [.ref (h 104)] (xPre (dC, dI) (wRead h cs I L A Q G J) (tysA cs) sz)) (va_Qv (fun (u : CS) => ∃ i169 : Int32, (∃ q : Nat, p9 ≤ q ∧ q ≤ T ∧ i169 = nI q) ∧ u = ((va_up I 169 i169), L, A, Q, G, J)) (xB (dC, dI) (tysA cs) (va_A (wRead h cs I L A Q G J) sz) (fun u : CS => wRead h cs u.1 u.2.1 u.2.2.1 u.2.2.2.1 u.2.2.2.2.1 u.2.2.2.2.2)) (va_A (wRead h cs I L A Q G J) sz)) 0 0 (va_A (wRead h cs I L A Q G J) sz) := by
  refine Met.ofW (cc := cX4_skipBlanks) (maxL := 1) (ret := none) (by decide) rfl ?_
  intro p e s m args below meth c s₁ B hml hv
  obtain ⟨rfl, hsz, hP, hK, hD0, hN⟩ := hv
  have hx := B.exec
  have hb := B.bytes
  have hr := B.returns
  have hts := atoms_spec (ws := wsX4_skipBlanks) B.pre
  have hown : s.vm.findClass RX4 = some m.cls := findClass_of_methodNamed B.named
  have hlocks := B.notSynchronized
  subst hsz
  have hD := hD0.self (sz := s.heap.size)
  generalize hAe : va_A (wRead h cs I L A Q G J) s.heap.size = A0 at hD ⊢
  have hA : ∀ q : Nat, s.heap.size ≤ q → A0 q := fun q h => by rw [← hAe]; exact Or.inr h
  have hl := lv_entry ([.ref (h 104)]) (n := 1) (Nat.le_of_ble_eq_true rfl)
  rw [lg_entry_eq]
  generalize (lg_sl ([.ref (h 104)]) ++ List.replicate (1 - (lg_sl ([.ref (h 104)])).length) Slot.unset).toArray = ls at hl ⊢
  have hl : lv_has ls 1 [(0, .ref (h 104))] := hl
  generalize hH : s.heap = H at hP ⊢
  have hS : va_S A0 s.heap H [] := by rw [← hH]; exact va_S.rf
  have hinX4 : ∀ w ∈ wsX40, w ∈ wsX4_skipBlanks := by decide +kernel
  have hinX7 : ∀ w ∈ wsX70, w ∈ wsX4_skipBlanks := by decide +kernel
  have cut_0 : ∀ (nf : Nat) (n : Nat), (T - n) < nf → (n ≤ T) → (p9 ≤ n) → ∀ (H : Heap) (locs : List Loc) (ls : Array Slot), va_P (dC, dI) vwCl (wRead h cs (va_up I 169 (nI n)) L A Q G J) H → va_D A0 (wRead h cs (va_up I 169 (nI n)) L A Q G J) → va_S A0 s.heap H locs → lv_has ls 1 [(0, .ref (h 104))] → W p l e (headSpec wsX4_skipBlanks ({ frames := 1, cells := 0, slots := 0, locals := 21 })).room s m ([.ref (h 104)] : List Value).toArray below meth c H locs 0 0 (MQ below (va_Qv (fun (u : CS) => ∃ i169 : Int32, (∃ q : Nat, p9 ≤ q ∧ q ≤ T ∧ i169 = nI q) ∧ u = ((va_up I 169 i169), L, A, Q, G, J)) (xB (dC, dI) (tysA cs) A0 (fun u : CS => wRead h cs u.1 u.2.1 u.2.2.1 u.2.2.2.1 u.2.2.2.2.1 u.2.2.2.2.2)) A0) ([.ref (h 104)] : List Value).toArray s 0 0 A0) (F0 m 0 ls []) := by
    intro nf
    induction nf with
    | zero => intro n hm; exact absurd hm (Nat.not_lt_zero _)
    | succ nf ih_0 =>
      intro n hm_0 hn0 hn1 H locs ls hP hD hS hl
      refine lv_aload_n hx hb dX4_skipBlanks_0 rfl (lv_at hl 0 rfl) ?_
      refine va_get (D := (dC, dI)) (ci := 4) (v := .int (nI n)) (C := RX4) (T := TX4) (N := 6) hx hb hts hinX4 hown hK hP 0 rfl rfl 5 (by decide) (hts (.fieldLink RX4 30 "MixedWords$Reader" "place" "I") (by decide +kernel)) (fun _ h9 => h9) rfl dX4_skipBlanks_1 ?_
      refine lv_aload_n hx hb dX4_skipBlanks_4 rfl (lv_at hl 0 rfl) ?_
      refine va_get (D := (dC, dI)) (ci := 4) (v := .ref (h 103)) (C := RX4) (T := TX4) (N := 6) hx hb hts hinX4 hown hK hP 0 rfl rfl 0 (by decide) (hts (.fieldLink RX4 16 "MixedWords$Reader" "tape" "LMixedWords$Tape;") (by decide +kernel)) (fun _ h9 => h9) rfl dX4_skipBlanks_5 ?_
      refine va_get (D := (dC, dI)) (ci := 7) (v := .int (I 151)) (C := RX7) (T := TX7) (N := 2) hx hb hts hinX7 hown hK hP 7 rfl rfl 1 (by decide) (hts (.fieldLink RX4 55 "MixedWords$Tape" "length" "I") (by decide +kernel)) (fun _ h9 => h9) rfl dX4_skipBlanks_8 ?_
      refine xt_i (y := nI T) (hT) ?_
      refine xn_ge (tgt := 43) hx hb dX4_skipBlanks_11 (by decide) (by omega) (by omega) (fun c_11_0 => ?_) (fun c_11_0 => ?_)
      · skip
        exact xr_v hx hb hr hlocks hK hS dX4_skipBlanks_43 ((va_up I 169 (nI n)), L, A, Q, G, J) ⟨(nI n), ⟨n, hn1, hn0, rfl⟩, rfl⟩ hP hD
      · skip
        refine lv_aload_n hx hb dX4_skipBlanks_14 rfl (lv_at hl 0 rfl) ?_
        refine va_get (D := (dC, dI)) (ci := 4) (v := .ref (h 103)) (C := RX4) (T := TX4) (N := 6) hx hb hts hinX4 hown hK hP 0 rfl rfl 0 (by decide) (hts (.fieldLink RX4 16 "MixedWords$Reader" "tape" "LMixedWords$Tape;") (by decide +kernel)) (fun _ h9 => h9) rfl dX4_skipBlanks_15 ?_
        refine lv_aload_n hx hb dX4_skipBlanks_18 rfl (lv_at hl 0 rfl) ?_
        refine va_get (D := (dC, dI)) (ci := 4) (v := .int (nI n)) (C := RX4) (T := TX4) (N := 6) hx hb hts hinX4 hown hK hP 0 rfl rfl 5 (by decide) (hts (.fieldLink RX4 30 "MixedWords$Reader" "place" "I") (by decide +kernel)) (fun _ h9 => h9) rfl dX4_skipBlanks_19 ?_
        refine xj_i (wc := (wTape h cs (va_up I 169 (nI n)) L A Q G J)) (wr := [(h 104, .inr (4, [.ref (h 103), .ref (h 160), .int (I 166), .int (I 167), .int (I 168), .int (nI n)])), (h 160, .inl (cs 3, 5, .inr (.inr (.inr (.inr (fun i => if i < 5 then some (h (i + 161)) else none)))))), (h 161, .inl (cs 0, 4, .inl ((G 1) 0))), (h 162, .inl (cs 0, 4, .inl ((G 1) 1))), (h 163, .inl (cs 0, 4, .inl ((G 1) 2))), (h 164, .inl (cs 0, 4, .inl ((G 1) 3))), (h 165, .inl (cs 0, 4, .inl ((G 1) 4)))]) hP hD hS hA [7, 8] [0, 1, 2, 3, 4, 5, 6] rfl rfl (by decide) (by decide) (va_runV (As := [.int (nI n)]) (rest := []) ⟨hx, hb, hml, hown, hts⟩ (k_X7_at l dC dI h cs H.size (va_up I 169 (nI n)) L A Q G J (nI n) T hT (by first | assumption | omega | exact hT9)) (cwV 1 hts gX4_skipBlanks_X7_at rfl rfl rfl (by decide +kernel) ⟨Nat.le_of_ble_eq_true rfl, Nat.le_of_ble_eq_true rfl⟩) (xpV (wc := (wTape h cs (va_up I 169 (nI n)) L A Q G J)) hP hD hK hN [7, 8] rfl (by decide) 7 (ci := 7) rfl rfl _) rfl rfl hl.1 rfl (lv_room (Nat.le_of_ble_eq_true rfl)) dX4_skipBlanks_22 ⟨Nat.zero_le _, Nat.zero_le _⟩) (fun r_3 u_2 H locs hw hP hD hS => ?_)
        obtain ⟨hf_4, rfl⟩ := hw
        have hP : va_P (dC, dI) vwCl (wRead h cs (va_up I 169 (nI n)) L A Q G J) H := hP
        have hD : va_D A0 (wRead h cs (va_up I 169 (nI n)) L A Q G J) := hD
        refine lv_bipush (v := nI 32) hx hb dX4_skipBlanks_25 (by decide) ?_
        refine lv_icmp_ne (tgt := 43) hx hb dX4_skipBlanks_27 (by decide) (fun c_27_4 => ?_) (fun c_27_4 => ?_)
        · skip
          exact xr_v hx hb hr hlocks hK hS dX4_skipBlanks_43 ((va_up I 169 (nI n)), L, A, Q, G, J) ⟨(nI n), ⟨n, hn1, hn0, rfl⟩, rfl⟩ hP hD
        · skip
          refine lv_aload_n hx hb dX4_skipBlanks_30 rfl (lv_at hl 0 rfl) ?_
          refine lv_dup hx hb dX4_skipBlanks_31 rfl ?_
          refine va_get (D := (dC, dI)) (ci := 4) (v := .int (nI n)) (C := RX4) (T := TX4) (N := 6) hx hb hts hinX4 hown hK hP 0 rfl rfl 5 (by decide) (hts (.fieldLink RX4 30 "MixedWords$Reader" "place" "I") (by decide +kernel)) (fun _ h9 => h9) rfl dX4_skipBlanks_32 ?_
          refine lv_iconst (v := nI 1) hx hb dX4_skipBlanks_35 (by decide) ?_
          refine lv_iadd hx hb dX4_skipBlanks_36 ?_
          refine xt_i (y := nI (n + 1)) (nI_add _ _) ?_
          refine va_put (D := (dC, dI)) (ci := 4) (v := .int (nI (n + 1))) (ty := .int) (C := RX4) (T := TX4) (N := 6) hx hb hts hinX4 tyX4 tyX4_ok nmX4 hown hK hP hD hS 0 rfl rfl 5 (by decide) (hts (.fieldLink RX4 30 "MixedWords$Reader" "place" "I") (by decide +kernel)) (fun _ h9 => h9) rfl (by decide +kernel) rfl rfl (Nat.le_of_ble_eq_true rfl) dX4_skipBlanks_37 (fun H locs hP hD hS => ?_)
          have hP : va_P (dC, dI) vwCl (wRead h cs (va_up I 169 (nI (n + 1))) L A Q G J) H := hP
          have hD : va_D A0 (wRead h cs (va_up I 169 (nI (n + 1))) L A Q G J) := hD
          refine lv_goto (tgt := 0) hx hb dX4_skipBlanks_40 (by decide) ?_
          exact ih_0 (n + 1) (by omega) (by first | assumption | omega) (by first | assumption | omega) _ _ _ hP hD hS (lv_sub hl [0] rfl)
  have hP : va_P (dC, dI) vwCl (wRead h cs (va_up I 169 (nI p9)) L A Q G J) H := by rw [← hp]; exact hP
  have hD : va_D A0 (wRead h cs (va_up I 169 (nI p9)) L A Q G J) := by rw [← hp]; exact hD
  exact cut_0 _ p9 (Nat.lt_succ_self _) (by first | assumption | omega) (by first | assumption | omega) _ _ _ hP hD hS (lv_sub hl [0] rfl)
set_option maxRecDepth 20000 in
theorem ggX4_isDigit_X7_at : GoodIn wsX4_isDigit wsX7_at := goodIn_r _ [7, 8, 9, 16, 17] (by decide +kernel) (by decide +kernel)
set_option maxRecDepth 20000 in
theorem gX4_isDigit_X7_at : GoodIn wsX4_isDigit (wsV RX4 40 RX7 yX7_at wsX7_at) := goodIn_app (goodIn_of _ (by decide +kernel)) ggX4_isDigit_X7_at
theorem bdX4_isDigit_0 : (decode cX4_isDigit 0 = .ok (.aload_n 0, 1)) ∧ (decode cX4_isDigit 1 = .ok (.getfield 16, 3)) ∧ (decode cX4_isDigit 4 = .ok (.aload_n 0, 1)) ∧ (decode cX4_isDigit 5 = .ok (.getfield 30, 3)) ∧ (decode cX4_isDigit 8 = .ok (.invokevirtual 40, 3)) ∧ (decode cX4_isDigit 11 = .ok (.bipush 48, 2)) ∧ (decode cX4_isDigit 13 = .ok (.if_icmp .lt 23, 3)) ∧ (decode cX4_isDigit 16 = .ok (.aload_n 0, 1)) ∧ (decode cX4_isDigit 17 = .ok (.getfield 16, 3)) ∧ (decode cX4_isDigit 20 = .ok (.aload_n 0, 1)) ∧ (decode cX4_isDigit 21 = .ok (.getfield 30, 3)) ∧ (decode cX4_isDigit 24 = .ok (.invokevirtual 40, 3)) ∧ (decode cX4_isDigit 27 = .ok (.bipush 57, 2)) ∧ (decode cX4_isDigit 29 = .ok (.if_icmp .gt 7, 3)) ∧ (decode cX4_isDigit 32 = .ok (.iconst 1, 1)) ∧ (decode cX4_isDigit 33 = .ok (.goto 4, 3)) := by decide +kernel
theorem dX4_isDigit_0 : decode cX4_isDigit 0 = .ok (.aload_n 0, 1) := bdX4_isDigit_0.1
theorem dX4_isDigit_1 : decode cX4_isDigit 1 = .ok (.getfield 16, 3) := bdX4_isDigit_0.2.1
theorem dX4_isDigit_4 : decode cX4_isDigit 4 = .ok (.aload_n 0, 1) := bdX4_isDigit_0.2.2.1
theorem dX4_isDigit_5 : decode cX4_isDigit 5 = .ok (.getfield 30, 3) := bdX4_isDigit_0.2.2.2.1
theorem dX4_isDigit_8 : decode cX4_isDigit 8 = .ok (.invokevirtual 40, 3) := bdX4_isDigit_0.2.2.2.2.1
theorem dX4_isDigit_11 : decode cX4_isDigit 11 = .ok (.bipush 48, 2) := bdX4_isDigit_0.2.2.2.2.2.1
theorem dX4_isDigit_13 : decode cX4_isDigit 13 = .ok (.if_icmp .lt 23, 3) := bdX4_isDigit_0.2.2.2.2.2.2.1
theorem dX4_isDigit_16 : decode cX4_isDigit 16 = .ok (.aload_n 0, 1) := bdX4_isDigit_0.2.2.2.2.2.2.2.1
theorem dX4_isDigit_17 : decode cX4_isDigit 17 = .ok (.getfield 16, 3) := bdX4_isDigit_0.2.2.2.2.2.2.2.2.1
theorem dX4_isDigit_20 : decode cX4_isDigit 20 = .ok (.aload_n 0, 1) := bdX4_isDigit_0.2.2.2.2.2.2.2.2.2.1
theorem dX4_isDigit_21 : decode cX4_isDigit 21 = .ok (.getfield 30, 3) := bdX4_isDigit_0.2.2.2.2.2.2.2.2.2.2.1
theorem dX4_isDigit_24 : decode cX4_isDigit 24 = .ok (.invokevirtual 40, 3) := bdX4_isDigit_0.2.2.2.2.2.2.2.2.2.2.2.1
theorem dX4_isDigit_27 : decode cX4_isDigit 27 = .ok (.bipush 57, 2) := bdX4_isDigit_0.2.2.2.2.2.2.2.2.2.2.2.2.1
theorem dX4_isDigit_29 : decode cX4_isDigit 29 = .ok (.if_icmp .gt 7, 3) := bdX4_isDigit_0.2.2.2.2.2.2.2.2.2.2.2.2.2.1
theorem dX4_isDigit_32 : decode cX4_isDigit 32 = .ok (.iconst 1, 1) := bdX4_isDigit_0.2.2.2.2.2.2.2.2.2.2.2.2.2.2.1
theorem dX4_isDigit_33 : decode cX4_isDigit 33 = .ok (.goto 4, 3) := bdX4_isDigit_0.2.2.2.2.2.2.2.2.2.2.2.2.2.2.2
theorem dX4_isDigit_36 : decode cX4_isDigit 36 = .ok (.iconst 0, 1) := by decide +kernel
theorem dX4_isDigit_37 : decode cX4_isDigit 37 = .ok (.ireturn, 1) := by decide +kernel
set_option maxHeartbeats 4000000 in
set_option maxRecDepth 100000 in
theorem k_X4_isDigit (l : Launch) (dC : Nat → ClassId) (dI : Nat → Nat → Nat) (h : Nat → Nat) (cs : Nat → ClassId) (sz : Nat) (I : Nat → Int32) (L : Nat → Int64) (A : Nat → Nat → Int32) (Q : Nat → Nat → Int64) (G : Nat → Nat → Nat → Int32) (J : Nat → Nat → Nat → Int64) (T p9 : Nat) (hT : I 151 = nI T) (hT9 : T ≤ 90) (hp : I 169 = nI p9) (hpT : p9 ≤ T) : Met l yX4_isDigit wsX4_isDigit ({ frames := 1, cells := 0, slots := 0, locals := 21 }) (va_Pc [.ref (h 104)] (xPre (dC, dI) (wRead h cs I L A Q G J) (tysA cs) sz)) (va_Qi (fun (r : Int32) (u : CS) => (r = nI 0 ∨ r = nI 1) ∧ u = (I, L, A, Q, G, J)) (xB (dC, dI) (tysA cs) (va_A (wRead h cs I L A Q G J) sz) (fun u : CS => wRead h cs u.1 u.2.1 u.2.2.1 u.2.2.2.1 u.2.2.2.2.1 u.2.2.2.2.2)) (va_A (wRead h cs I L A Q G J) sz)) 0 0 (va_A (wRead h cs I L A Q G J) sz) := by
  refine Met.ofW (cc := cX4_isDigit) (maxL := 1) (ret := (some .boolean)) (by decide) rfl ?_
  intro p e s m args below meth c s₁ B hml hv
  obtain ⟨rfl, hsz, hP, hK, hD0, hN⟩ := hv
  have hx := B.exec
  have hb := B.bytes
  have hr := B.returns
  have hts := atoms_spec (ws := wsX4_isDigit) B.pre
  have hown : s.vm.findClass RX4 = some m.cls := findClass_of_methodNamed B.named
  have hlocks := B.notSynchronized
  subst hsz
  have hD := hD0.self (sz := s.heap.size)
  generalize hAe : va_A (wRead h cs I L A Q G J) s.heap.size = A0 at hD ⊢
  have hA : ∀ q : Nat, s.heap.size ≤ q → A0 q := fun q h => by rw [← hAe]; exact Or.inr h
  have hl := lv_entry ([.ref (h 104)]) (n := 1) (Nat.le_of_ble_eq_true rfl)
  rw [lg_entry_eq]
  generalize (lg_sl ([.ref (h 104)]) ++ List.replicate (1 - (lg_sl ([.ref (h 104)])).length) Slot.unset).toArray = ls at hl ⊢
  have hl : lv_has ls 1 [(0, .ref (h 104))] := hl
  generalize hH : s.heap = H at hP ⊢
  have hS : va_S A0 s.heap H [] := by rw [← hH]; exact va_S.rf
  have hinX4 : ∀ w ∈ wsX40, w ∈ wsX4_isDigit := by decide +kernel
  refine lv_aload_n hx hb dX4_isDigit_0 rfl (lv_at hl 0 rfl) ?_
  refine va_get (D := (dC, dI)) (ci := 4) (v := .ref (h 103)) (C := RX4) (T := TX4) (N := 6) hx hb hts hinX4 hown hK hP 0 rfl rfl 0 (by decide) (hts (.fieldLink RX4 16 "MixedWords$Reader" "tape" "LMixedWords$Tape;") (by decide +kernel)) (fun _ h9 => h9) rfl dX4_isDigit_1 ?_
  refine lv_aload_n hx hb dX4_isDigit_4 rfl (lv_at hl 0 rfl) ?_
  refine va_get (D := (dC, dI)) (ci := 4) (v := .int (I 169)) (C := RX4) (T := TX4) (N := 6) hx hb hts hinX4 hown hK hP 0 rfl rfl 5 (by decide) (hts (.fieldLink RX4 30 "MixedWords$Reader" "place" "I") (by decide +kernel)) (fun _ h9 => h9) rfl dX4_isDigit_5 ?_
  refine xt_i (y := nI p9) (hp) ?_
  refine xj_i (wc := (wTape h cs I L A Q G J)) (wr := [(h 104, .inr (4, [.ref (h 103), .ref (h 160), .int (I 166), .int (I 167), .int (I 168), .int (I 169)])), (h 160, .inl (cs 3, 5, .inr (.inr (.inr (.inr (fun i => if i < 5 then some (h (i + 161)) else none)))))), (h 161, .inl (cs 0, 4, .inl ((G 1) 0))), (h 162, .inl (cs 0, 4, .inl ((G 1) 1))), (h 163, .inl (cs 0, 4, .inl ((G 1) 2))), (h 164, .inl (cs 0, 4, .inl ((G 1) 3))), (h 165, .inl (cs 0, 4, .inl ((G 1) 4)))]) hP hD hS hA [7, 8] [0, 1, 2, 3, 4, 5, 6] rfl rfl (by decide) (by decide) (va_runV (As := [.int (nI p9)]) (rest := []) ⟨hx, hb, hml, hown, hts⟩ (k_X7_at l dC dI h cs H.size I L A Q G J (nI p9) T hT (by first | assumption | omega | exact hT9)) (cwV 1 hts gX4_isDigit_X7_at rfl rfl rfl (by decide +kernel) ⟨Nat.le_of_ble_eq_true rfl, Nat.le_of_ble_eq_true rfl⟩) (xpV (wc := (wTape h cs I L A Q G J)) hP hD hK hN [7, 8] rfl (by decide) 7 (ci := 7) rfl rfl _) rfl rfl hl.1 rfl (lv_room (Nat.le_of_ble_eq_true rfl)) dX4_isDigit_8 ⟨Nat.zero_le _, Nat.zero_le _⟩) (fun r_2 u_1 H locs hw hP hD hS => ?_)
  obtain ⟨hf_3, rfl⟩ := hw
  have hP : va_P (dC, dI) vwCl (wRead h cs I L A Q G J) H := hP
  have hD : va_D A0 (wRead h cs I L A Q G J) := hD
  refine lv_bipush (v := nI 48) hx hb dX4_isDigit_11 (by decide) ?_
  refine lv_icmp_lt (tgt := 36) hx hb dX4_isDigit_13 (by decide) (fun c_13_3 => ?_) (fun c_13_3 => ?_)
  · skip
    refine lv_iconst (v := nI 0) hx hb dX4_isDigit_36 (by decide) ?_
    exact xr_z (v := (nI 0)) hx hb hr hlocks hK hS dX4_isDigit_37 (rfl) (I, L, A, Q, G, J) ⟨(Or.inl rfl), rfl⟩ hP hD
  · skip
    refine lv_aload_n hx hb dX4_isDigit_16 rfl (lv_at hl 0 rfl) ?_
    refine va_get (D := (dC, dI)) (ci := 4) (v := .ref (h 103)) (C := RX4) (T := TX4) (N := 6) hx hb hts hinX4 hown hK hP 0 rfl rfl 0 (by decide) (hts (.fieldLink RX4 16 "MixedWords$Reader" "tape" "LMixedWords$Tape;") (by decide +kernel)) (fun _ h9 => h9) rfl dX4_isDigit_17 ?_
    refine lv_aload_n hx hb dX4_isDigit_20 rfl (lv_at hl 0 rfl) ?_
    refine va_get (D := (dC, dI)) (ci := 4) (v := .int (I 169)) (C := RX4) (T := TX4) (N := 6) hx hb hts hinX4 hown hK hP 0 rfl rfl 5 (by decide) (hts (.fieldLink RX4 30 "MixedWords$Reader" "place" "I") (by decide +kernel)) (fun _ h9 => h9) rfl dX4_isDigit_21 ?_
    refine xt_i (y := nI p9) (hp) ?_
    refine xj_i (wc := (wTape h cs I L A Q G J)) (wr := [(h 104, .inr (4, [.ref (h 103), .ref (h 160), .int (I 166), .int (I 167), .int (I 168), .int (I 169)])), (h 160, .inl (cs 3, 5, .inr (.inr (.inr (.inr (fun i => if i < 5 then some (h (i + 161)) else none)))))), (h 161, .inl (cs 0, 4, .inl ((G 1) 0))), (h 162, .inl (cs 0, 4, .inl ((G 1) 1))), (h 163, .inl (cs 0, 4, .inl ((G 1) 2))), (h 164, .inl (cs 0, 4, .inl ((G 1) 3))), (h 165, .inl (cs 0, 4, .inl ((G 1) 4)))]) hP hD hS hA [7, 8] [0, 1, 2, 3, 4, 5, 6] rfl rfl (by decide) (by decide) (va_runV (As := [.int (nI p9)]) (rest := []) ⟨hx, hb, hml, hown, hts⟩ (k_X7_at l dC dI h cs H.size I L A Q G J (nI p9) T hT (by first | assumption | omega | exact hT9)) (cwV 1 hts gX4_isDigit_X7_at rfl rfl rfl (by decide +kernel) ⟨Nat.le_of_ble_eq_true rfl, Nat.le_of_ble_eq_true rfl⟩) (xpV (wc := (wTape h cs I L A Q G J)) hP hD hK hN [7, 8] rfl (by decide) 7 (ci := 7) rfl rfl _) rfl rfl hl.1 rfl (lv_room (Nat.le_of_ble_eq_true rfl)) dX4_isDigit_24 ⟨Nat.zero_le _, Nat.zero_le _⟩) (fun r_6 u_5 H locs hw hP hD hS => ?_)
    obtain ⟨hf_7, rfl⟩ := hw
    have hP : va_P (dC, dI) vwCl (wRead h cs I L A Q G J) H := hP
    have hD : va_D A0 (wRead h cs I L A Q G J) := hD
    refine lv_bipush (v := nI 57) hx hb dX4_isDigit_27 (by decide) ?_
    refine lv_icmp_gt (tgt := 36) hx hb dX4_isDigit_29 (by decide) (fun c_29_7 => ?_) (fun c_29_7 => ?_)
    · skip
      refine lv_iconst (v := nI 0) hx hb dX4_isDigit_36 (by decide) ?_
      exact xr_z (v := (nI 0)) hx hb hr hlocks hK hS dX4_isDigit_37 (rfl) (I, L, A, Q, G, J) ⟨(Or.inl rfl), rfl⟩ hP hD
    · skip
      refine lv_iconst (v := nI 1) hx hb dX4_isDigit_32 (by decide) ?_
      refine lv_goto (tgt := 37) hx hb dX4_isDigit_33 (by decide) ?_
      exact xr_z (v := (nI 1)) hx hb hr hlocks hK hS dX4_isDigit_37 (rfl) (I, L, A, Q, G, J) ⟨(Or.inr rfl), rfl⟩ hP hD
