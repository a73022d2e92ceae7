def wD_21 (h : Nat → Nat) (cs : Nat → ClassId) (I : Nat → Int32) (L : Nat → Int64) (A : Nat → Nat → Int32) (Q : Nat → Nat → Int64) (G : Nat → Nat → Nat → Int32) (J : Nat → Nat → Nat → Int64) : va_W := [(h 107, .inr (6, [.ref (h 101), .ref (h 190), .ref (h 191), .ref (h 192)])), (h 101, .inr (3, [.int (I 120), .int (I 121), .int (I 122), .int (I 123), .ref (h 130), .ref (h 136)])), (h 130, .inl (cs 3, 5, .inr (.inr (.inr (.inr (fun i => if i < 5 then some (h (i + 131)) else none)))))), (h 131, .inl (cs 0, 4, .inl ((G 0) 0))), (h 132, .inl (cs 0, 4, .inl ((G 0) 1))), (h 133, .inl (cs 0, 4, .inl ((G 0) 2))), (h 134, .inl (cs 0, 4, .inl ((G 0) 3))), (h 135, .inl (cs 0, 4, .inl ((G 0) 4))), (h 136, .inl (cs 0, 5, .inl (A 136))), (h 190, .inl (cs 0, 5, .inl (A 190))), (h 191, .inl (cs 0, 4, .inl (A 191))), (h 192, .inl (cs 0, 4, .inl (A 192)))]
set_option maxHeartbeats 4000000 in
set_option maxRecDepth 100000 in
theorem a_X6_greatest_23 (l : Launch) (dC : Nat → ClassId) (dI : Nat → Nat → Nat) (h : Nat → Nat) (cs : Nat → ClassId) (sz : Nat) (I : Nat → Int32) (L : Nat → Int64) (A : Nat → Nat → Int32) (Q : Nat → Nat → Int64) (G : Nat → Nat → Nat → Int32) (J : Nat → Nat → Nat → Int64) : Met l yX6_greatest wsX6_greatest ({ frames := 1, cells := 0, slots := 0, locals := 25 }) (va_Pc [.ref (h 107), .int (nI 0)] (xPre (dC, dI) (wD_21 h cs fI fL fA fQ fG fJ) (tysA cs) sz)) (va_Qi (fun (r : Int32) (u : CS) => (r = nI 0) ∧ u = (fI, fL, fA, fQ, fG, fJ)) (xB (dC, dI) (tysA cs) (va_A (wD_21 h cs fI fL fA fQ fG fJ) sz) (fun u : CS => wD_21 h cs u.1 u.2.1 u.2.2.1 u.2.2.2.1 u.2.2.2.2.1 u.2.2.2.2.2)) (va_A (wD_21 h cs fI fL fA fQ fG fJ) sz)) 0 0 (va_A (wD_21 h cs fI fL fA fQ fG fJ) sz) := by
  refine Met.ofW (cc := cX6_greatest) (maxL := 6) (ret := (some .int)) (by decide) rfl ?_
  intro p e s m args below meth c s₁ B hml hv
  obtain ⟨rfl, hsz, hP, hK, hD0, hN⟩ := hv
  have hx := B.exec
  have hb := B.bytes
  have hr := B.returns
  have hts := atoms_spec (ws := wsX6_greatest) B.pre
  have hown : s.vm.findClass RX6 = some m.cls := findClass_of_methodNamed B.named
  have hlocks := B.notSynchronized
  subst hsz
  have hD := hD0.self (sz := s.heap.size)
  generalize hAe : va_A (wD_21 h cs fI fL fA fQ fG fJ) s.heap.size = A0 at hD ⊢
  have hA : ∀ q : Nat, s.heap.size ≤ q → A0 q := fun q h => by rw [← hAe]; exact Or.inr h
  have hl := lv_entry ([.ref (h 107), .int (nI 0)]) (n := 6) (Nat.le_of_ble_eq_true rfl)
  rw [lg_entry_eq]
  generalize (lg_sl ([.ref (h 107), .int (nI 0)]) ++ List.replicate (6 - (lg_sl ([.ref (h 107), .int (nI 0)])).length) Slot.unset).toArray = ls at hl ⊢
  have hl : lv_has ls 6 [(0, .ref (h 107)), (1, .int (nI 0))] := hl
  generalize hH : s.heap = H at hP ⊢
  have hS : va_S A0 s.heap H [] := by rw [← hH]; exact va_S.rf
  have hinX6 : ∀ w ∈ wsX60, w ∈ wsX6_greatest := by decide +kernel
  have hinX3 : ∀ w ∈ wsX30, w ∈ wsX6_greatest := by decide +kernel
  refine lv_iconst (v := nI 0) hx hb dX6_greatest_0 (by decide) ?_
  refine lv_istore_n (lv' := [(2, .int (nI 0)), (0, .ref (h 107)), (1, .int (nI 0))]) hx hb dX6_greatest_1 rfl hl (by decide) rfl (fun ls hl => ?_)
  refine lv_iconst (v := (-1)) hx hb dX6_greatest_2 (by decide) ?_
  refine lv_istore_n (lv' := [(3, .int (-1)), (2, .int (nI 0)), (0, .ref (h 107)), (1, .int (nI 0))]) hx hb dX6_greatest_3 rfl hl (by decide) rfl (fun ls hl => ?_)
  refine lv_iconst (v := nI 0) hx hb dX6_greatest_4 (by decide) ?_
  refine lv_istore (lv' := [(4, .int (nI 0)), (3, .int (-1)), (2, .int (nI 0)), (0, .ref (h 107)), (1, .int (nI 0))]) hx hb dX6_greatest_5 hl (by decide) rfl (fun ls hl => ?_)
  refine lv_iload hx hb dX6_greatest_7 (lv_at hl 0 rfl) ?_
  refine lv_aload_n hx hb dX6_greatest_9 rfl (lv_at hl 3 rfl) ?_
  refine va_get (D := (dC, dI)) (ci := 6) (v := .ref (h 101)) (C := RX6) (T := TX6) (N := 4) hx hb hts hinX6 hown hK hP 0 rfl rfl 0 (by decide) (hts (.fieldLink RX6 21 "MixedWords$Taker" "mix" "LMixedWords$Mix;") (by decide +kernel)) (fun _ h9 => h9) rfl dX6_greatest_10 ?_
  refine va_get (D := (dC, dI)) (ci := 3) (v := .int (fI 121)) (C := RX3) (T := TX3) (N := 6) hx hb hts hinX3 hown hK hP 1 rfl rfl 1 (by decide) (hts (.fieldLink RX6 36 "MixedWords$Mix" "width" "I") (by decide +kernel)) (fun _ h9 => h9) rfl dX6_greatest_13 ?_
  refine xt_i (y := nI 2) (by decide +kernel) ?_
  refine lv_icmp_ge (tgt := 69) hx hb dX6_greatest_16 (by decide) (fun c9 => False.elim (by revert c9; decide +kernel)) (fun _ => ?_)
  refine lv_aload_n hx hb dX6_greatest_19 rfl (lv_at hl 3 rfl) ?_
  refine va_get (D := (dC, dI)) (ci := 6) (v := .ref (h 101)) (C := RX6) (T := TX6) (N := 4) hx hb hts hinX6 hown hK hP 0 rfl rfl 0 (by decide) (hts (.fieldLink RX6 21 "MixedWords$Taker" "mix" "LMixedWords$Mix;") (by decide +kernel)) (fun _ h9 => h9) rfl dX6_greatest_20 ?_
  refine va_get (D := (dC, dI)) (ci := 3) (v := .ref (h 130)) (C := RX3) (T := TX3) (N := 6) hx hb hts hinX3 hown hK hP 1 rfl rfl 4 (by decide) (hts (.fieldLink RX6 48 "MixedWords$Mix" "cells" "[[I") (by decide +kernel)) (fun _ h9 => h9) rfl dX6_greatest_23 ?_
  refine lv_aload_n hx hb dX6_greatest_26 rfl (lv_at hl 3 rfl) ?_
  refine va_get (D := (dC, dI)) (ci := 6) (v := .ref (h 101)) (C := RX6) (T := TX6) (N := 4) hx hb hts hinX6 hown hK hP 0 rfl rfl 0 (by decide) (hts (.fieldLink RX6 21 "MixedWords$Taker" "mix" "LMixedWords$Mix;") (by decide +kernel)) (fun _ h9 => h9) rfl dX6_greatest_27 ?_
  refine va_get (D := (dC, dI)) (ci := 3) (v := .int (fI 120)) (C := RX3) (T := TX3) (N := 6) hx hb hts hinX3 hown hK hP 1 rfl rfl 0 (by decide) (hts (.fieldLink RX6 52 "MixedWords$Mix" "height" "I") (by decide +kernel)) (fun _ h9 => h9) rfl dX6_greatest_30 ?_
  refine xt_i (y := nI 2) (by decide +kernel) ?_
  refine lv_iload hx hb dX6_greatest_33 (lv_at hl 0 rfl) ?_
  refine lv_iload hx hb dX6_greatest_35 (lv_at hl 0 rfl) ?_
  refine xj_i (wc := (wD_11 h cs fI fL fA fQ fG fJ)) (wr := [(h 107, .inr (6, [.ref (h 101), .ref (h 190), .ref (h 191), .ref (h 192)])), (h 101, .inr (3, [.int (fI 120), .int (fI 121), .int (fI 122), .int (fI 123), .ref (h 130), .ref (h 136)])), (h 136, .inl (cs 0, 5, .inl (fA 136))), (h 190, .inl (cs 0, 5, .inl (fA 190))), (h 191, .inl (cs 0, 4, .inl (fA 191))), (h 192, .inl (cs 0, 4, .inl (fA 192)))]) hP hD hS hA [2, 3, 4, 5, 6, 7] [0, 1, 8, 9, 10, 11] rfl rfl (by decide) (by decide) (va_runSN (As := [.ref (h 130), .int (nI 2), .int (nI 0), .int (nI 0)]) (rest := []) ⟨hx, hb, hml, hown, hts⟩ (a_X9_product_12 l dC dI h cs H.size fI fL fA fQ fG fJ ) ⟨va_cnB (host := "MixedWords") 4 hts gX6_greatest_X9_product_n55 rfl rfl rfl hN.2.2.2.2.2.2.2.1 (hts (.initialized RX9) (by decide +kernel)) (by decide +kernel) ⟨Nat.le_of_ble_eq_true rfl, Nat.le_of_ble_eq_true rfl⟩, hts (.static yX9_product) (by decide +kernel), trivial⟩ (xpS (wc := (wD_11 h cs fI fL fA fQ fG fJ)) hP hD hK hN [2, 3, 4, 5, 6, 7] rfl (by decide) _) rfl rfl hl.1 rfl (lv_room (Nat.le_of_ble_eq_true rfl)) dX6_greatest_37 ⟨Nat.zero_le _, Nat.zero_le _⟩) (fun r_2 u_1 H locs hw hP hD hS => ?_)
  obtain ⟨hf_3, rfl⟩ := hw
  have hP : va_P (dC, dI) vwCl (wD_21 h cs fI fL fA fQ fG fJ) H := xP_sub hP [0, 1, 6, 7, 8, 9, 10, 11, 2, 3, 4, 5] rfl
  have hD : va_D A0 (wD_21 h cs fI fL fA fQ fG fJ) := hD.sub [0, 1, 6, 7, 8, 9, 10, 11, 2, 3, 4, 5] (by decide) rfl
  obtain rfl := hf_3
  refine lv_istore (lv' := [(5, .int (nI 0)), (4, .int (nI 0)), (3, .int (-1)), (2, .int (nI 0)), (0, .ref (h 107)), (1, .int (nI 0))]) hx hb dX6_greatest_40 hl (by decide) rfl (fun ls hl => ?_)
  refine lv_iload_n hx hb dX6_greatest_42 rfl (lv_at hl 5 rfl) ?_
  refine lv_iload hx hb dX6_greatest_43 (lv_at hl 1 rfl) ?_
  refine lv_ishr hx hb dX6_greatest_45 ?_
  refine xt_i (y := nI 0) (by decide +kernel) ?_
  refine lv_iconst (v := nI 1) hx hb dX6_greatest_46 (by decide) ?_
  refine lv_iand hx hb dX6_greatest_47 ?_
  refine xt_i (y := nI 0) (by decide +kernel) ?_
  refine lv_if_ne (tgt := 63) hx hb dX6_greatest_48 (by decide) (fun c9 => False.elim (by revert c9; decide +kernel)) (fun _ => ?_)
  refine lv_iload hx hb dX6_greatest_51 (lv_at hl 0 rfl) ?_
  refine lv_iload_n hx hb dX6_greatest_53 rfl (lv_at hl 2 rfl) ?_
  refine lv_icmp_le (tgt := 63) hx hb dX6_greatest_54 (by decide) (fun c9 => False.elim (by revert c9; decide +kernel)) (fun _ => ?_)
  refine lv_iload hx hb dX6_greatest_57 (lv_at hl 1 rfl) ?_
  refine lv_istore_n (lv' := [(2, .int (nI 0)), (5, .int (nI 0)), (4, .int (nI 0)), (3, .int (-1)), (0, .ref (h 107)), (1, .int (nI 0))]) hx hb dX6_greatest_59 rfl hl (by decide) rfl (fun ls hl => ?_)
  refine lv_iload hx hb dX6_greatest_60 (lv_at hl 1 rfl) ?_
  refine lv_istore_n (lv' := [(3, .int (nI 0)), (2, .int (nI 0)), (5, .int (nI 0)), (4, .int (nI 0)), (0, .ref (h 107)), (1, .int (nI 0))]) hx hb dX6_greatest_62 rfl hl (by decide) rfl (fun ls hl => ?_)
  refine lv_iinc (v := nI 1) (lv' := [(4, .int (nI 1)), (3, .int (nI 0)), (2, .int (nI 0)), (5, .int (nI 0)), (0, .ref (h 107)), (1, .int (nI 0))]) hx hb dX6_greatest_63 hl (k := 3) rfl (by decide +kernel) (by decide) rfl (fun ls hl => ?_)
  refine lv_goto (tgt := 7) hx hb dX6_greatest_66 (by decide) ?_
  refine lv_iload hx hb dX6_greatest_7 (lv_at hl 0 rfl) ?_
  refine lv_aload_n hx hb dX6_greatest_9 rfl (lv_at hl 4 rfl) ?_
  refine va_get (D := (dC, dI)) (ci := 6) (v := .ref (h 101)) (C := RX6) (T := TX6) (N := 4) hx hb hts hinX6 hown hK hP 0 rfl rfl 0 (by decide) (hts (.fieldLink RX6 21 "MixedWords$Taker" "mix" "LMixedWords$Mix;") (by decide +kernel)) (fun _ h9 => h9) rfl dX6_greatest_10 ?_
  refine va_get (D := (dC, dI)) (ci := 3) (v := .int (fI 121)) (C := RX3) (T := TX3) (N := 6) hx hb hts hinX3 hown hK hP 1 rfl rfl 1 (by decide) (hts (.fieldLink RX6 36 "MixedWords$Mix" "width" "I") (by decide +kernel)) (fun _ h9 => h9) rfl dX6_greatest_13 ?_
  refine xt_i (y := nI 2) (by decide +kernel) ?_
  refine lv_icmp_ge (tgt := 69) hx hb dX6_greatest_16 (by decide) (fun c9 => False.elim (by revert c9; decide +kernel)) (fun _ => ?_)
  refine lv_aload_n hx hb dX6_greatest_19 rfl (lv_at hl 4 rfl) ?_
  refine va_get (D := (dC, dI)) (ci := 6) (v := .ref (h 101)) (C := RX6) (T := TX6) (N := 4) hx hb hts hinX6 hown hK hP 0 rfl rfl 0 (by decide) (hts (.fieldLink RX6 21 "MixedWords$Taker" "mix" "LMixedWords$Mix;") (by decide +kernel)) (fun _ h9 => h9) rfl dX6_greatest_20 ?_
  refine va_get (D := (dC, dI)) (ci := 3) (v := .ref (h 130)) (C := RX3) (T := TX3) (N := 6) hx hb hts hinX3 hown hK hP 1 rfl rfl 4 (by decide) (hts (.fieldLink RX6 48 "MixedWords$Mix" "cells" "[[I") (by decide +kernel)) (fun _ h9 => h9) rfl dX6_greatest_23 ?_
  refine lv_aload_n hx hb dX6_greatest_26 rfl (lv_at hl 4 rfl) ?_
  refine va_get (D := (dC, dI)) (ci := 6) (v := .ref (h 101)) (C := RX6) (T := TX6) (N := 4) hx hb hts hinX6 hown hK hP 0 rfl rfl 0 (by decide) (hts (.fieldLink RX6 21 "MixedWords$Taker" "mix" "LMixedWords$Mix;") (by decide +kernel)) (fun _ h9 => h9) rfl dX6_greatest_27 ?_
  refine va_get (D := (dC, dI)) (ci := 3) (v := .int (fI 120)) (C := RX3) (T := TX3) (N := 6) hx hb hts hinX3 hown hK hP 1 rfl rfl 0 (by decide) (hts (.fieldLink RX6 52 "MixedWords$Mix" "height" "I") (by decide +kernel)) (fun _ h9 => h9) rfl dX6_greatest_30 ?_
  refine xt_i (y := nI 2) (by decide +kernel) ?_
  refine lv_iload hx hb dX6_greatest_33 (lv_at hl 0 rfl) ?_
  refine lv_iload hx hb dX6_greatest_35 (lv_at hl 0 rfl) ?_
  refine xj_i (wc := (wD_11 h cs fI fL fA fQ fG fJ)) (wr := [(h 107, .inr (6, [.ref (h 101), .ref (h 190), .ref (h 191), .ref (h 192)])), (h 101, .inr (3, [.int (fI 120), .int (fI 121), .int (fI 122), .int (fI 123), .ref (h 130), .ref (h 136)])), (h 136, .inl (cs 0, 5, .inl (fA 136))), (h 190, .inl (cs 0, 5, .inl (fA 190))), (h 191, .inl (cs 0, 4, .inl (fA 191))), (h 192, .inl (cs 0, 4, .inl (fA 192)))]) hP hD hS hA [2, 3, 4, 5, 6, 7] [0, 1, 8, 9, 10, 11] rfl rfl (by decide) (by decide) (va_runSN (As := [.ref (h 130), .int (nI 2), .int (nI 1), .int (nI 1)]) (rest := []) ⟨hx, hb, hml, hown, hts⟩ (a_X9_product_15 l dC dI h cs H.size fI fL fA fQ fG fJ ) ⟨va_cnB (host := "MixedWords") 4 hts gX6_greatest_X9_product_n55 rfl rfl rfl hN.2.2.2.2.2.2.2.1 (hts (.initialized RX9) (by decide +kernel)) (by decide +kernel) ⟨Nat.le_of_ble_eq_true rfl, Nat.le_of_ble_eq_true rfl⟩, hts (.static yX9_product) (by decide +kernel), trivial⟩ (xpS (wc := (wD_11 h cs fI fL fA fQ fG fJ)) hP hD hK hN [2, 3, 4, 5, 6, 7] rfl (by decide) _) rfl rfl hl.1 rfl (lv_room (Nat.le_of_ble_eq_true rfl)) dX6_greatest_37 ⟨Nat.zero_le _, Nat.zero_le _⟩) (fun r_5 u_4 H locs hw hP hD hS => ?_)
  obtain ⟨hf_6, rfl⟩ := hw
  have hP : va_P (dC, dI) vwCl (wD_21 h cs fI fL fA fQ fG fJ) H := xP_sub hP [0, 1, 6, 7, 8, 9, 10, 11, 2, 3, 4, 5] rfl
  have hD : va_D A0 (wD_21 h cs fI fL fA fQ fG fJ) := hD.sub [0, 1, 6, 7, 8, 9, 10, 11, 2, 3, 4, 5] (by decide) rfl
  obtain rfl := hf_6
  refine lv_istore (lv' := [(5, .int (nI 0)), (4, .int (nI 1)), (3, .int (nI 0)), (2, .int (nI 0)), (0, .ref (h 107)), (1, .int (nI 0))]) hx hb dX6_greatest_40 hl (by decide) rfl (fun ls hl => ?_)
  refine lv_iload_n hx hb dX6_greatest_42 rfl (lv_at hl 5 rfl) ?_
  refine lv_iload hx hb dX6_greatest_43 (lv_at hl 1 rfl) ?_
  refine lv_ishr hx hb dX6_greatest_45 ?_
  refine xt_i (y := nI 0) (by decide +kernel) ?_
  refine lv_iconst (v := nI 1) hx hb dX6_greatest_46 (by decide) ?_
  refine lv_iand hx hb dX6_greatest_47 ?_
  refine xt_i (y := nI 0) (by decide +kernel) ?_
  refine lv_if_ne (tgt := 63) hx hb dX6_greatest_48 (by decide) (fun c9 => False.elim (by revert c9; decide +kernel)) (fun _ => ?_)
  refine lv_iload hx hb dX6_greatest_51 (lv_at hl 0 rfl) ?_
  refine lv_iload_n hx hb dX6_greatest_53 rfl (lv_at hl 2 rfl) ?_
  refine lv_icmp_le (tgt := 63) hx hb dX6_greatest_54 (by decide) (fun _ => ?_) (fun c9 => False.elim (by revert c9; decide +kernel))
  refine lv_iinc (v := nI 2) (lv' := [(4, .int (nI 2)), (5, .int (nI 0)), (3, .int (nI 0)), (2, .int (nI 0)), (0, .ref (h 107)), (1, .int (nI 0))]) hx hb dX6_greatest_63 hl (k := 1) rfl (by decide +kernel) (by decide) rfl (fun ls hl => ?_)
  refine lv_goto (tgt := 7) hx hb dX6_greatest_66 (by decide) ?_
  refine lv_iload hx hb dX6_greatest_7 (lv_at hl 0 rfl) ?_
  refine lv_aload_n hx hb dX6_greatest_9 rfl (lv_at hl 4 rfl) ?_
  refine va_get (D := (dC, dI)) (ci := 6) (v := .ref (h 101)) (C := RX6) (T := TX6) (N := 4) hx hb hts hinX6 hown hK hP 0 rfl rfl 0 (by decide) (hts (.fieldLink RX6 21 "MixedWords$Taker" "mix" "LMixedWords$Mix;") (by decide +kernel)) (fun _ h9 => h9) rfl dX6_greatest_10 ?_
  refine va_get (D := (dC, dI)) (ci := 3) (v := .int (fI 121)) (C := RX3) (T := TX3) (N := 6) hx hb hts hinX3 hown hK hP 1 rfl rfl 1 (by decide) (hts (.fieldLink RX6 36 "MixedWords$Mix" "width" "I") (by decide +kernel)) (fun _ h9 => h9) rfl dX6_greatest_13 ?_
  refine xt_i (y := nI 2) (by decide +kernel) ?_
  refine lv_icmp_ge (tgt := 69) hx hb dX6_greatest_16 (by decide) (fun _ => ?_) (fun c9 => False.elim (by revert c9; decide +kernel))
  refine lv_iload_n hx hb dX6_greatest_69 rfl (lv_at hl 3 rfl) ?_
  exact xr_i (v := (nI 0)) hx hb hr hlocks hK hS dX6_greatest_70 (fI, fL, fA, fQ, fG, fJ) ⟨rfl, rfl⟩ hP hD
set_option maxRecDepth 20000 in
theorem ggX9_roundedUp_J9_floorDiv_f86c9 : GoodIn wsX9_roundedUp wsJ9_floorDiv_f86c9 := goodIn_r _ [4] (by decide +kernel) (by decide +kernel)
set_option maxRecDepth 20000 in
theorem gX9_roundedUp_J9_floorDiv_f86c9 : GoodIn wsX9_roundedUp (va_wsS RX9 308 yJ9_floorDiv_f86c9 wsJ9_floorDiv_f86c9) := goodIn_app (goodIn_of _ (by decide +kernel)) ggX9_roundedUp_J9_floorDiv_f86c9
theorem dX9_roundedUp_0 : decode cX9_roundedUp 0 = .ok (.lload_n 2, 1) := by decide +kernel
theorem dX9_roundedUp_1 : decode cX9_roundedUp 1 = .ok (.lconst 0, 1) := by decide +kernel
theorem dX9_roundedUp_2 : decode cX9_roundedUp 2 = .ok (.lcmp, 1) := by decide +kernel
theorem dX9_roundedUp_3 : decode cX9_roundedUp 3 = .ok (.ifCond .gt 7, 3) := by decide +kernel
theorem dX9_roundedUp_6 : decode cX9_roundedUp 6 = .ok (.lconst 0, 1) := by decide +kernel
theorem dX9_roundedUp_7 : decode cX9_roundedUp 7 = .ok (.goto 10, 3) := by decide +kernel
theorem dX9_roundedUp_10 : decode cX9_roundedUp 10 = .ok (.lload_n 0, 1) := by decide +kernel
theorem dX9_roundedUp_11 : decode cX9_roundedUp 11 = .ok (.lneg, 1) := by decide +kernel
theorem dX9_roundedUp_12 : decode cX9_roundedUp 12 = .ok (.lload_n 2, 1) := by decide +kernel
theorem dX9_roundedUp_13 : decode cX9_roundedUp 13 = .ok (.invokestatic 308, 3) := by decide +kernel
theorem dX9_roundedUp_16 : decode cX9_roundedUp 16 = .ok (.lneg, 1) := by decide +kernel
theorem dX9_roundedUp_17 : decode cX9_roundedUp 17 = .ok (.lreturn, 1) := by decide +kernel
set_option maxHeartbeats 4000000 in
set_option maxRecDepth 100000 in
theorem a_X9_roundedUp_26 (l : Launch) (dC : Nat → ClassId) (dI : Nat → Nat → Nat) (h : Nat → Nat) (cs : Nat → ClassId) (sz : Nat) (I : Nat → Int32) (L : Nat → Int64) (A : Nat → Nat → Int32) (Q : Nat → Nat → Int64) (G : Nat → Nat → Nat → Int32) (J : Nat → Nat → Nat → Int64) : Met l yX9_roundedUp wsX9_roundedUp ({ frames := 1, cells := 0, slots := 0, locals := 25 }) (va_Pc [.long (0 : Int64), .long (2 : Int64)] (xPre (dC, dI) ([] : va_W) (tysA cs) sz)) (va_Ql (fun (r : Int64) (u : CS) => (r = (0 : Int64)) ∧ u = (I, L, A, Q, G, J)) (xB (dC, dI) (tysA cs) (va_A ([] : va_W) sz) (fun _ : CS => ([] : va_W))) (va_A ([] : va_W) sz)) 0 0 (va_A ([] : va_W) sz) := by
  refine Met.ofW (cc := cX9_roundedUp) (maxL := 4) (ret := (some .long)) (by decide) rfl ?_
  intro p e s m args below meth c s₁ B hml hv
  obtain ⟨rfl, hsz, hP, hK, hD0, hN⟩ := hv
  have hx := B.exec
  have hb := B.bytes
  have hr := B.returns
  have hts := atoms_spec (ws := wsX9_roundedUp) B.pre
  have hown : s.vm.findClass RX9 = some m.cls := findClass_of_methodNamed B.named
  have hlocks := B.notSynchronized
  subst hsz
  have hD := hD0.self (sz := s.heap.size)
  generalize hAe : va_A ([] : va_W) s.heap.size = A0 at hD ⊢
  have hA : ∀ q : Nat, s.heap.size ≤ q → A0 q := fun q h => by rw [← hAe]; exact Or.inr h
  have hl := lv_entry ([.long (0 : Int64), .long (2 : Int64)]) (n := 4) (Nat.le_of_ble_eq_true rfl)
  rw [lg_entry_eq]
  generalize (lg_sl ([.long (0 : Int64), .long (2 : Int64)]) ++ List.replicate (4 - (lg_sl ([.long (0 : Int64), .long (2 : Int64)])).length) Slot.unset).toArray = ls at hl ⊢
  have hl : lv_has ls 4 [(0, .long (0 : Int64)), (2, .long (2 : Int64))] := hl
  generalize hH : s.heap = H at hP ⊢
  have hS : va_S A0 s.heap H [] := by rw [← hH]; exact va_S.rf
  refine lv_lload_n hx hb dX9_roundedUp_0 rfl (lv_at hl 1 rfl) ?_
  refine lv_lconst (v := 0) hx hb dX9_roundedUp_1 rfl ?_
  refine xl_gt (tgt := 10) hx hb dX9_roundedUp_2 dX9_roundedUp_3 (by decide) (fun _ => ?_) (fun c9 => False.elim (by revert c9; decide +kernel))
  refine lv_lload_n hx hb dX9_roundedUp_10 rfl (lv_at hl 0 rfl) ?_
  refine lv_lneg hx hb dX9_roundedUp_11 ?_
  refine xt_l (y := (0 : Int64)) (by decide +kernel) ?_
  refine lv_lload_n hx hb dX9_roundedUp_12 rfl (lv_at hl 1 rfl) ?_
  refine xa_fdiv hx hb (hml.trans hl.1.symm) hown (hts (.methodLink RX9 308 yJ9_floorDiv_f86c9) (by decide +kernel)) (hts (.static yJ9_floorDiv_f86c9) (by decide +kernel)) (hts (.initialized RJ9) (by decide +kernel)) (hts (.code yJ9_floorDiv_f86c9 cJ9_floorDiv_f86c9 6 (some .long)) (by decide +kernel)) (Nat.le_of_ble_eq_true rfl) (Nat.le_of_ble_eq_true rfl) (Nat.zero_le _) (Nat.zero_le _) (by decide +kernel) dX9_roundedUp_13 ?_
  refine xt_l (y := (0 : Int64)) (by decide +kernel) ?_
  refine lv_lneg hx hb dX9_roundedUp_16 ?_
  refine xt_l (y := (0 : Int64)) (by decide +kernel) ?_
  exact xr_l (v := (0 : Int64)) hx hb hr hlocks hK hS dX9_roundedUp_17 (I, L, A, Q, G, J) ⟨rfl, rfl⟩ hP hD
theorem dX9_held_0 : decode cX9_held 0 = .ok (.lconst 0, 1) := by decide +kernel
theorem dX9_held_1 : decode cX9_held 1 = .ok (.lload_n 0, 1) := by decide +kernel
theorem dX9_held_2 : decode cX9_held 2 = .ok (.iload_n 2, 1) := by decide +kernel
theorem dX9_held_3 : decode cX9_held 3 = .ok (.i2l, 1) := by decide +kernel
theorem dX9_held_4 : decode cX9_held 4 = .ok (.lconst 1, 1) := by decide +kernel
theorem dX9_held_5 : decode cX9_held 5 = .ok (.lsub, 1) := by decide +kernel
theorem dX9_held_6 : decode cX9_held 6 = .ok (.invokestatic 311, 3) := by decide +kernel
theorem dX9_held_9 : decode cX9_held 9 = .ok (.invokestatic 221, 3) := by decide +kernel
theorem dX9_held_12 : decode cX9_held 12 = .ok (.l2i, 1) := by decide +kernel
theorem dX9_held_13 : decode cX9_held 13 = .ok (.ireturn, 1) := by decide +kernel
set_option maxHeartbeats 4000000 in
set_option maxRecDepth 100000 in
theorem a_X9_held_27 (l : Launch) (dC : Nat → ClassId) (dI : Nat → Nat → Nat) (h : Nat → Nat) (cs : Nat → ClassId) (sz : Nat) (I : Nat → Int32) (L : Nat → Int64) (A : Nat → Nat → Int32) (Q : Nat → Nat → Int64) (G : Nat → Nat → Nat → Int32) (J : Nat → Nat → Nat → Int64) : Met l yX9_held wsX9_held ({ frames := 1, cells := 0, slots := 0, locals := 60 }) (va_Pc [.long (0 : Int64), .int (nI 2)] (xPre (dC, dI) ([] : va_W) (tysA cs) sz)) (va_Qi (fun (r : Int32) (u : CS) => (r = nI 0) ∧ u = (I, L, A, Q, G, J)) (xB (dC, dI) (tysA cs) (va_A ([] : va_W) sz) (fun _ : CS => ([] : va_W))) (va_A ([] : va_W) sz)) 0 0 (va_A ([] : va_W) sz) := by
  refine Met.ofW (cc := cX9_held) (maxL := 3) (ret := (some .int)) (by decide) rfl ?_
  intro p e s m args below meth c s₁ B hml hv
  obtain ⟨rfl, hsz, hP, hK, hD0, hN⟩ := hv
  have hx := B.exec
  have hb := B.bytes
  have hr := B.returns
  have hts := atoms_spec (ws := wsX9_held) B.pre
  have hown : s.vm.findClass RX9 = some m.cls := findClass_of_methodNamed B.named
  have hlocks := B.notSynchronized
  subst hsz
  have hD := hD0.self (sz := s.heap.size)
  generalize hAe : va_A ([] : va_W) s.heap.size = A0 at hD ⊢
  have hA : ∀ q : Nat, s.heap.size ≤ q → A0 q := fun q h => by rw [← hAe]; exact Or.inr h
  have hl := lv_entry ([.long (0 : Int64), .int (nI 2)]) (n := 3) (Nat.le_of_ble_eq_true rfl)
  rw [lg_entry_eq]
  generalize (lg_sl ([.long (0 : Int64), .int (nI 2)]) ++ List.replicate (3 - (lg_sl ([.long (0 : Int64), .int (nI 2)])).length) Slot.unset).toArray = ls at hl ⊢
  have hl : lv_has ls 3 [(0, .long (0 : Int64)), (2, .int (nI 2))] := hl
  generalize hH : s.heap = H at hP ⊢
  have hS : va_S A0 s.heap H [] := by rw [← hH]; exact va_S.rf
  refine lv_lconst (v := 0) hx hb dX9_held_0 rfl ?_
  refine lv_lload_n hx hb dX9_held_1 rfl (lv_at hl 0 rfl) ?_
  refine lv_iload_n hx hb dX9_held_2 rfl (lv_at hl 1 rfl) ?_
  refine lv_i2l (v := (2 : Int64)) hx hb dX9_held_3 (by decide +kernel) ?_
  refine lv_lconst (v := 1) hx hb dX9_held_4 rfl ?_
  refine lv_lsub hx hb dX9_held_5 ?_
  refine xt_l (y := (1 : Int64)) (by decide +kernel) ?_
  refine va_mmin_long hx hb (hml.trans hl.1.symm) hown (hts (.methodLink RX9 311 Lib.MathLoose.min_long.x) (by decide +kernel)) (hts (.static Lib.MathLoose.min_long.x) (by decide +kernel)) (hts (.initialized "java/lang/Math") (by decide +kernel)) (hts (.code Lib.MathLoose.min_long.x Lib.MathLoose.min_long.code 4 (some .long)) (by decide +kernel)) (Nat.le_of_ble_eq_true rfl) (Nat.le_of_ble_eq_true rfl) (Nat.zero_le _) (Nat.zero_le _) dX9_held_6 ?_
  refine xt_l (y := (0 : Int64)) (by decide +kernel) ?_
  refine va_mmax_long hx hb (hml.trans hl.1.symm) hown (hts (.methodLink RX9 221 Lib.MathLoose.max_long.x) (by decide +kernel)) (hts (.static Lib.MathLoose.max_long.x) (by decide +kernel)) (hts (.initialized "java/lang/Math") (by decide +kernel)) (hts (.code Lib.MathLoose.max_long.x Lib.MathLoose.max_long.code 4 (some .long)) (by decide +kernel)) (Nat.le_of_ble_eq_true rfl) (Nat.le_of_ble_eq_true rfl) (Nat.zero_le _) (Nat.zero_le _) dX9_held_9 ?_
  refine xt_l (y := (0 : Int64)) (by decide +kernel) ?_
  refine lv_l2i (v := nI 0) hx hb dX9_held_12 (by decide +kernel) ?_
  exact xr_i (v := (nI 0)) hx hb hr hlocks hK hS dX9_held_13 (I, L, A, Q, G, J) ⟨rfl, rfl⟩ hP hD
set_option maxRecDepth 20000 in
theorem ggX9_nearestLetter_X9_roundedUp : GoodIn wsX9_nearestLetter wsX9_roundedUp := goodIn_r _ [5, 6, 7, 8, 9] (by decide +kernel) (by decide +kernel)
set_option maxRecDepth 20000 in
theorem gX9_nearestLetter_X9_roundedUp : GoodIn wsX9_nearestLetter (va_wsS RX9 305 yX9_roundedUp wsX9_roundedUp) := goodIn_app (goodIn_of _ (by decide +kernel)) ggX9_nearestLetter_X9_roundedUp
set_option maxRecDepth 20000 in
theorem ggX9_nearestLetter_X9_held : GoodIn wsX9_nearestLetter wsX9_held := goodIn_r _ [12, 13, 14, 15, 16, 17, 18, 19] (by decide +kernel) (by decide +kernel)
set_option maxRecDepth 20000 in
theorem gX9_nearestLetter_X9_held : GoodIn wsX9_nearestLetter (va_wsS RX9 255 yX9_held wsX9_held) := goodIn_app (goodIn_of _ (by decide +kernel)) ggX9_nearestLetter_X9_held
theorem dX9_nearestLetter_0 : decode cX9_nearestLetter 0 = .ok (.lload_n 2, 1) := by decide +kernel
theorem dX9_nearestLetter_1 : decode cX9_nearestLetter 1 = .ok (.lconst 0, 1) := by decide +kernel
theorem dX9_nearestLetter_2 : decode cX9_nearestLetter 2 = .ok (.lcmp, 1) := by decide +kernel
theorem dX9_nearestLetter_3 : decode cX9_nearestLetter 3 = .ok (.ifCond .gt 5, 3) := by decide +kernel
theorem dX9_nearestLetter_6 : decode cX9_nearestLetter 6 = .ok (.iconst 0, 1) := by decide +kernel
theorem dX9_nearestLetter_7 : decode cX9_nearestLetter 7 = .ok (.ireturn, 1) := by decide +kernel
theorem dX9_nearestLetter_8 : decode cX9_nearestLetter 8 = .ok (.lload_n 0, 1) := by decide +kernel
theorem dX9_nearestLetter_9 : decode cX9_nearestLetter 9 = .ok (.iload 4, 2) := by decide +kernel
theorem dX9_nearestLetter_11 : decode cX9_nearestLetter 11 = .ok (.iconst 2, 1) := by decide +kernel
theorem dX9_nearestLetter_12 : decode cX9_nearestLetter 12 = .ok (.isub, 1) := by decide +kernel
theorem dX9_nearestLetter_13 : decode cX9_nearestLetter 13 = .ok (.i2l, 1) := by decide +kernel
theorem dX9_nearestLetter_14 : decode cX9_nearestLetter 14 = .ok (.lload_n 2, 1) := by decide +kernel
theorem dX9_nearestLetter_15 : decode cX9_nearestLetter 15 = .ok (.lmul, 1) := by decide +kernel
theorem dX9_nearestLetter_16 : decode cX9_nearestLetter 16 = .ok (.ladd, 1) := by decide +kernel
theorem dX9_nearestLetter_17 : decode cX9_nearestLetter 17 = .ok (.ldc2_w 303, 3) := by decide +kernel
theorem dX9_nearestLetter_20 : decode cX9_nearestLetter 20 = .ok (.lload_n 2, 1) := by decide +kernel
theorem dX9_nearestLetter_21 : decode cX9_nearestLetter 21 = .ok (.lmul, 1) := by decide +kernel
theorem dX9_nearestLetter_22 : decode cX9_nearestLetter 22 = .ok (.invokestatic 305, 3) := by decide +kernel
theorem dX9_nearestLetter_25 : decode cX9_nearestLetter 25 = .ok (.iload 4, 2) := by decide +kernel
theorem dX9_nearestLetter_27 : decode cX9_nearestLetter 27 = .ok (.invokestatic 255, 3) := by decide +kernel
theorem dX9_nearestLetter_30 : decode cX9_nearestLetter 30 = .ok (.ireturn, 1) := by decide +kernel
set_option maxHeartbeats 4000000 in
set_option maxRecDepth 100000 in
theorem a_X9_nearestLetter_25 (l : Launch) (dC : Nat → ClassId) (dI : Nat → Nat → Nat) (h : Nat → Nat) (cs : Nat → ClassId) (sz : Nat) (I : Nat → Int32) (L : Nat → Int64) (A : Nat → Nat → Int32) (Q : Nat → Nat → Int64) (G : Nat → Nat → Nat → Int32) (J : Nat → Nat → Nat → Int64) : Met l yX9_nearestLetter wsX9_nearestLetter ({ frames := 2, cells := 0, slots := 0, locals := 82 }) (va_Pc [.long (0 : Int64), .long (1 : Int64), .int (nI 2)] (xPre (dC, dI) ([] : va_W) (tysA cs) sz)) (va_Qi (fun (r : Int32) (u : CS) => (r = nI 0) ∧ u = (I, L, A, Q, G, J)) (xB (dC, dI) (tysA cs) (va_A ([] : va_W) sz) (fun _ : CS => ([] : va_W))) (va_A ([] : va_W) sz)) 0 0 (va_A ([] : va_W) sz) := by
  refine Met.ofW (cc := cX9_nearestLetter) (maxL := 5) (ret := (some .int)) (by decide) rfl ?_
  intro p e s m args below meth c s₁ B hml hv
  obtain ⟨rfl, hsz, hP, hK, hD0, hN⟩ := hv
  have hx := B.exec
  have hb := B.bytes
  have hr := B.returns
  have hts := atoms_spec (ws := wsX9_nearestLetter) B.pre
  have hown : s.vm.findClass RX9 = some m.cls := findClass_of_methodNamed B.named
  have hlocks := B.notSynchronized
  subst hsz
  have hD := hD0.self (sz := s.heap.size)
  generalize hAe : va_A ([] : va_W) s.heap.size = A0 at hD ⊢
  have hA : ∀ q : Nat, s.heap.size ≤ q → A0 q := fun q h => by rw [← hAe]; exact Or.inr h
  have hl := lv_entry ([.long (0 : Int64), .long (1 : Int64), .int (nI 2)]) (n := 5) (Nat.le_of_ble_eq_true rfl)
  rw [lg_entry_eq]
  generalize (lg_sl ([.long (0 : Int64), .long (1 : Int64), .int (nI 2)]) ++ List.replicate (5 - (lg_sl ([.long (0 : Int64), .long (1 : Int64), .int (nI 2)])).length) Slot.unset).toArray = ls at hl ⊢
  have hl : lv_has ls 5 [(0, .long (0 : Int64)), (2, .long (1 : Int64)), (4, .int (nI 2))] := hl
  generalize hH : s.heap = H at hP ⊢
  have hS : va_S A0 s.heap H [] := by rw [← hH]; exact va_S.rf
  refine lv_lload_n hx hb dX9_nearestLetter_0 rfl (lv_at hl 1 rfl) ?_
  refine lv_lconst (v := 0) hx hb dX9_nearestLetter_1 rfl ?_
  refine xl_gt (tgt := 8) hx hb dX9_nearestLetter_2 dX9_nearestLetter_3 (by decide) (fun _ => ?_) (fun c9 => False.elim (by revert c9; decide +kernel))
  refine lv_lload_n hx hb dX9_nearestLetter_8 rfl (lv_at hl 0 rfl) ?_
  refine lv_iload hx hb dX9_nearestLetter_9 (lv_at hl 2 rfl) ?_
  refine lv_iconst (v := nI 2) hx hb dX9_nearestLetter_11 (by decide) ?_
  refine lv_isub hx hb dX9_nearestLetter_12 ?_
  refine xt_i (y := nI 0) (by decide +kernel) ?_
  refine lv_i2l (v := (0 : Int64)) hx hb dX9_nearestLetter_13 (by decide +kernel) ?_
  refine lv_lload_n hx hb dX9_nearestLetter_14 rfl (lv_at hl 1 rfl) ?_
  refine lv_lmul hx hb dX9_nearestLetter_15 ?_
  refine xt_l (y := (0 : Int64)) (by decide +kernel) ?_
  refine lv_ladd hx hb dX9_nearestLetter_16 ?_
  refine xt_l (y := (0 : Int64)) (by decide +kernel) ?_
  refine lv_ldc2 (v := 2) hx hb hown (hts (.constantLong RX9 303 (2)) (by decide +kernel)) dX9_nearestLetter_17 ?_
  refine lv_lload_n hx hb dX9_nearestLetter_20 rfl (lv_at hl 1 rfl) ?_
  refine lv_lmul hx hb dX9_nearestLetter_21 ?_
  refine xt_l (y := (2 : Int64)) (by decide +kernel) ?_
  refine xj_l (wc := ([] : va_W)) (wr := ([] : va_W)) hP hD hS hA [] [] rfl rfl (by decide) (by decide) (va_runS (As := [.long (0 : Int64), .long (2 : Int64)]) (rest := []) ⟨hx, hb, hml, hown, hts⟩ (a_X9_roundedUp_26 l dC dI h cs H.size I L A Q G J ) (va_cwS 2 hts gX9_nearestLetter_X9_roundedUp rfl rfl rfl (by decide +kernel) ⟨Nat.le_of_ble_eq_true rfl, Nat.le_of_ble_eq_true rfl⟩) (xpS (wc := ([] : va_W)) hP hD hK hN [] rfl (by decide) _) rfl rfl hl.1 rfl (lv_room (Nat.le_of_ble_eq_true rfl)) dX9_nearestLetter_22 ⟨Nat.zero_le _, Nat.zero_le _⟩) (fun r_2 u_1 H locs hw hP hD hS => ?_)
  obtain ⟨hf_3, rfl⟩ := hw
  obtain rfl := hf_3
  refine lv_iload hx hb dX9_nearestLetter_25 (lv_at hl 2 rfl) ?_
  refine xj_i (wc := ([] : va_W)) (wr := ([] : va_W)) hP hD hS hA [] [] rfl rfl (by decide) (by decide) (va_runS (As := [.long (0 : Int64), .int (nI 2)]) (rest := []) ⟨hx, hb, hml, hown, hts⟩ (a_X9_held_27 l dC dI h cs H.size I L A Q G J ) (va_cwS 2 hts gX9_nearestLetter_X9_held rfl rfl rfl (by decide +kernel) ⟨Nat.le_of_ble_eq_true rfl, Nat.le_of_ble_eq_true rfl⟩) (xpS (wc := ([] : va_W)) hP hD hK hN [] rfl (by decide) _) rfl rfl hl.1 rfl (lv_room (Nat.le_of_ble_eq_true rfl)) dX9_nearestLetter_27 ⟨Nat.zero_le _, Nat.zero_le _⟩) (fun r_5 u_4 H locs hw hP hD hS => ?_)
  obtain ⟨hf_6, rfl⟩ := hw
  obtain rfl := hf_6
  exact xr_i (v := (nI 0)) hx hb hr hlocks hK hS dX9_nearestLetter_30 (I, L, A, Q, G, J) ⟨rfl, rfl⟩ hP hD
set_option maxRecDepth 20000 in
theorem ggX6_takeOff_X9_product : GoodIn wsX6_takeOff wsX9_product := goodIn_r _ [13] (by decide +kernel) (by decide +kernel)
set_option maxRecDepth 20000 in
theorem gX6_takeOff_X9_product_n55 : GoodIn wsX6_takeOff (wsX9_product) := ggX6_takeOff_X9_product
set_option maxRecDepth 20000 in
theorem ggX6_takeOff_X9_nearestLetter : GoodIn wsX6_takeOff wsX9_nearestLetter := goodIn_r _ [15, 16, 17, 18, 12, 19, 20, 21, 22, 23, 24, 25, 26, 27, 28, 7, 29, 30, 31, 32] (by decide +kernel) (by decide +kernel)
set_option maxRecDepth 20000 in
theorem gX6_takeOff_X9_nearestLetter_n68 : GoodIn wsX6_takeOff (wsX9_nearestLetter) := ggX6_takeOff_X9_nearestLetter
theorem dX6_takeOff_0 : decode cX6_takeOff 0 = .ok (.iconst 0, 1) := by decide +kernel
theorem dX6_takeOff_1 : decode cX6_takeOff 1 = .ok (.istore_n 2, 1) := by decide +kernel
theorem dX6_takeOff_2 : decode cX6_takeOff 2 = .ok (.iconst 0, 1) := by decide +kernel
theorem dX6_takeOff_3 : decode cX6_takeOff 3 = .ok (.istore_n 3, 1) := by decide +kernel
theorem dX6_takeOff_4 : decode cX6_takeOff 4 = .ok (.iload_n 3, 1) := by decide +kernel
theorem dX6_takeOff_5 : decode cX6_takeOff 5 = .ok (.aload_n 0, 1) := by decide +kernel
theorem dX6_takeOff_6 : decode cX6_takeOff 6 = .ok (.getfield 21, 3) := by decide +kernel
theorem dX6_takeOff_9 : decode cX6_takeOff 9 = .ok (.getfield 52, 3) := by decide +kernel
theorem dX6_takeOff_12 : decode cX6_takeOff 12 = .ok (.if_icmp .ge 30, 3) := by decide +kernel
theorem dX6_takeOff_15 : decode cX6_takeOff 15 = .ok (.iload_n 2, 1) := by decide +kernel
theorem dX6_takeOff_16 : decode cX6_takeOff 16 = .ok (.aload_n 0, 1) := by decide +kernel
theorem dX6_takeOff_17 : decode cX6_takeOff 17 = .ok (.getfield 21, 3) := by decide +kernel
theorem dX6_takeOff_20 : decode cX6_takeOff 20 = .ok (.getfield 48, 3) := by decide +kernel
theorem dX6_takeOff_23 : decode cX6_takeOff 23 = .ok (.iload_n 3, 1) := by decide +kernel
theorem dX6_takeOff_24 : decode cX6_takeOff 24 = .ok (.aaload, 1) := by decide +kernel
theorem dX6_takeOff_25 : decode cX6_takeOff 25 = .ok (.iload_n 1, 1) := by decide +kernel
theorem dX6_takeOff_26 : decode cX6_takeOff 26 = .ok (.iaload, 1) := by decide +kernel
theorem dX6_takeOff_27 : decode cX6_takeOff 27 = .ok (.aload_n 0, 1) := by decide +kernel
theorem dX6_takeOff_28 : decode cX6_takeOff 28 = .ok (.getfield 9, 3) := by decide +kernel
theorem dX6_takeOff_31 : decode cX6_takeOff 31 = .ok (.iload_n 3, 1) := by decide +kernel
theorem dX6_takeOff_32 : decode cX6_takeOff 32 = .ok (.iaload, 1) := by decide +kernel
theorem dX6_takeOff_33 : decode cX6_takeOff 33 = .ok (.imul, 1) := by decide +kernel
theorem dX6_takeOff_34 : decode cX6_takeOff 34 = .ok (.iadd, 1) := by decide +kernel
theorem dX6_takeOff_35 : decode cX6_takeOff 35 = .ok (.istore_n 2, 1) := by decide +kernel
theorem dX6_takeOff_36 : decode cX6_takeOff 36 = .ok (.iinc 3 1, 3) := by decide +kernel
theorem dX6_takeOff_39 : decode cX6_takeOff 39 = .ok (.goto (-35), 3) := by decide +kernel
theorem dX6_takeOff_42 : decode cX6_takeOff 42 = .ok (.iconst 1, 1) := by decide +kernel
theorem dX6_takeOff_43 : decode cX6_takeOff 43 = .ok (.aload_n 0, 1) := by decide +kernel
theorem dX6_takeOff_44 : decode cX6_takeOff 44 = .ok (.getfield 21, 3) := by decide +kernel
theorem dX6_takeOff_47 : decode cX6_takeOff 47 = .ok (.getfield 48, 3) := by decide +kernel
theorem dX6_takeOff_50 : decode cX6_takeOff 50 = .ok (.aload_n 0, 1) := by decide +kernel
theorem dX6_takeOff_51 : decode cX6_takeOff 51 = .ok (.getfield 21, 3) := by decide +kernel
theorem dX6_takeOff_54 : decode cX6_takeOff 54 = .ok (.getfield 52, 3) := by decide +kernel
theorem dX6_takeOff_57 : decode cX6_takeOff 57 = .ok (.iload_n 1, 1) := by decide +kernel
theorem dX6_takeOff_58 : decode cX6_takeOff 58 = .ok (.iload_n 1, 1) := by decide +kernel
theorem dX6_takeOff_59 : decode cX6_takeOff 59 = .ok (.invokestatic 55, 3) := by decide +kernel
theorem dX6_takeOff_62 : decode cX6_takeOff 62 = .ok (.invokestatic 59, 3) := by decide +kernel
theorem dX6_takeOff_65 : decode cX6_takeOff 65 = .ok (.istore_n 3, 1) := by decide +kernel
theorem dX6_takeOff_66 : decode cX6_takeOff 66 = .ok (.aload_n 0, 1) := by decide +kernel
theorem dX6_takeOff_67 : decode cX6_takeOff 67 = .ok (.getfield 18, 3) := by decide +kernel
theorem dX6_takeOff_70 : decode cX6_takeOff 70 = .ok (.iload_n 1, 1) := by decide +kernel
theorem dX6_takeOff_71 : decode cX6_takeOff 71 = .ok (.iload_n 2, 1) := by decide +kernel
theorem dX6_takeOff_72 : decode cX6_takeOff 72 = .ok (.i2l, 1) := by decide +kernel
theorem dX6_takeOff_73 : decode cX6_takeOff 73 = .ok (.iload_n 3, 1) := by decide +kernel
theorem dX6_takeOff_74 : decode cX6_takeOff 74 = .ok (.i2l, 1) := by decide +kernel
theorem dX6_takeOff_75 : decode cX6_takeOff 75 = .ok (.aload_n 0, 1) := by decide +kernel
theorem dX6_takeOff_76 : decode cX6_takeOff 76 = .ok (.getfield 21, 3) := by decide +kernel
theorem dX6_takeOff_79 : decode cX6_takeOff 79 = .ok (.getfield 65, 3) := by decide +kernel
theorem dX6_takeOff_82 : decode cX6_takeOff 82 = .ok (.invokestatic 68, 3) := by decide +kernel
theorem dX6_takeOff_85 : decode cX6_takeOff 85 = .ok (.iastore, 1) := by decide +kernel
theorem dX6_takeOff_86 : decode cX6_takeOff 86 = .ok (.iconst 2, 1) := by decide +kernel
theorem dX6_takeOff_87 : decode cX6_takeOff 87 = .ok (.aload_n 0, 1) := by decide +kernel
theorem dX6_takeOff_88 : decode cX6_takeOff 88 = .ok (.getfield 18, 3) := by decide +kernel
theorem dX6_takeOff_91 : decode cX6_takeOff 91 = .ok (.iload_n 1, 1) := by decide +kernel
theorem dX6_takeOff_92 : decode cX6_takeOff 92 = .ok (.iaload, 1) := by decide +kernel
theorem dX6_takeOff_93 : decode cX6_takeOff 93 = .ok (.imul, 1) := by decide +kernel
theorem dX6_takeOff_94 : decode cX6_takeOff 94 = .ok (.aload_n 0, 1) := by decide +kernel
theorem dX6_takeOff_95 : decode cX6_takeOff 95 = .ok (.getfield 21, 3) := by decide +kernel
theorem dX6_takeOff_98 : decode cX6_takeOff 98 = .ok (.getfield 65, 3) := by decide +kernel
theorem dX6_takeOff_101 : decode cX6_takeOff 101 = .ok (.isub, 1) := by decide +kernel
theorem dX6_takeOff_102 : decode cX6_takeOff 102 = .ok (.iconst 1, 1) := by decide +kernel
theorem dX6_takeOff_103 : decode cX6_takeOff 103 = .ok (.iadd, 1) := by decide +kernel
theorem dX6_takeOff_104 : decode cX6_takeOff 104 = .ok (.istore 4, 2) := by decide +kernel
theorem dX6_takeOff_106 : decode cX6_takeOff 106 = .ok (.iconst 0, 1) := by decide +kernel
theorem dX6_takeOff_107 : decode cX6_takeOff 107 = .ok (.istore 5, 2) := by decide +kernel
theorem dX6_takeOff_109 : decode cX6_takeOff 109 = .ok (.iload 5, 2) := by decide +kernel
theorem dX6_takeOff_111 : decode cX6_takeOff 111 = .ok (.aload_n 0, 1) := by decide +kernel
theorem dX6_takeOff_112 : decode cX6_takeOff 112 = .ok (.getfield 21, 3) := by decide +kernel
theorem dX6_takeOff_115 : decode cX6_takeOff 115 = .ok (.getfield 52, 3) := by decide +kernel
theorem dX6_takeOff_118 : decode cX6_takeOff 118 = .ok (.if_icmp .ge 34, 3) := by decide +kernel
theorem dX6_takeOff_121 : decode cX6_takeOff 121 = .ok (.aload_n 0, 1) := by decide +kernel
theorem dX6_takeOff_122 : decode cX6_takeOff 122 = .ok (.getfield 9, 3) := by decide +kernel
theorem dX6_takeOff_125 : decode cX6_takeOff 125 = .ok (.iload 5, 2) := by decide +kernel
theorem dX6_takeOff_127 : decode cX6_takeOff 127 = .ok (.dup2, 1) := by decide +kernel
theorem dX6_takeOff_128 : decode cX6_takeOff 128 = .ok (.iaload, 1) := by decide +kernel
theorem dX6_takeOff_129 : decode cX6_takeOff 129 = .ok (.iload 4, 2) := by decide +kernel
theorem dX6_takeOff_131 : decode cX6_takeOff 131 = .ok (.aload_n 0, 1) := by decide +kernel
theorem dX6_takeOff_132 : decode cX6_takeOff 132 = .ok (.getfield 21, 3) := by decide +kernel
theorem dX6_takeOff_135 : decode cX6_takeOff 135 = .ok (.getfield 48, 3) := by decide +kernel
theorem dX6_takeOff_138 : decode cX6_takeOff 138 = .ok (.iload 5, 2) := by decide +kernel
theorem dX6_takeOff_140 : decode cX6_takeOff 140 = .ok (.aaload, 1) := by decide +kernel
theorem dX6_takeOff_141 : decode cX6_takeOff 141 = .ok (.iload_n 1, 1) := by decide +kernel
theorem dX6_takeOff_142 : decode cX6_takeOff 142 = .ok (.iaload, 1) := by decide +kernel
theorem dX6_takeOff_143 : decode cX6_takeOff 143 = .ok (.imul, 1) := by decide +kernel
theorem dX6_takeOff_144 : decode cX6_takeOff 144 = .ok (.isub, 1) := by decide +kernel
theorem dX6_takeOff_145 : decode cX6_takeOff 145 = .ok (.iastore, 1) := by decide +kernel
theorem dX6_takeOff_146 : decode cX6_takeOff 146 = .ok (.iinc 5 1, 3) := by decide +kernel
theorem dX6_takeOff_149 : decode cX6_takeOff 149 = .ok (.goto (-40), 3) := by decide +kernel
theorem dX6_takeOff_152 : decode cX6_takeOff 152 = .ok (.return_, 1) := by decide +kernel
set_option maxHeartbeats 4000000 in
set_option maxRecDepth 100000 in
theorem a_X6_takeOff_24 (l : Launch) (dC : Nat → ClassId) (dI : Nat → Nat → Nat) (h : Nat → Nat) (cs : Nat → ClassId) (sz : Nat) (I : Nat → Int32) (L : Nat → Int64) (A : Nat → Nat → Int32) (Q : Nat → Nat → Int64) (G : Nat → Nat → Nat → Int32) (J : Nat → Nat → Nat → Int64) : Met l yX6_takeOff wsX6_takeOff ({ frames := 3, cells := 0, slots := 0, locals := 106 }) (va_Pc [.ref (h 107), .int (nI 0)] (xPre (dC, dI) (wD_21 h cs fI fL fA fQ fG fJ) (tysA cs) sz)) (va_Qv (fun (u : CS) => (True) ∧ u = (fI, fL, fA, fQ, fG, fJ)) (xB (dC, dI) (tysA cs) (va_A (wD_21 h cs fI fL fA fQ fG fJ) sz) (fun u : CS => wD_21 h cs u.1 u.2.1 u.2.2.1 u.2.2.2.1 u.2.2.2.2.1 u.2.2.2.2.2)) (va_A (wD_21 h cs fI fL fA fQ fG fJ) sz)) 0 0 (va_A (wD_21 h cs fI fL fA fQ fG fJ) sz) := by
  refine Met.ofW (cc := cX6_takeOff) (maxL := 6) (ret := none) (by decide) rfl ?_
  intro p e s m args below meth c s₁ B hml hv
  obtain ⟨rfl, hsz, hP, hK, hD0, hN⟩ := hv
  have hx := B.exec
  have hb := B.bytes
  have hr := B.returns
  have hts := atoms_spec (ws := wsX6_takeOff) B.pre
  have hown : s.vm.findClass RX6 = some m.cls := findClass_of_methodNamed B.named
  have hlocks := B.notSynchronized
  subst hsz
  have hD := hD0.self (sz := s.heap.size)
  generalize hAe : va_A (wD_21 h cs fI fL fA fQ fG fJ) s.heap.size = A0 at hD ⊢
  have hA : ∀ q : Nat, s.heap.size ≤ q → A0 q := fun q h => by rw [← hAe]; exact Or.inr h
  have hl := lv_entry ([.ref (h 107), .int (nI 0)]) (n := 6) (Nat.le_of_ble_eq_true rfl)
  rw [lg_entry_eq]
  generalize (lg_sl ([.ref (h 107), .int (nI 0)]) ++ List.replicate (6 - (lg_sl ([.ref (h 107), .int (nI 0)])).length) Slot.unset).toArray = ls at hl ⊢
  have hl : lv_has ls 6 [(0, .ref (h 107)), (1, .int (nI 0))] := hl
  generalize hH : s.heap = H at hP ⊢
  have hS : va_S A0 s.heap H [] := by rw [← hH]; exact va_S.rf
  have hinX6 : ∀ w ∈ wsX60, w ∈ wsX6_takeOff := by decide +kernel
  have hinX3 : ∀ w ∈ wsX30, w ∈ wsX6_takeOff := by decide +kernel
  refine lv_iconst (v := nI 0) hx hb dX6_takeOff_0 (by decide) ?_
  refine lv_istore_n (lv' := [(2, .int (nI 0)), (0, .ref (h 107)), (1, .int (nI 0))]) hx hb dX6_takeOff_1 rfl hl (by decide) rfl (fun ls hl => ?_)
  refine lv_iconst (v := nI 0) hx hb dX6_takeOff_2 (by decide) ?_
  refine lv_istore_n (lv' := [(3, .int (nI 0)), (2, .int (nI 0)), (0, .ref (h 107)), (1, .int (nI 0))]) hx hb dX6_takeOff_3 rfl hl (by decide) rfl (fun ls hl => ?_)
  refine lv_iload_n hx hb dX6_takeOff_4 rfl (lv_at hl 0 rfl) ?_
  refine lv_aload_n hx hb dX6_takeOff_5 rfl (lv_at hl 2 rfl) ?_
  refine va_get (D := (dC, dI)) (ci := 6) (v := .ref (h 101)) (C := RX6) (T := TX6) (N := 4) hx hb hts hinX6 hown hK hP 0 rfl rfl 0 (by decide) (hts (.fieldLink RX6 21 "MixedWords$Taker" "mix" "LMixedWords$Mix;") (by decide +kernel)) (fun _ h9 => h9) rfl dX6_takeOff_6 ?_
  refine va_get (D := (dC, dI)) (ci := 3) (v := .int (fI 120)) (C := RX3) (T := TX3) (N := 6) hx hb hts hinX3 hown hK hP 1 rfl rfl 0 (by decide) (hts (.fieldLink RX6 52 "MixedWords$Mix" "height" "I") (by decide +kernel)) (fun _ h9 => h9) rfl dX6_takeOff_9 ?_
  refine xt_i (y := nI 2) (by decide +kernel) ?_
  refine lv_icmp_ge (tgt := 42) hx hb dX6_takeOff_12 (by decide) (fun c9 => False.elim (by revert c9; decide +kernel)) (fun _ => ?_)
  refine lv_iload_n hx hb dX6_takeOff_15 rfl (lv_at hl 1 rfl) ?_
  refine lv_aload_n hx hb dX6_takeOff_16 rfl (lv_at hl 2 rfl) ?_
  refine va_get (D := (dC, dI)) (ci := 6) (v := .ref (h 101)) (C := RX6) (T := TX6) (N := 4) hx hb hts hinX6 hown hK hP 0 rfl rfl 0 (by decide) (hts (.fieldLink RX6 21 "MixedWords$Taker" "mix" "LMixedWords$Mix;") (by decide +kernel)) (fun _ h9 => h9) rfl dX6_takeOff_17 ?_
  refine va_get (D := (dC, dI)) (ci := 3) (v := .ref (h 130)) (C := RX3) (T := TX3) (N := 6) hx hb hts hinX3 hown hK hP 1 rfl rfl 4 (by decide) (hts (.fieldLink RX6 48 "MixedWords$Mix" "cells" "[[I") (by decide +kernel)) (fun _ h9 => h9) rfl dX6_takeOff_20 ?_
  refine lv_iload_n hx hb dX6_takeOff_23 rfl (lv_at hl 0 rfl) ?_
  refine xa_aald (b := h 131) hx hb hK hP 2 3 rfl rfl rfl (by omega) (by decide) (if_pos (by omega)) dX6_takeOff_24 ?_
  refine lv_iload_n hx hb dX6_takeOff_25 rfl (lv_at hl 3 rfl) ?_
  refine xa_iald hx hb hK hP 3 0 rfl rfl (by omega) (by decide) dX6_takeOff_26 ?_
  refine xt_i (y := nI 0) (by decide +kernel) ?_
  refine lv_aload_n hx hb dX6_takeOff_27 rfl (lv_at hl 2 rfl) ?_
  refine va_get (D := (dC, dI)) (ci := 6) (v := .ref (h 190)) (C := RX6) (T := TX6) (N := 4) hx hb hts hinX6 hown hK hP 0 rfl rfl 1 (by decide) (hts (.fieldLink RX6 9 "MixedWords$Taker" "left" "[I") (by decide +kernel)) (fun _ h9 => h9) rfl dX6_takeOff_28 ?_
  refine lv_iload_n hx hb dX6_takeOff_31 rfl (lv_at hl 0 rfl) ?_
  refine xa_iald hx hb hK hP 9 0 rfl rfl (by omega) (by decide) dX6_takeOff_32 ?_
  refine xt_i (y := nI 0) (by decide +kernel) ?_
  refine lv_imul hx hb dX6_takeOff_33 ?_
  refine xt_i (y := nI 0) (by decide +kernel) ?_
  refine lv_iadd hx hb dX6_takeOff_34 ?_
  refine xt_i (y := nI 0) (by decide +kernel) ?_
  refine lv_istore_n (lv' := [(2, .int (nI 0)), (3, .int (nI 0)), (0, .ref (h 107)), (1, .int (nI 0))]) hx hb dX6_takeOff_35 rfl hl (by decide) rfl (fun ls hl => ?_)
  refine lv_iinc (v := nI 1) (lv' := [(3, .int (nI 1)), (2, .int (nI 0)), (0, .ref (h 107)), (1, .int (nI 0))]) hx hb dX6_takeOff_36 hl (k := 1) rfl (by decide +kernel) (by decide) rfl (fun ls hl => ?_)
  refine lv_goto (tgt := 4) hx hb dX6_takeOff_39 (by decide) ?_
  refine lv_iload_n hx hb dX6_takeOff_4 rfl (lv_at hl 0 rfl) ?_
  refine lv_aload_n hx hb dX6_takeOff_5 rfl (lv_at hl 2 rfl) ?_
  refine va_get (D := (dC, dI)) (ci := 6) (v := .ref (h 101)) (C := RX6) (T := TX6) (N := 4) hx hb hts hinX6 hown hK hP 0 rfl rfl 0 (by decide) (hts (.fieldLink RX6 21 "MixedWords$Taker" "mix" "LMixedWords$Mix;") (by decide +kernel)) (fun _ h9 => h9) rfl dX6_takeOff_6 ?_
  refine va_get (D := (dC, dI)) (ci := 3) (v := .int (fI 120)) (C := RX3) (T := TX3) (N := 6) hx hb hts hinX3 hown hK hP 1 rfl rfl 0 (by decide) (hts (.fieldLink RX6 52 "MixedWords$Mix" "height" "I") (by decide +kernel)) (fun _ h9 => h9) rfl dX6_takeOff_9 ?_
  refine xt_i (y := nI 2) (by decide +kernel) ?_
  refine lv_icmp_ge (tgt := 42) hx hb dX6_takeOff_12 (by decide) (fun c9 => False.elim (by revert c9; decide +kernel)) (fun _ => ?_)
  refine lv_iload_n hx hb dX6_takeOff_15 rfl (lv_at hl 1 rfl) ?_
  refine lv_aload_n hx hb dX6_takeOff_16 rfl (lv_at hl 2 rfl) ?_
  refine va_get (D := (dC, dI)) (ci := 6) (v := .ref (h 101)) (C := RX6) (T := TX6) (N := 4) hx hb hts hinX6 hown hK hP 0 rfl rfl 0 (by decide) (hts (.fieldLink RX6 21 "MixedWords$Taker" "mix" "LMixedWords$Mix;") (by decide +kernel)) (fun _ h9 => h9) rfl dX6_takeOff_17 ?_
  refine va_get (D := (dC, dI)) (ci := 3) (v := .ref (h 130)) (C := RX3) (T := TX3) (N := 6) hx hb hts hinX3 hown hK hP 1 rfl rfl 4 (by decide) (hts (.fieldLink RX6 48 "MixedWords$Mix" "cells" "[[I") (by decide +kernel)) (fun _ h9 => h9) rfl dX6_takeOff_20 ?_
  refine lv_iload_n hx hb dX6_takeOff_23 rfl (lv_at hl 0 rfl) ?_
  refine xa_aald (b := h 132) hx hb hK hP 2 3 rfl rfl rfl (by omega) (by decide) (if_pos (by omega)) dX6_takeOff_24 ?_
  refine lv_iload_n hx hb dX6_takeOff_25 rfl (lv_at hl 3 rfl) ?_
  refine xa_iald hx hb hK hP 4 0 rfl rfl (by omega) (by decide) dX6_takeOff_26 ?_
  refine xt_i (y := nI 0) (by decide +kernel) ?_
  refine lv_aload_n hx hb dX6_takeOff_27 rfl (lv_at hl 2 rfl) ?_
  refine va_get (D := (dC, dI)) (ci := 6) (v := .ref (h 190)) (C := RX6) (T := TX6) (N := 4) hx hb hts hinX6 hown hK hP 0 rfl rfl 1 (by decide) (hts (.fieldLink RX6 9 "MixedWords$Taker" "left" "[I") (by decide +kernel)) (fun _ h9 => h9) rfl dX6_takeOff_28 ?_
  refine lv_iload_n hx hb dX6_takeOff_31 rfl (lv_at hl 0 rfl) ?_
  refine xa_iald hx hb hK hP 9 0 rfl rfl (by omega) (by decide) dX6_takeOff_32 ?_
  refine xt_i (y := nI 0) (by decide +kernel) ?_
  refine lv_imul hx hb dX6_takeOff_33 ?_
  refine xt_i (y := nI 0) (by decide +kernel) ?_
  refine lv_iadd hx hb dX6_takeOff_34 ?_
  refine xt_i (y := nI 0) (by decide +kernel) ?_
  refine lv_istore_n (lv' := [(2, .int (nI 0)), (3, .int (nI 1)), (0, .ref (h 107)), (1, .int (nI 0))]) hx hb dX6_takeOff_35 rfl hl (by decide) rfl (fun ls hl => ?_)
  refine lv_iinc (v := nI 2) (lv' := [(3, .int (nI 2)), (2, .int (nI 0)), (0, .ref (h 107)), (1, .int (nI 0))]) hx hb dX6_takeOff_36 hl (k := 1) rfl (by decide +kernel) (by decide) rfl (fun ls hl => ?_)
  refine lv_goto (tgt := 4) hx hb dX6_takeOff_39 (by decide) ?_
  refine lv_iload_n hx hb dX6_takeOff_4 rfl (lv_at hl 0 rfl) ?_
  refine lv_aload_n hx hb dX6_takeOff_5 rfl (lv_at hl 2 rfl) ?_
  refine va_get (D := (dC, dI)) (ci := 6) (v := .ref (h 101)) (C := RX6) (T := TX6) (N := 4) hx hb hts hinX6 hown hK hP 0 rfl rfl 0 (by decide) (hts (.fieldLink RX6 21 "MixedWords$Taker" "mix" "LMixedWords$Mix;") (by decide +kernel)) (fun _ h9 => h9) rfl dX6_takeOff_6 ?_
  refine va_get (D := (dC, dI)) (ci := 3) (v := .int (fI 120)) (C := RX3) (T := TX3) (N := 6) hx hb hts hinX3 hown hK hP 1 rfl rfl 0 (by decide) (hts (.fieldLink RX6 52 "MixedWords$Mix" "height" "I") (by decide +kernel)) (fun _ h9 => h9) rfl dX6_takeOff_9 ?_
  refine xt_i (y := nI 2) (by decide +kernel) ?_
  refine lv_icmp_ge (tgt := 42) hx hb dX6_takeOff_12 (by decide) (fun _ => ?_) (fun c9 => False.elim (by revert c9; decide +kernel))
  refine lv_iconst (v := nI 1) hx hb dX6_takeOff_42 (by decide) ?_
  refine lv_aload_n hx hb dX6_takeOff_43 rfl (lv_at hl 2 rfl) ?_
  refine va_get (D := (dC, dI)) (ci := 6) (v := .ref (h 101)) (C := RX6) (T := TX6) (N := 4) hx hb hts hinX6 hown hK hP 0 rfl rfl 0 (by decide) (hts (.fieldLink RX6 21 "MixedWords$Taker" "mix" "LMixedWords$Mix;") (by decide +kernel)) (fun _ h9 => h9) rfl dX6_takeOff_44 ?_
  refine va_get (D := (dC, dI)) (ci := 3) (v := .ref (h 130)) (C := RX3) (T := TX3) (N := 6) hx hb hts hinX3 hown hK hP 1 rfl rfl 4 (by decide) (hts (.fieldLink RX6 48 "MixedWords$Mix" "cells" "[[I") (by decide +kernel)) (fun _ h9 => h9) rfl dX6_takeOff_47 ?_
  refine lv_aload_n hx hb dX6_takeOff_50 rfl (lv_at hl 2 rfl) ?_
  refine va_get (D := (dC, dI)) (ci := 6) (v := .ref (h 101)) (C := RX6) (T := TX6) (N := 4) hx hb hts hinX6 hown hK hP 0 rfl rfl 0 (by decide) (hts (.fieldLink RX6 21 "MixedWords$Taker" "mix" "LMixedWords$Mix;") (by decide +kernel)) (fun _ h9 => h9) rfl dX6_takeOff_51 ?_
  refine va_get (D := (dC, dI)) (ci := 3) (v := .int (fI 120)) (C := RX3) (T := TX3) (N := 6) hx hb hts hinX3 hown hK hP 1 rfl rfl 0 (by decide) (hts (.fieldLink RX6 52 "MixedWords$Mix" "height" "I") (by decide +kernel)) (fun _ h9 => h9) rfl dX6_takeOff_54 ?_
  refine xt_i (y := nI 2) (by decide +kernel) ?_
  refine lv_iload_n hx hb dX6_takeOff_57 rfl (lv_at hl 3 rfl) ?_
  refine lv_iload_n hx hb dX6_takeOff_58 rfl (lv_at hl 3 rfl) ?_
  refine xj_i (wc := (wD_11 h cs fI fL fA fQ fG fJ)) (wr := [(h 107, .inr (6, [.ref (h 101), .ref (h 190), .ref (h 191), .ref (h 192)])), (h 101, .inr (3, [.int (fI 120), .int (fI 121), .int (fI 122), .int (fI 123), .ref (h 130), .ref (h 136)])), (h 136, .inl (cs 0, 5, .inl (fA 136))), (h 190, .inl (cs 0, 5, .inl (fA 190))), (h 191, .inl (cs 0, 4, .inl (fA 191))), (h 192, .inl (cs 0, 4, .inl (fA 192)))]) hP hD hS hA [2, 3, 4, 5, 6, 7] [0, 1, 8, 9, 10, 11] rfl rfl (by decide) (by decide) (va_runSN (As := [.ref (h 130), .int (nI 2), .int (nI 0), .int (nI 0)]) (rest := [.int (nI 1)]) ⟨hx, hb, hml, hown, hts⟩ (a_X9_product_12 l dC dI h cs H.size fI fL fA fQ fG fJ ) ⟨va_cnB (host := "MixedWords") 4 hts gX6_takeOff_X9_product_n55 rfl rfl rfl hN.2.2.2.2.2.2.2.1 (hts (.initialized RX9) (by decide +kernel)) (by decide +kernel) ⟨Nat.le_of_ble_eq_true rfl, Nat.le_of_ble_eq_true rfl⟩, hts (.static yX9_product) (by decide +kernel), trivial⟩ (xpS (wc := (wD_11 h cs fI fL fA fQ fG fJ)) hP hD hK hN [2, 3, 4, 5, 6, 7] rfl (by decide) _) rfl rfl hl.1 rfl (lv_room (Nat.le_of_ble_eq_true rfl)) dX6_takeOff_59 ⟨Nat.zero_le _, Nat.zero_le _⟩) (fun r_2 u_1 H locs hw hP hD hS => ?_)
  obtain ⟨hf_3, rfl⟩ := hw
  have hP : va_P (dC, dI) vwCl (wD_21 h cs fI fL fA fQ fG fJ) H := xP_sub hP [0, 1, 6, 7, 8, 9, 10, 11, 2, 3, 4, 5] rfl
  have hD : va_D A0 (wD_21 h cs fI fL fA fQ fG fJ) := hD.sub [0, 1, 6, 7, 8, 9, 10, 11, 2, 3, 4, 5] (by decide) rfl
  obtain rfl := hf_3
  refine va_mmax hx hb (hml.trans hl.1.symm) hown (hts (.methodLink RX6 59 Lib.Math.max.name) (by decide +kernel)) (hts (.static Lib.Math.max.name) (by decide +kernel)) (hts (.initialized "java/lang/Math") (by decide +kernel)) (hts (.code Lib.Math.max.name Lib.Math.max.code 2 (some .int)) (by decide +kernel)) (Nat.le_of_ble_eq_true rfl) (Nat.le_of_ble_eq_true rfl) (Nat.zero_le _) (Nat.zero_le _) dX6_takeOff_62 ?_
  refine xt_i (y := nI (max 1 0)) (max_nI (by omega) (by omega)) ?_
  refine xt_i (y := nI 1) (by decide +kernel) ?_
  refine lv_istore_n (lv' := [(3, .int (nI 1)), (2, .int (nI 0)), (0, .ref (h 107)), (1, .int (nI 0))]) hx hb dX6_takeOff_65 rfl hl (by decide) rfl (fun ls hl => ?_)
  refine lv_aload_n hx hb dX6_takeOff_66 rfl (lv_at hl 2 rfl) ?_
  refine va_get (D := (dC, dI)) (ci := 6) (v := .ref (h 192)) (C := RX6) (T := TX6) (N := 4) hx hb hts hinX6 hown hK hP 0 rfl rfl 3 (by decide) (hts (.fieldLink RX6 18 "MixedWords$Taker" "indexes" "[I") (by decide +kernel)) (fun _ h9 => h9) rfl dX6_takeOff_67 ?_
  refine lv_iload_n hx hb dX6_takeOff_70 rfl (lv_at hl 3 rfl) ?_
  refine lv_iload_n hx hb dX6_takeOff_71 rfl (lv_at hl 1 rfl) ?_
  refine lv_i2l (v := (0 : Int64)) hx hb dX6_takeOff_72 (by decide +kernel) ?_
  refine lv_iload_n hx hb dX6_takeOff_73 rfl (lv_at hl 0 rfl) ?_
  refine lv_i2l (v := (1 : Int64)) hx hb dX6_takeOff_74 (by decide +kernel) ?_
  refine lv_aload_n hx hb dX6_takeOff_75 rfl (lv_at hl 2 rfl) ?_
  refine va_get (D := (dC, dI)) (ci := 6) (v := .ref (h 101)) (C := RX6) (T := TX6) (N := 4) hx hb hts hinX6 hown hK hP 0 rfl rfl 0 (by decide) (hts (.fieldLink RX6 21 "MixedWords$Taker" "mix" "LMixedWords$Mix;") (by decide +kernel)) (fun _ h9 => h9) rfl dX6_takeOff_76 ?_
  refine va_get (D := (dC, dI)) (ci := 3) (v := .int (fI 122)) (C := RX3) (T := TX3) (N := 6) hx hb hts hinX3 hown hK hP 1 rfl rfl 2 (by decide) (hts (.fieldLink RX6 65 "MixedWords$Mix" "letterCount" "I") (by decide +kernel)) (fun _ h9 => h9) rfl dX6_takeOff_79 ?_
  refine xt_i (y := nI 2) (by decide +kernel) ?_
  refine xj_i (wc := ([] : va_W)) (wr := (wD_21 h cs fI fL fA fQ fG fJ)) hP hD hS hA [] [0, 1, 2, 3, 4, 5, 6, 7, 8, 9, 10, 11] rfl rfl (by decide) (by decide) (va_runSN (As := [.long (0 : Int64), .long (1 : Int64), .int (nI 2)]) (rest := [.int (nI 0), .ref (h 192)]) ⟨hx, hb, hml, hown, hts⟩ (a_X9_nearestLetter_25 l dC dI h cs H.size I L A Q G J ) ⟨va_cnB (host := "MixedWords") 3 hts gX6_takeOff_X9_nearestLetter_n68 rfl rfl rfl hN.2.2.2.2.2.2.2.2 (hts (.initialized RX9) (by decide +kernel)) (by decide +kernel) ⟨Nat.le_of_ble_eq_true rfl, Nat.le_of_ble_eq_true rfl⟩, hts (.static yX9_nearestLetter) (by decide +kernel), trivial⟩ (xpS (wc := ([] : va_W)) hP hD hK hN [] rfl (by decide) _) rfl rfl hl.1 rfl (lv_room (Nat.le_of_ble_eq_true rfl)) dX6_takeOff_82 ⟨Nat.zero_le _, Nat.zero_le _⟩) (fun r_5 u_4 H locs hw hP hD hS => ?_)
  obtain ⟨hf_6, rfl⟩ := hw
  have hP : va_P (dC, dI) vwCl (wD_21 h cs fI fL fA fQ fG fJ) H := hP
  have hD : va_D A0 (wD_21 h cs fI fL fA fQ fG fJ) := hD
  obtain rfl := hf_6
  refine xa_iastS hx hb hK hP hD hS 11 0 rfl rfl (by omega) (by decide) (by decide +kernel) dX6_takeOff_85 (fun H locs hP hD hS => ?_)
  refine lv_iconst (v := nI 2) hx hb dX6_takeOff_86 (by decide) ?_
  refine lv_aload_n hx hb dX6_takeOff_87 rfl (lv_at hl 2 rfl) ?_
  refine va_get (D := (dC, dI)) (ci := 6) (v := .ref (h 192)) (C := RX6) (T := TX6) (N := 4) hx hb hts hinX6 hown hK hP 0 rfl rfl 3 (by decide) (hts (.fieldLink RX6 18 "MixedWords$Taker" "indexes" "[I") (by decide +kernel)) (fun _ h9 => h9) rfl dX6_takeOff_88 ?_
  refine lv_iload_n hx hb dX6_takeOff_91 rfl (lv_at hl 3 rfl) ?_
  refine xa_iald hx hb hK hP 11 0 rfl rfl (by omega) (by decide) dX6_takeOff_92 ?_
  refine xt_i (y := nI 0) (by decide +kernel) ?_
  refine lv_imul hx hb dX6_takeOff_93 ?_
  refine xt_i (y := nI 0) (by decide +kernel) ?_
  refine lv_aload_n hx hb dX6_takeOff_94 rfl (lv_at hl 2 rfl) ?_
  refine va_get (D := (dC, dI)) (ci := 6) (v := .ref (h 101)) (C := RX6) (T := TX6) (N := 4) hx hb hts hinX6 hown hK hP 0 rfl rfl 0 (by decide) (hts (.fieldLink RX6 21 "MixedWords$Taker" "mix" "LMixedWords$Mix;") (by decide +kernel)) (fun _ h9 => h9) rfl dX6_takeOff_95 ?_
  refine va_get (D := (dC, dI)) (ci := 3) (v := .int (fI 122)) (C := RX3) (T := TX3) (N := 6) hx hb hts hinX3 hown hK hP 1 rfl rfl 2 (by decide) (hts (.fieldLink RX6 65 "MixedWords$Mix" "letterCount" "I") (by decide +kernel)) (fun _ h9 => h9) rfl dX6_takeOff_98 ?_
  refine xt_i (y := nI 2) (by decide +kernel) ?_
  refine lv_isub hx hb dX6_takeOff_101 ?_
  refine xt_i (y := (-2 : Int32)) (by decide +kernel) ?_
  refine lv_iconst (v := nI 1) hx hb dX6_takeOff_102 (by decide) ?_
  refine lv_iadd hx hb dX6_takeOff_103 ?_
  refine xt_i (y := (-1 : Int32)) (by decide +kernel) ?_
  refine lv_istore (lv' := [(4, .int (-1 : Int32)), (3, .int (nI 1)), (2, .int (nI 0)), (0, .ref (h 107)), (1, .int (nI 0))]) hx hb dX6_takeOff_104 hl (by decide) rfl (fun ls hl => ?_)
  refine lv_iconst (v := nI 0) hx hb dX6_takeOff_106 (by decide) ?_
  refine lv_istore (lv' := [(5, .int (nI 0)), (4, .int (-1 : Int32)), (3, .int (nI 1)), (2, .int (nI 0)), (0, .ref (h 107)), (1, .int (nI 0))]) hx hb dX6_takeOff_107 hl (by decide) rfl (fun ls hl => ?_)
  refine lv_iload hx hb dX6_takeOff_109 (lv_at hl 0 rfl) ?_
  refine lv_aload_n hx hb dX6_takeOff_111 rfl (lv_at hl 4 rfl) ?_
  refine va_get (D := (dC, dI)) (ci := 6) (v := .ref (h 101)) (C := RX6) (T := TX6) (N := 4) hx hb hts hinX6 hown hK hP 0 rfl rfl 0 (by decide) (hts (.fieldLink RX6 21 "MixedWords$Taker" "mix" "LMixedWords$Mix;") (by decide +kernel)) (fun _ h9 => h9) rfl dX6_takeOff_112 ?_
  refine va_get (D := (dC, dI)) (ci := 3) (v := .int (fI 120)) (C := RX3) (T := TX3) (N := 6) hx hb hts hinX3 hown hK hP 1 rfl rfl 0 (by decide) (hts (.fieldLink RX6 52 "MixedWords$Mix" "height" "I") (by decide +kernel)) (fun _ h9 => h9) rfl dX6_takeOff_115 ?_
  refine xt_i (y := nI 2) (by decide +kernel) ?_
  refine lv_icmp_ge (tgt := 152) hx hb dX6_takeOff_118 (by decide) (fun c9 => False.elim (by revert c9; decide +kernel)) (fun _ => ?_)
  refine lv_aload_n hx hb dX6_takeOff_121 rfl (lv_at hl 4 rfl) ?_
  refine va_get (D := (dC, dI)) (ci := 6) (v := .ref (h 190)) (C := RX6) (T := TX6) (N := 4) hx hb hts hinX6 hown hK hP 0 rfl rfl 1 (by decide) (hts (.fieldLink RX6 9 "MixedWords$Taker" "left" "[I") (by decide +kernel)) (fun _ h9 => h9) rfl dX6_takeOff_122 ?_
  refine lv_iload hx hb dX6_takeOff_125 (lv_at hl 0 rfl) ?_
  refine lv_dup2_11 hx hb dX6_takeOff_127 rfl rfl ?_
  refine xa_iald hx hb hK hP 9 0 rfl rfl (by omega) (by decide) dX6_takeOff_128 ?_
  refine xt_i (y := nI 0) (by decide +kernel) ?_
  refine lv_iload hx hb dX6_takeOff_129 (lv_at hl 1 rfl) ?_
  refine lv_aload_n hx hb dX6_takeOff_131 rfl (lv_at hl 4 rfl) ?_
  refine va_get (D := (dC, dI)) (ci := 6) (v := .ref (h 101)) (C := RX6) (T := TX6) (N := 4) hx hb hts hinX6 hown hK hP 0 rfl rfl 0 (by decide) (hts (.fieldLink RX6 21 "MixedWords$Taker" "mix" "LMixedWords$Mix;") (by decide +kernel)) (fun _ h9 => h9) rfl dX6_takeOff_132 ?_
  refine va_get (D := (dC, dI)) (ci := 3) (v := .ref (h 130)) (C := RX3) (T := TX3) (N := 6) hx hb hts hinX3 hown hK hP 1 rfl rfl 4 (by decide) (hts (.fieldLink RX6 48 "MixedWords$Mix" "cells" "[[I") (by decide +kernel)) (fun _ h9 => h9) rfl dX6_takeOff_135 ?_
  refine lv_iload hx hb dX6_takeOff_138 (lv_at hl 0 rfl) ?_
  refine xa_aald (b := h 131) hx hb hK hP 2 3 rfl rfl rfl (by omega) (by decide) (if_pos (by omega)) dX6_takeOff_140 ?_
  refine lv_iload_n hx hb dX6_takeOff_141 rfl (lv_at hl 5 rfl) ?_
  refine xa_iald hx hb hK hP 3 0 rfl rfl (by omega) (by decide) dX6_takeOff_142 ?_
  refine xt_i (y := nI 0) (by decide +kernel) ?_
  refine lv_imul hx hb dX6_takeOff_143 ?_
  refine xt_i (y := nI 0) (by decide +kernel) ?_
  refine lv_isub hx hb dX6_takeOff_144 ?_
  refine xt_i (y := nI 0) (by decide +kernel) ?_
  refine xa_iastS hx hb hK hP hD hS 9 0 rfl rfl (by omega) (by decide) (by decide +kernel) dX6_takeOff_145 (fun H locs hP hD hS => ?_)
  refine lv_iinc (v := nI 1) (lv' := [(5, .int (nI 1)), (4, .int (-1 : Int32)), (3, .int (nI 1)), (2, .int (nI 0)), (0, .ref (h 107)), (1, .int (nI 0))]) hx hb dX6_takeOff_146 hl (k := 0) rfl (by decide +kernel) (by decide) rfl (fun ls hl => ?_)
  refine lv_goto (tgt := 109) hx hb dX6_takeOff_149 (by decide) ?_
  refine lv_iload hx hb dX6_takeOff_109 (lv_at hl 0 rfl) ?_
  refine lv_aload_n hx hb dX6_takeOff_111 rfl (lv_at hl 4 rfl) ?_
  refine va_get (D := (dC, dI)) (ci := 6) (v := .ref (h 101)) (C := RX6) (T := TX6) (N := 4) hx hb hts hinX6 hown hK hP 0 rfl rfl 0 (by decide) (hts (.fieldLink RX6 21 "MixedWords$Taker" "mix" "LMixedWords$Mix;") (by decide +kernel)) (fun _ h9 => h9) rfl dX6_takeOff_112 ?_
  refine va_get (D := (dC, dI)) (ci := 3) (v := .int (fI 120)) (C := RX3) (T := TX3) (N := 6) hx hb hts hinX3 hown hK hP 1 rfl rfl 0 (by decide) (hts (.fieldLink RX6 52 "MixedWords$Mix" "height" "I") (by decide +kernel)) (fun _ h9 => h9) rfl dX6_takeOff_115 ?_
  refine xt_i (y := nI 2) (by decide +kernel) ?_
  refine lv_icmp_ge (tgt := 152) hx hb dX6_takeOff_118 (by decide) (fun c9 => False.elim (by revert c9; decide +kernel)) (fun _ => ?_)
  refine lv_aload_n hx hb dX6_takeOff_121 rfl (lv_at hl 4 rfl) ?_
  refine va_get (D := (dC, dI)) (ci := 6) (v := .ref (h 190)) (C := RX6) (T := TX6) (N := 4) hx hb hts hinX6 hown hK hP 0 rfl rfl 1 (by decide) (hts (.fieldLink RX6 9 "MixedWords$Taker" "left" "[I") (by decide +kernel)) (fun _ h9 => h9) rfl dX6_takeOff_122 ?_
  refine lv_iload hx hb dX6_takeOff_125 (lv_at hl 0 rfl) ?_
  refine lv_dup2_11 hx hb dX6_takeOff_127 rfl rfl ?_
  refine xa_iald hx hb hK hP 9 0 rfl rfl (by omega) (by decide) dX6_takeOff_128 ?_
  refine xt_i (y := nI 0) (by decide +kernel) ?_
  refine lv_iload hx hb dX6_takeOff_129 (lv_at hl 1 rfl) ?_
  refine lv_aload_n hx hb dX6_takeOff_131 rfl (lv_at hl 4 rfl) ?_
  refine va_get (D := (dC, dI)) (ci := 6) (v := .ref (h 101)) (C := RX6) (T := TX6) (N := 4) hx hb hts hinX6 hown hK hP 0 rfl rfl 0 (by decide) (hts (.fieldLink RX6 21 "MixedWords$Taker" "mix" "LMixedWords$Mix;") (by decide +kernel)) (fun _ h9 => h9) rfl dX6_takeOff_132 ?_
  refine va_get (D := (dC, dI)) (ci := 3) (v := .ref (h 130)) (C := RX3) (T := TX3) (N := 6) hx hb hts hinX3 hown hK hP 1 rfl rfl 4 (by decide) (hts (.fieldLink RX6 48 "MixedWords$Mix" "cells" "[[I") (by decide +kernel)) (fun _ h9 => h9) rfl dX6_takeOff_135 ?_
  refine lv_iload hx hb dX6_takeOff_138 (lv_at hl 0 rfl) ?_
  refine xa_aald (b := h 132) hx hb hK hP 2 3 rfl rfl rfl (by omega) (by decide) (if_pos (by omega)) dX6_takeOff_140 ?_
  refine lv_iload_n hx hb dX6_takeOff_141 rfl (lv_at hl 5 rfl) ?_
  refine xa_iald hx hb hK hP 4 0 rfl rfl (by omega) (by decide) dX6_takeOff_142 ?_
  refine xt_i (y := nI 0) (by decide +kernel) ?_
  refine lv_imul hx hb dX6_takeOff_143 ?_
  refine xt_i (y := nI 0) (by decide +kernel) ?_
  refine lv_isub hx hb dX6_takeOff_144 ?_
  refine xt_i (y := nI 0) (by decide +kernel) ?_
  refine xa_iastS hx hb hK hP hD hS 9 0 rfl rfl (by omega) (by decide) (by decide +kernel) dX6_takeOff_145 (fun H locs hP hD hS => ?_)
  refine lv_iinc (v := nI 2) (lv' := [(5, .int (nI 2)), (4, .int (-1 : Int32)), (3, .int (nI 1)), (2, .int (nI 0)), (0, .ref (h 107)), (1, .int (nI 0))]) hx hb dX6_takeOff_146 hl (k := 0) rfl (by decide +kernel) (by decide) rfl (fun ls hl => ?_)
  refine lv_goto (tgt := 109) hx hb dX6_takeOff_149 (by decide) ?_
  refine lv_iload hx hb dX6_takeOff_109 (lv_at hl 0 rfl) ?_
  refine lv_aload_n hx hb dX6_takeOff_111 rfl (lv_at hl 4 rfl) ?_
  refine va_get (D := (dC, dI)) (ci := 6) (v := .ref (h 101)) (C := RX6) (T := TX6) (N := 4) hx hb hts hinX6 hown hK hP 0 rfl rfl 0 (by decide) (hts (.fieldLink RX6 21 "MixedWords$Taker" "mix" "LMixedWords$Mix;") (by decide +kernel)) (fun _ h9 => h9) rfl dX6_takeOff_112 ?_
  refine va_get (D := (dC, dI)) (ci := 3) (v := .int (fI 120)) (C := RX3) (T := TX3) (N := 6) hx hb hts hinX3 hown hK hP 1 rfl rfl 0 (by decide) (hts (.fieldLink RX6 52 "MixedWords$Mix" "height" "I") (by decide +kernel)) (fun _ h9 => h9) rfl dX6_takeOff_115 ?_
  refine xt_i (y := nI 2) (by decide +kernel) ?_
  refine lv_icmp_ge (tgt := 152) hx hb dX6_takeOff_118 (by decide) (fun _ => ?_) (fun c9 => False.elim (by revert c9; decide +kernel))
  exact xr_v hx hb hr hlocks hK hS dX6_takeOff_152 (fI, fL, fA, fQ, fG, fJ) ⟨trivial, rfl⟩ hP hD
set_option maxHeartbeats 4000000 in
set_option maxRecDepth 100000 in
theorem a_X6_greatest_28 (l : Launch) (dC : Nat → ClassId) (dI : Nat → Nat → Nat) (h : Nat → Nat) (cs : Nat → ClassId) (sz : Nat) (I : Nat → Int32) (L : Nat → Int64) (A : Nat → Nat → Int32) (Q : Nat → Nat → Int64) (G : Nat → Nat → Nat → Int32) (J : Nat → Nat → Nat → Int64) : Met l yX6_greatest wsX6_greatest ({ frames := 1, cells := 0, slots := 0, locals := 25 }) (va_Pc [.ref (h 107), .int (nI 1)] (xPre (dC, dI) (wD_21 h cs fI fL fA fQ fG fJ) (tysA cs) sz)) (va_Qi (fun (r : Int32) (u : CS) => (r = nI 1) ∧ u = (fI, fL, fA, fQ, fG, fJ)) (xB (dC, dI) (tysA cs) (va_A (wD_21 h cs fI fL fA fQ fG fJ) sz) (fun u : CS => wD_21 h cs u.1 u.2.1 u.2.2.1 u.2.2.2.1 u.2.2.2.2.1 u.2.2.2.2.2)) (va_A (wD_21 h cs fI fL fA fQ fG fJ) sz)) 0 0 (va_A (wD_21 h cs fI fL fA fQ fG fJ) sz) := by
  refine Met.ofW (cc := cX6_greatest) (maxL := 6) (ret := (some .int)) (by decide) rfl ?_
  intro p e s m args below meth c s₁ B hml hv
  obtain ⟨rfl, hsz, hP, hK, hD0, hN⟩ := hv
  have hx := B.exec
  have hb := B.bytes
  have hr := B.returns
  have hts := atoms_spec (ws := wsX6_greatest) B.pre
  have hown : s.vm.findClass RX6 = some m.cls := findClass_of_methodNamed B.named
  have hlocks := B.notSynchronized
  subst hsz
  have hD := hD0.self (sz := s.heap.size)
  generalize hAe : va_A (wD_21 h cs fI fL fA fQ fG fJ) s.heap.size = A0 at hD ⊢
  have hA : ∀ q : Nat, s.heap.size ≤ q → A0 q := fun q h => by rw [← hAe]; exact Or.inr h
  have hl := lv_entry ([.ref (h 107), .int (nI 1)]) (n := 6) (Nat.le_of_ble_eq_true rfl)
  rw [lg_entry_eq]
  generalize (lg_sl ([.ref (h 107), .int (nI 1)]) ++ List.replicate (6 - (lg_sl ([.ref (h 107), .int (nI 1)])).length) Slot.unset).toArray = ls at hl ⊢
  have hl : lv_has ls 6 [(0, .ref (h 107)), (1, .int (nI 1))] := hl
  generalize hH : s.heap = H at hP ⊢
  have hS : va_S A0 s.heap H [] := by rw [← hH]; exact va_S.rf
  have hinX6 : ∀ w ∈ wsX60, w ∈ wsX6_greatest := by decide +kernel
  have hinX3 : ∀ w ∈ wsX30, w ∈ wsX6_greatest := by decide +kernel
  refine lv_iconst (v := nI 0) hx hb dX6_greatest_0 (by decide) ?_
  refine lv_istore_n (lv' := [(2, .int (nI 0)), (0, .ref (h 107)), (1, .int (nI 1))]) hx hb dX6_greatest_1 rfl hl (by decide) rfl (fun ls hl => ?_)
  refine lv_iconst (v := (-1)) hx hb dX6_greatest_2 (by decide) ?_
  refine lv_istore_n (lv' := [(3, .int (-1)), (2, .int (nI 0)), (0, .ref (h 107)), (1, .int (nI 1))]) hx hb dX6_greatest_3 rfl hl (by decide) rfl (fun ls hl => ?_)
  refine lv_iconst (v := nI 0) hx hb dX6_greatest_4 (by decide) ?_
  refine lv_istore (lv' := [(4, .int (nI 0)), (3, .int (-1)), (2, .int (nI 0)), (0, .ref (h 107)), (1, .int (nI 1))]) hx hb dX6_greatest_5 hl (by decide) rfl (fun ls hl => ?_)
  refine lv_iload hx hb dX6_greatest_7 (lv_at hl 0 rfl) ?_
  refine lv_aload_n hx hb dX6_greatest_9 rfl (lv_at hl 3 rfl) ?_
  refine va_get (D := (dC, dI)) (ci := 6) (v := .ref (h 101)) (C := RX6) (T := TX6) (N := 4) hx hb hts hinX6 hown hK hP 0 rfl rfl 0 (by decide) (hts (.fieldLink RX6 21 "MixedWords$Taker" "mix" "LMixedWords$Mix;") (by decide +kernel)) (fun _ h9 => h9) rfl dX6_greatest_10 ?_
  refine va_get (D := (dC, dI)) (ci := 3) (v := .int (fI 121)) (C := RX3) (T := TX3) (N := 6) hx hb hts hinX3 hown hK hP 1 rfl rfl 1 (by decide) (hts (.fieldLink RX6 36 "MixedWords$Mix" "width" "I") (by decide +kernel)) (fun _ h9 => h9) rfl dX6_greatest_13 ?_
  refine xt_i (y := nI 2) (by decide +kernel) ?_
  refine lv_icmp_ge (tgt := 69) hx hb dX6_greatest_16 (by decide) (fun c9 => False.elim (by revert c9; decide +kernel)) (fun _ => ?_)
  refine lv_aload_n hx hb dX6_greatest_19 rfl (lv_at hl 3 rfl) ?_
  refine va_get (D := (dC, dI)) (ci := 6) (v := .ref (h 101)) (C := RX6) (T := TX6) (N := 4) hx hb hts hinX6 hown hK hP 0 rfl rfl 0 (by decide) (hts (.fieldLink RX6 21 "MixedWords$Taker" "mix" "LMixedWords$Mix;") (by decide +kernel)) (fun _ h9 => h9) rfl dX6_greatest_20 ?_
  refine va_get (D := (dC, dI)) (ci := 3) (v := .ref (h 130)) (C := RX3) (T := TX3) (N := 6) hx hb hts hinX3 hown hK hP 1 rfl rfl 4 (by decide) (hts (.fieldLink RX6 48 "MixedWords$Mix" "cells" "[[I") (by decide +kernel)) (fun _ h9 => h9) rfl dX6_greatest_23 ?_
  refine lv_aload_n hx hb dX6_greatest_26 rfl (lv_at hl 3 rfl) ?_
  refine va_get (D := (dC, dI)) (ci := 6) (v := .ref (h 101)) (C := RX6) (T := TX6) (N := 4) hx hb hts hinX6 hown hK hP 0 rfl rfl 0 (by decide) (hts (.fieldLink RX6 21 "MixedWords$Taker" "mix" "LMixedWords$Mix;") (by decide +kernel)) (fun _ h9 => h9) rfl dX6_greatest_27 ?_
  refine va_get (D := (dC, dI)) (ci := 3) (v := .int (fI 120)) (C := RX3) (T := TX3) (N := 6) hx hb hts hinX3 hown hK hP 1 rfl rfl 0 (by decide) (hts (.fieldLink RX6 52 "MixedWords$Mix" "height" "I") (by decide +kernel)) (fun _ h9 => h9) rfl dX6_greatest_30 ?_
  refine xt_i (y := nI 2) (by decide +kernel) ?_
  refine lv_iload hx hb dX6_greatest_33 (lv_at hl 0 rfl) ?_
  refine lv_iload hx hb dX6_greatest_35 (lv_at hl 0 rfl) ?_
  refine xj_i (wc := (wD_11 h cs fI fL fA fQ fG fJ)) (wr := [(h 107, .inr (6, [.ref (h 101), .ref (h 190), .ref (h 191), .ref (h 192)])), (h 101, .inr (3, [.int (fI 120), .int (fI 121), .int (fI 122), .int (fI 123), .ref (h 130), .ref (h 136)])), (h 136, .inl (cs 0, 5, .inl (fA 136))), (h 190, .inl (cs 0, 5, .inl (fA 190))), (h 191, .inl (cs 0, 4, .inl (fA 191))), (h 192, .inl (cs 0, 4, .inl (fA 192)))]) hP hD hS hA [2, 3, 4, 5, 6, 7] [0, 1, 8, 9, 10, 11] rfl rfl (by decide) (by decide) (va_runSN (As := [.ref (h 130), .int (nI 2), .int (nI 0), .int (nI 0)]) (rest := []) ⟨hx, hb, hml, hown, hts⟩ (a_X9_product_12 l dC dI h cs H.size fI fL fA fQ fG fJ ) ⟨va_cnB (host := "MixedWords") 4 hts gX6_greatest_X9_product_n55 rfl rfl rfl hN.2.2.2.2.2.2.2.1 (hts (.initialized RX9) (by decide +kernel)) (by decide +kernel) ⟨Nat.le_of_ble_eq_true rfl, Nat.le_of_ble_eq_true rfl⟩, hts (.static yX9_product) (by decide +kernel), trivial⟩ (xpS (wc := (wD_11 h cs fI fL fA fQ fG fJ)) hP hD hK hN [2, 3, 4, 5, 6, 7] rfl (by decide) _) rfl rfl hl.1 rfl (lv_room (Nat.le_of_ble_eq_true rfl)) dX6_greatest_37 ⟨Nat.zero_le _, Nat.zero_le _⟩) (fun r_2 u_1 H locs hw hP hD hS => ?_)
  obtain ⟨hf_3, rfl⟩ := hw
  have hP : va_P (dC, dI) vwCl (wD_21 h cs fI fL fA fQ fG fJ) H := xP_sub hP [0, 1, 6, 7, 8, 9, 10, 11, 2, 3, 4, 5] rfl
  have hD : va_D A0 (wD_21 h cs fI fL fA fQ fG fJ) := hD.sub [0, 1, 6, 7, 8, 9, 10, 11, 2, 3, 4, 5] (by decide) rfl
  obtain rfl := hf_3
  refine lv_istore (lv' := [(5, .int (nI 0)), (4, .int (nI 0)), (3, .int (-1)), (2, .int (nI 0)), (0, .ref (h 107)), (1, .int (nI 1))]) hx hb dX6_greatest_40 hl (by decide) rfl (fun ls hl => ?_)
  refine lv_iload_n hx hb dX6_greatest_42 rfl (lv_at hl 5 rfl) ?_
  refine lv_iload hx hb dX6_greatest_43 (lv_at hl 1 rfl) ?_
  refine lv_ishr hx hb dX6_greatest_45 ?_
  refine xt_i (y := nI 1) (by decide +kernel) ?_
  refine lv_iconst (v := nI 1) hx hb dX6_greatest_46 (by decide) ?_
  refine lv_iand hx hb dX6_greatest_47 ?_
  refine xt_i (y := nI 1) (by decide +kernel) ?_
  refine lv_if_ne (tgt := 63) hx hb dX6_greatest_48 (by decide) (fun _ => ?_) (fun c9 => False.elim (by revert c9; decide +kernel))
  refine lv_iinc (v := nI 1) (lv' := [(4, .int (nI 1)), (5, .int (nI 0)), (3, .int (-1)), (2, .int (nI 0)), (0, .ref (h 107)), (1, .int (nI 1))]) hx hb dX6_greatest_63 hl (k := 1) rfl (by decide +kernel) (by decide) rfl (fun ls hl => ?_)
  refine lv_goto (tgt := 7) hx hb dX6_greatest_66 (by decide) ?_
  refine lv_iload hx hb dX6_greatest_7 (lv_at hl 0 rfl) ?_
  refine lv_aload_n hx hb dX6_greatest_9 rfl (lv_at hl 4 rfl) ?_
  refine va_get (D := (dC, dI)) (ci := 6) (v := .ref (h 101)) (C := RX6) (T := TX6) (N := 4) hx hb hts hinX6 hown hK hP 0 rfl rfl 0 (by decide) (hts (.fieldLink RX6 21 "MixedWords$Taker" "mix" "LMixedWords$Mix;") (by decide +kernel)) (fun _ h9 => h9) rfl dX6_greatest_10 ?_
  refine va_get (D := (dC, dI)) (ci := 3) (v := .int (fI 121)) (C := RX3) (T := TX3) (N := 6) hx hb hts hinX3 hown hK hP 1 rfl rfl 1 (by decide) (hts (.fieldLink RX6 36 "MixedWords$Mix" "width" "I") (by decide +kernel)) (fun _ h9 => h9) rfl dX6_greatest_13 ?_
  refine xt_i (y := nI 2) (by decide +kernel) ?_
  refine lv_icmp_ge (tgt := 69) hx hb dX6_greatest_16 (by decide) (fun c9 => False.elim (by revert c9; decide +kernel)) (fun _ => ?_)
  refine lv_aload_n hx hb dX6_greatest_19 rfl (lv_at hl 4 rfl) ?_
  refine va_get (D := (dC, dI)) (ci := 6) (v := .ref (h 101)) (C := RX6) (T := TX6) (N := 4) hx hb hts hinX6 hown hK hP 0 rfl rfl 0 (by decide) (hts (.fieldLink RX6 21 "MixedWords$Taker" "mix" "LMixedWords$Mix;") (by decide +kernel)) (fun _ h9 => h9) rfl dX6_greatest_20 ?_
  refine va_get (D := (dC, dI)) (ci := 3) (v := .ref (h 130)) (C := RX3) (T := TX3) (N := 6) hx hb hts hinX3 hown hK hP 1 rfl rfl 4 (by decide) (hts (.fieldLink RX6 48 "MixedWords$Mix" "cells" "[[I") (by decide +kernel)) (fun _ h9 => h9) rfl dX6_greatest_23 ?_
  refine lv_aload_n hx hb dX6_greatest_26 rfl (lv_at hl 4 rfl) ?_
  refine va_get (D := (dC, dI)) (ci := 6) (v := .ref (h 101)) (C := RX6) (T := TX6) (N := 4) hx hb hts hinX6 hown hK hP 0 rfl rfl 0 (by decide) (hts (.fieldLink RX6 21 "MixedWords$Taker" "mix" "LMixedWords$Mix;") (by decide +kernel)) (fun _ h9 => h9) rfl dX6_greatest_27 ?_
  refine va_get (D := (dC, dI)) (ci := 3) (v := .int (fI 120)) (C := RX3) (T := TX3) (N := 6) hx hb hts hinX3 hown hK hP 1 rfl rfl 0 (by decide) (hts (.fieldLink RX6 52 "MixedWords$Mix" "height" "I") (by decide +kernel)) (fun _ h9 => h9) rfl dX6_greatest_30 ?_
  refine xt_i (y := nI 2) (by decide +kernel) ?_
  refine lv_iload hx hb dX6_greatest_33 (lv_at hl 0 rfl) ?_
  refine lv_iload hx hb dX6_greatest_35 (lv_at hl 0 rfl) ?_
  refine xj_i (wc := (wD_11 h cs fI fL fA fQ fG fJ)) (wr := [(h 107, .inr (6, [.ref (h 101), .ref (h 190), .ref (h 191), .ref (h 192)])), (h 101, .inr (3, [.int (fI 120), .int (fI 121), .int (fI 122), .int (fI 123), .ref (h 130), .ref (h 136)])), (h 136, .inl (cs 0, 5, .inl (fA 136))), (h 190, .inl (cs 0, 5, .inl (fA 190))), (h 191, .inl (cs 0, 4, .inl (fA 191))), (h 192, .inl (cs 0, 4, .inl (fA 192)))]) hP hD hS hA [2, 3, 4, 5, 6, 7] [0, 1, 8, 9, 10, 11] rfl rfl (by decide) (by decide) (va_runSN (As := [.ref (h 130), .int (nI 2), .int (nI 1), .int (nI 1)]) (rest := []) ⟨hx, hb, hml, hown, hts⟩ (a_X9_product_15 l dC dI h cs H.size fI fL fA fQ fG fJ ) ⟨va_cnB (host := "MixedWords") 4 hts gX6_greatest_X9_product_n55 rfl rfl rfl hN.2.2.2.2.2.2.2.1 (hts (.initialized RX9) (by decide +kernel)) (by decide +kernel) ⟨Nat.le_of_ble_eq_true rfl, Nat.le_of_ble_eq_true rfl⟩, hts (.static yX9_product) (by decide +kernel), trivial⟩ (xpS (wc := (wD_11 h cs fI fL fA fQ fG fJ)) hP hD hK hN [2, 3, 4, 5, 6, 7] rfl (by decide) _) rfl rfl hl.1 rfl (lv_room (Nat.le_of_ble_eq_true rfl)) dX6_greatest_37 ⟨Nat.zero_le _, Nat.zero_le _⟩) (fun r_5 u_4 H locs hw hP hD hS => ?_)
  obtain ⟨hf_6, rfl⟩ := hw
  have hP : va_P (dC, dI) vwCl (wD_21 h cs fI fL fA fQ fG fJ) H := xP_sub hP [0, 1, 6, 7, 8, 9, 10, 11, 2, 3, 4, 5] rfl
  have hD : va_D A0 (wD_21 h cs fI fL fA fQ fG fJ) := hD.sub [0, 1, 6, 7, 8, 9, 10, 11, 2, 3, 4, 5] (by decide) rfl
  obtain rfl := hf_6
  refine lv_istore (lv' := [(5, .int (nI 0)), (4, .int (nI 1)), (3, .int (-1)), (2, .int (nI 0)), (0, .ref (h 107)), (1, .int (nI 1))]) hx hb dX6_greatest_40 hl (by decide) rfl (fun ls hl => ?_)
  refine lv_iload_n hx hb dX6_greatest_42 rfl (lv_at hl 5 rfl) ?_
  refine lv_iload hx hb dX6_greatest_43 (lv_at hl 1 rfl) ?_
  refine lv_ishr hx hb dX6_greatest_45 ?_
  refine xt_i (y := nI 0) (by decide +kernel) ?_
  refine lv_iconst (v := nI 1) hx hb dX6_greatest_46 (by decide) ?_
  refine lv_iand hx hb dX6_greatest_47 ?_
  refine xt_i (y := nI 0) (by decide +kernel) ?_
  refine lv_if_ne (tgt := 63) hx hb dX6_greatest_48 (by decide) (fun c9 => False.elim (by revert c9; decide +kernel)) (fun _ => ?_)
  refine lv_iload hx hb dX6_greatest_51 (lv_at hl 0 rfl) ?_
  refine lv_iload_n hx hb dX6_greatest_53 rfl (lv_at hl 2 rfl) ?_
  refine lv_icmp_le (tgt := 63) hx hb dX6_greatest_54 (by decide) (fun c9 => False.elim (by revert c9; decide +kernel)) (fun _ => ?_)
  refine lv_iload hx hb dX6_greatest_57 (lv_at hl 1 rfl) ?_
  refine lv_istore_n (lv' := [(2, .int (nI 1)), (5, .int (nI 0)), (4, .int (nI 1)), (3, .int (-1)), (0, .ref (h 107)), (1, .int (nI 1))]) hx hb dX6_greatest_59 rfl hl (by decide) rfl (fun ls hl => ?_)
  refine lv_iload hx hb dX6_greatest_60 (lv_at hl 1 rfl) ?_
  refine lv_istore_n (lv' := [(3, .int (nI 0)), (2, .int (nI 1)), (5, .int (nI 0)), (4, .int (nI 1)), (0, .ref (h 107)), (1, .int (nI 1))]) hx hb dX6_greatest_62 rfl hl (by decide) rfl (fun ls hl => ?_)
  refine lv_iinc (v := nI 2) (lv' := [(4, .int (nI 2)), (3, .int (nI 0)), (2, .int (nI 1)), (5, .int (nI 0)), (0, .ref (h 107)), (1, .int (nI 1))]) hx hb dX6_greatest_63 hl (k := 3) rfl (by decide +kernel) (by decide) rfl (fun ls hl => ?_)
  refine lv_goto (tgt := 7) hx hb dX6_greatest_66 (by decide) ?_
  refine lv_iload hx hb dX6_greatest_7 (lv_at hl 0 rfl) ?_
  refine lv_aload_n hx hb dX6_greatest_9 rfl (lv_at hl 4 rfl) ?_
  refine va_get (D := (dC, dI)) (ci := 6) (v := .ref (h 101)) (C := RX6) (T := TX6) (N := 4) hx hb hts hinX6 hown hK hP 0 rfl rfl 0 (by decide) (hts (.fieldLink RX6 21 "MixedWords$Taker" "mix" "LMixedWords$Mix;") (by decide +kernel)) (fun _ h9 => h9) rfl dX6_greatest_10 ?_
  refine va_get (D := (dC, dI)) (ci := 3) (v := .int (fI 121)) (C := RX3) (T := TX3) (N := 6) hx hb hts hinX3 hown hK hP 1 rfl rfl 1 (by decide) (hts (.fieldLink RX6 36 "MixedWords$Mix" "width" "I") (by decide +kernel)) (fun _ h9 => h9) rfl dX6_greatest_13 ?_
  refine xt_i (y := nI 2) (by decide +kernel) ?_
  refine lv_icmp_ge (tgt := 69) hx hb dX6_greatest_16 (by decide) (fun _ => ?_) (fun c9 => False.elim (by revert c9; decide +kernel))
  refine lv_iload_n hx hb dX6_greatest_69 rfl (lv_at hl 2 rfl) ?_
  exact xr_i (v := (nI 1)) hx hb hr hlocks hK hS dX6_greatest_70 (fI, fL, fA, fQ, fG, fJ) ⟨rfl, rfl⟩ hP hD
def qA_29 : Nat → Nat → Int32 := (va_up fA 191 (upd (fA 191) 1 (nI 1)))
set_option maxHeartbeats 4000000 in
set_option maxRecDepth 100000 in
theorem a_X9_product_31 (l : Launch) (dC : Nat → ClassId) (dI : Nat → Nat → Nat) (h : Nat → Nat) (cs : Nat → ClassId) (sz : Nat) (I : Nat → Int32) (L : Nat → Int64) (A : Nat → Nat → Int32) (Q : Nat → Nat → Int64) (G : Nat → Nat → Nat → Int32) (J : Nat → Nat → Nat → Int64) : Met l yX9_product wsX9_product ({ frames := 0, cells := 0, slots := 0, locals := 0 }) (va_Pc [.ref (h 130), .int (nI 2), .int (nI 1), .int (nI 1)] (xPre (dC, dI) (wD_11 h cs fI fL qA_29 fQ fG fJ) (tysA cs) sz)) (va_Qi (fun (r : Int32) (u : CS) => (r = nI 0) ∧ u = (fI, fL, qA_29, fQ, fG, fJ)) (xB (dC, dI) (tysA cs) (va_A (wD_11 h cs fI fL qA_29 fQ fG fJ) sz) (fun u : CS => wD_11 h cs u.1 u.2.1 u.2.2.1 u.2.2.2.1 u.2.2.2.2.1 u.2.2.2.2.2)) (va_A (wD_11 h cs fI fL qA_29 fQ fG fJ) sz)) 0 0 (va_A (wD_11 h cs fI fL qA_29 fQ fG fJ) sz) := by
  refine Met.ofW (cc := cX9_product) (maxL := 6) (ret := (some .int)) (by decide) rfl ?_
  intro p e s m args below meth c s₁ B hml hv
  obtain ⟨rfl, hsz, hP, hK, hD0, hN⟩ := hv
  have hx := B.exec
  have hb := B.bytes
  have hr := B.returns
  have hts := atoms_spec (ws := wsX9_product) B.pre
  have hown : s.vm.findClass RX9 = some m.cls := findClass_of_methodNamed B.named
  have hlocks := B.notSynchronized
  subst hsz
  have hD := hD0.self (sz := s.heap.size)
  generalize hAe : va_A (wD_11 h cs fI fL qA_29 fQ fG fJ) s.heap.size = A0 at hD ⊢
  have hA : ∀ q : Nat, s.heap.size ≤ q → A0 q := fun q h => by rw [← hAe]; exact Or.inr h
  have hl := lv_entry ([.ref (h 130), .int (nI 2), .int (nI 1), .int (nI 1)]) (n := 6) (Nat.le_of_ble_eq_true rfl)
  rw [lg_entry_eq]
  generalize (lg_sl ([.ref (h 130), .int (nI 2), .int (nI 1), .int (nI 1)]) ++ List.replicate (6 - (lg_sl ([.ref (h 130), .int (nI 2), .int (nI 1), .int (nI 1)])).length) Slot.unset).toArray = ls at hl ⊢
  have hl : lv_has ls 6 [(0, .ref (h 130)), (1, .int (nI 2)), (2, .int (nI 1)), (3, .int (nI 1))] := hl
  generalize hH : s.heap = H at hP ⊢
  have hS : va_S A0 s.heap H [] := by rw [← hH]; exact va_S.rf
  refine lv_iconst (v := nI 0) hx hb dX9_product_0 (by decide) ?_
  refine lv_istore (lv' := [(4, .int (nI 0)), (0, .ref (h 130)), (1, .int (nI 2)), (2, .int (nI 1)), (3, .int (nI 1))]) hx hb dX9_product_1 hl (by decide) rfl (fun ls hl => ?_)
  refine lv_iconst (v := nI 0) hx hb dX9_product_3 (by decide) ?_
  refine lv_istore (lv' := [(5, .int (nI 0)), (4, .int (nI 0)), (0, .ref (h 130)), (1, .int (nI 2)), (2, .int (nI 1)), (3, .int (nI 1))]) hx hb dX9_product_4 hl (by decide) rfl (fun ls hl => ?_)
  refine lv_iload hx hb dX9_product_6 (lv_at hl 0 rfl) ?_
  refine lv_iload_n hx hb dX9_product_8 rfl (lv_at hl 3 rfl) ?_
  refine lv_icmp_ge (tgt := 36) hx hb dX9_product_9 (by decide) (fun c9 => False.elim (by revert c9; decide +kernel)) (fun _ => ?_)
  refine lv_iload hx hb dX9_product_12 (lv_at hl 1 rfl) ?_
  refine lv_aload_n hx hb dX9_product_14 rfl (lv_at hl 2 rfl) ?_
  refine lv_iload hx hb dX9_product_15 (lv_at hl 0 rfl) ?_
  refine xa_aald (b := h 131) hx hb hK hP 0 3 rfl rfl rfl (by omega) (by decide) (if_pos (by omega)) dX9_product_17 ?_
  refine lv_iload_n hx hb dX9_product_18 rfl (lv_at hl 4 rfl) ?_
  refine xa_iald hx hb hK hP 1 0 rfl rfl (by omega) (by decide) dX9_product_19 ?_
  refine xt_i (y := nI 0) (by decide +kernel) ?_
  refine lv_aload_n hx hb dX9_product_20 rfl (lv_at hl 2 rfl) ?_
  refine lv_iload hx hb dX9_product_21 (lv_at hl 0 rfl) ?_
  refine xa_aald (b := h 131) hx hb hK hP 0 3 rfl rfl rfl (by omega) (by decide) (if_pos (by omega)) dX9_product_23 ?_
  refine lv_iload_n hx hb dX9_product_24 rfl (lv_at hl 5 rfl) ?_
  refine xa_iald hx hb hK hP 1 0 rfl rfl (by omega) (by decide) dX9_product_25 ?_
  refine xt_i (y := nI 0) (by decide +kernel) ?_
  refine lv_imul hx hb dX9_product_26 ?_
  refine xt_i (y := nI 0) (by decide +kernel) ?_
  refine lv_iadd hx hb dX9_product_27 ?_
  refine xt_i (y := nI 0) (by decide +kernel) ?_
  refine lv_istore (lv' := [(4, .int (nI 0)), (5, .int (nI 0)), (0, .ref (h 130)), (1, .int (nI 2)), (2, .int (nI 1)), (3, .int (nI 1))]) hx hb dX9_product_28 hl (by decide) rfl (fun ls hl => ?_)
  refine lv_iinc (v := nI 1) (lv' := [(5, .int (nI 1)), (4, .int (nI 0)), (0, .ref (h 130)), (1, .int (nI 2)), (2, .int (nI 1)), (3, .int (nI 1))]) hx hb dX9_product_30 hl (k := 1) rfl (by decide +kernel) (by decide) rfl (fun ls hl => ?_)
  refine lv_goto (tgt := 6) hx hb dX9_product_33 (by decide) ?_
  refine lv_iload hx hb dX9_product_6 (lv_at hl 0 rfl) ?_
  refine lv_iload_n hx hb dX9_product_8 rfl (lv_at hl 3 rfl) ?_
  refine lv_icmp_ge (tgt := 36) hx hb dX9_product_9 (by decide) (fun c9 => False.elim (by revert c9; decide +kernel)) (fun _ => ?_)
  refine lv_iload hx hb dX9_product_12 (lv_at hl 1 rfl) ?_
  refine lv_aload_n hx hb dX9_product_14 rfl (lv_at hl 2 rfl) ?_
  refine lv_iload hx hb dX9_product_15 (lv_at hl 0 rfl) ?_
  refine xa_aald (b := h 132) hx hb hK hP 0 3 rfl rfl rfl (by omega) (by decide) (if_pos (by omega)) dX9_product_17 ?_
  refine lv_iload_n hx hb dX9_product_18 rfl (lv_at hl 4 rfl) ?_
  refine xa_iald hx hb hK hP 2 0 rfl rfl (by omega) (by decide) dX9_product_19 ?_
  refine xt_i (y := nI 0) (by decide +kernel) ?_
  refine lv_aload_n hx hb dX9_product_20 rfl (lv_at hl 2 rfl) ?_
  refine lv_iload hx hb dX9_product_21 (lv_at hl 0 rfl) ?_
  refine xa_aald (b := h 132) hx hb hK hP 0 3 rfl rfl rfl (by omega) (by decide) (if_pos (by omega)) dX9_product_23 ?_
  refine lv_iload_n hx hb dX9_product_24 rfl (lv_at hl 5 rfl) ?_
  refine xa_iald hx hb hK hP 2 0 rfl rfl (by omega) (by decide) dX9_product_25 ?_
  refine xt_i (y := nI 0) (by decide +kernel) ?_
  refine lv_imul hx hb dX9_product_26 ?_
  refine xt_i (y := nI 0) (by decide +kernel) ?_
  refine lv_iadd hx hb dX9_product_27 ?_
  refine xt_i (y := nI 0) (by decide +kernel) ?_
  refine lv_istore (lv' := [(4, .int (nI 0)), (5, .int (nI 1)), (0, .ref (h 130)), (1, .int (nI 2)), (2, .int (nI 1)), (3, .int (nI 1))]) hx hb dX9_product_28 hl (by decide) rfl (fun ls hl => ?_)
  refine lv_iinc (v := nI 2) (lv' := [(5, .int (nI 2)), (4, .int (nI 0)), (0, .ref (h 130)), (1, .int (nI 2)), (2, .int (nI 1)), (3, .int (nI 1))]) hx hb dX9_product_30 hl (k := 1) rfl (by decide +kernel) (by decide) rfl (fun ls hl => ?_)
  refine lv_goto (tgt := 6) hx hb dX9_product_33 (by decide) ?_
  refine lv_iload hx hb dX9_product_6 (lv_at hl 0 rfl) ?_
  refine lv_iload_n hx hb dX9_product_8 rfl (lv_at hl 3 rfl) ?_
  refine lv_icmp_ge (tgt := 36) hx hb dX9_product_9 (by decide) (fun _ => ?_) (fun c9 => False.elim (by revert c9; decide +kernel))
  refine lv_iload hx hb dX9_product_36 (lv_at hl 1 rfl) ?_
  exact xr_i (v := (nI 0)) hx hb hr hlocks hK hS dX9_product_38 (fI, fL, qA_29, fQ, fG, fJ) ⟨rfl, rfl⟩ hP hD
set_option maxHeartbeats 4000000 in
set_option maxRecDepth 100000 in
theorem a_X6_takeOff_30 (l : Launch) (dC : Nat → ClassId) (dI : Nat → Nat → Nat) (h : Nat → Nat) (cs : Nat → ClassId) (sz : Nat) (I : Nat → Int32) (L : Nat → Int64) (A : Nat → Nat → Int32) (Q : Nat → Nat → Int64) (G : Nat → Nat → Nat → Int32) (J : Nat → Nat → Nat → Int64) : Met l yX6_takeOff wsX6_takeOff ({ frames := 3, cells := 0, slots := 0, locals := 106 }) (va_Pc [.ref (h 107), .int (nI 1)] (xPre (dC, dI) (wD_21 h cs fI fL qA_29 fQ fG fJ) (tysA cs) sz)) (va_Qv (fun (u : CS) => (True) ∧ u = (fI, fL, qA_29, fQ, fG, fJ)) (xB (dC, dI) (tysA cs) (va_A (wD_21 h cs fI fL qA_29 fQ fG fJ) sz) (fun u : CS => wD_21 h cs u.1 u.2.1 u.2.2.1 u.2.2.2.1 u.2.2.2.2.1 u.2.2.2.2.2)) (va_A (wD_21 h cs fI fL qA_29 fQ fG fJ) sz)) 0 0 (va_A (wD_21 h cs fI fL qA_29 fQ fG fJ) sz) := by
  refine Met.ofW (cc := cX6_takeOff) (maxL := 6) (ret := none) (by decide) rfl ?_
  intro p e s m args below meth c s₁ B hml hv
  obtain ⟨rfl, hsz, hP, hK, hD0, hN⟩ := hv
  have hx := B.exec
  have hb := B.bytes
  have hr := B.returns
  have hts := atoms_spec (ws := wsX6_takeOff) B.pre
  have hown : s.vm.findClass RX6 = some m.cls := findClass_of_methodNamed B.named
  have hlocks := B.notSynchronized
  subst hsz
  have hD := hD0.self (sz := s.heap.size)
  generalize hAe : va_A (wD_21 h cs fI fL qA_29 fQ fG fJ) s.heap.size = A0 at hD ⊢
  have hA : ∀ q : Nat, s.heap.size ≤ q → A0 q := fun q h => by rw [← hAe]; exact Or.inr h
  have hl := lv_entry ([.ref (h 107), .int (nI 1)]) (n := 6) (Nat.le_of_ble_eq_true rfl)
  rw [lg_entry_eq]
  generalize (lg_sl ([.ref (h 107), .int (nI 1)]) ++ List.replicate (6 - (lg_sl ([.ref (h 107), .int (nI 1)])).length) Slot.unset).toArray = ls at hl ⊢
  have hl : lv_has ls 6 [(0, .ref (h 107)), (1, .int (nI 1))] := hl
  generalize hH : s.heap = H at hP ⊢
  have hS : va_S A0 s.heap H [] := by rw [← hH]; exact va_S.rf
  have hinX6 : ∀ w ∈ wsX60, w ∈ wsX6_takeOff := by decide +kernel
  have hinX3 : ∀ w ∈ wsX30, w ∈ wsX6_takeOff := by decide +kernel
  refine lv_iconst (v := nI 0) hx hb dX6_takeOff_0 (by decide) ?_
  refine lv_istore_n (lv' := [(2, .int (nI 0)), (0, .ref (h 107)), (1, .int (nI 1))]) hx hb dX6_takeOff_1 rfl hl (by decide) rfl (fun ls hl => ?_)
  refine lv_iconst (v := nI 0) hx hb dX6_takeOff_2 (by decide) ?_
  refine lv_istore_n (lv' := [(3, .int (nI 0)), (2, .int (nI 0)), (0, .ref (h 107)), (1, .int (nI 1))]) hx hb dX6_takeOff_3 rfl hl (by decide) rfl (fun ls hl => ?_)
  refine lv_iload_n hx hb dX6_takeOff_4 rfl (lv_at hl 0 rfl) ?_
  refine lv_aload_n hx hb dX6_takeOff_5 rfl (lv_at hl 2 rfl) ?_
  refine va_get (D := (dC, dI)) (ci := 6) (v := .ref (h 101)) (C := RX6) (T := TX6) (N := 4) hx hb hts hinX6 hown hK hP 0 rfl rfl 0 (by decide) (hts (.fieldLink RX6 21 "MixedWords$Taker" "mix" "LMixedWords$Mix;") (by decide +kernel)) (fun _ h9 => h9) rfl dX6_takeOff_6 ?_
  refine va_get (D := (dC, dI)) (ci := 3) (v := .int (fI 120)) (C := RX3) (T := TX3) (N := 6) hx hb hts hinX3 hown hK hP 1 rfl rfl 0 (by decide) (hts (.fieldLink RX6 52 "MixedWords$Mix" "height" "I") (by decide +kernel)) (fun _ h9 => h9) rfl dX6_takeOff_9 ?_
  refine xt_i (y := nI 2) (by decide +kernel) ?_
  refine lv_icmp_ge (tgt := 42) hx hb dX6_takeOff_12 (by decide) (fun c9 => False.elim (by revert c9; decide +kernel)) (fun _ => ?_)
  refine lv_iload_n hx hb dX6_takeOff_15 rfl (lv_at hl 1 rfl) ?_
  refine lv_aload_n hx hb dX6_takeOff_16 rfl (lv_at hl 2 rfl) ?_
  refine va_get (D := (dC, dI)) (ci := 6) (v := .ref (h 101)) (C := RX6) (T := TX6) (N := 4) hx hb hts hinX6 hown hK hP 0 rfl rfl 0 (by decide) (hts (.fieldLink RX6 21 "MixedWords$Taker" "mix" "LMixedWords$Mix;") (by decide +kernel)) (fun _ h9 => h9) rfl dX6_takeOff_17 ?_
  refine va_get (D := (dC, dI)) (ci := 3) (v := .ref (h 130)) (C := RX3) (T := TX3) (N := 6) hx hb hts hinX3 hown hK hP 1 rfl rfl 4 (by decide) (hts (.fieldLink RX6 48 "MixedWords$Mix" "cells" "[[I") (by decide +kernel)) (fun _ h9 => h9) rfl dX6_takeOff_20 ?_
  refine lv_iload_n hx hb dX6_takeOff_23 rfl (lv_at hl 0 rfl) ?_
  refine xa_aald (b := h 131) hx hb hK hP 2 3 rfl rfl rfl (by omega) (by decide) (if_pos (by omega)) dX6_takeOff_24 ?_
  refine lv_iload_n hx hb dX6_takeOff_25 rfl (lv_at hl 3 rfl) ?_
  refine xa_iald hx hb hK hP 3 0 rfl rfl (by omega) (by decide) dX6_takeOff_26 ?_
  refine xt_i (y := nI 0) (by decide +kernel) ?_
  refine lv_aload_n hx hb dX6_takeOff_27 rfl (lv_at hl 2 rfl) ?_
  refine va_get (D := (dC, dI)) (ci := 6) (v := .ref (h 190)) (C := RX6) (T := TX6) (N := 4) hx hb hts hinX6 hown hK hP 0 rfl rfl 1 (by decide) (hts (.fieldLink RX6 9 "MixedWords$Taker" "left" "[I") (by decide +kernel)) (fun _ h9 => h9) rfl dX6_takeOff_28 ?_
  refine lv_iload_n hx hb dX6_takeOff_31 rfl (lv_at hl 0 rfl) ?_
  refine xa_iald hx hb hK hP 9 0 rfl rfl (by omega) (by decide) dX6_takeOff_32 ?_
  refine xt_i (y := nI 0) (by decide +kernel) ?_
  refine lv_imul hx hb dX6_takeOff_33 ?_
  refine xt_i (y := nI 0) (by decide +kernel) ?_
  refine lv_iadd hx hb dX6_takeOff_34 ?_
  refine xt_i (y := nI 0) (by decide +kernel) ?_
  refine lv_istore_n (lv' := [(2, .int (nI 0)), (3, .int (nI 0)), (0, .ref (h 107)), (1, .int (nI 1))]) hx hb dX6_takeOff_35 rfl hl (by decide) rfl (fun ls hl => ?_)
  refine lv_iinc (v := nI 1) (lv' := [(3, .int (nI 1)), (2, .int (nI 0)), (0, .ref (h 107)), (1, .int (nI 1))]) hx hb dX6_takeOff_36 hl (k := 1) rfl (by decide +kernel) (by decide) rfl (fun ls hl => ?_)
  refine lv_goto (tgt := 4) hx hb dX6_takeOff_39 (by decide) ?_
  refine lv_iload_n hx hb dX6_takeOff_4 rfl (lv_at hl 0 rfl) ?_
  refine lv_aload_n hx hb dX6_takeOff_5 rfl (lv_at hl 2 rfl) ?_
  refine va_get (D := (dC, dI)) (ci := 6) (v := .ref (h 101)) (C := RX6) (T := TX6) (N := 4) hx hb hts hinX6 hown hK hP 0 rfl rfl 0 (by decide) (hts (.fieldLink RX6 21 "MixedWords$Taker" "mix" "LMixedWords$Mix;") (by decide +kernel)) (fun _ h9 => h9) rfl dX6_takeOff_6 ?_
  refine va_get (D := (dC, dI)) (ci := 3) (v := .int (fI 120)) (C := RX3) (T := TX3) (N := 6) hx hb hts hinX3 hown hK hP 1 rfl rfl 0 (by decide) (hts (.fieldLink RX6 52 "MixedWords$Mix" "height" "I") (by decide +kernel)) (fun _ h9 => h9) rfl dX6_takeOff_9 ?_
  refine xt_i (y := nI 2) (by decide +kernel) ?_
  refine lv_icmp_ge (tgt := 42) hx hb dX6_takeOff_12 (by decide) (fun c9 => False.elim (by revert c9; decide +kernel)) (fun _ => ?_)
  refine lv_iload_n hx hb dX6_takeOff_15 rfl (lv_at hl 1 rfl) ?_
  refine lv_aload_n hx hb dX6_takeOff_16 rfl (lv_at hl 2 rfl) ?_
  refine va_get (D := (dC, dI)) (ci := 6) (v := .ref (h 101)) (C := RX6) (T := TX6) (N := 4) hx hb hts hinX6 hown hK hP 0 rfl rfl 0 (by decide) (hts (.fieldLink RX6 21 "MixedWords$Taker" "mix" "LMixedWords$Mix;") (by decide +kernel)) (fun _ h9 => h9) rfl dX6_takeOff_17 ?_
  refine va_get (D := (dC, dI)) (ci := 3) (v := .ref (h 130)) (C := RX3) (T := TX3) (N := 6) hx hb hts hinX3 hown hK hP 1 rfl rfl 4 (by decide) (hts (.fieldLink RX6 48 "MixedWords$Mix" "cells" "[[I") (by decide +kernel)) (fun _ h9 => h9) rfl dX6_takeOff_20 ?_
  refine lv_iload_n hx hb dX6_takeOff_23 rfl (lv_at hl 0 rfl) ?_
  refine xa_aald (b := h 132) hx hb hK hP 2 3 rfl rfl rfl (by omega) (by decide) (if_pos (by omega)) dX6_takeOff_24 ?_
  refine lv_iload_n hx hb dX6_takeOff_25 rfl (lv_at hl 3 rfl) ?_
  refine xa_iald hx hb hK hP 4 0 rfl rfl (by omega) (by decide) dX6_takeOff_26 ?_
  refine xt_i (y := nI 0) (by decide +kernel) ?_
  refine lv_aload_n hx hb dX6_takeOff_27 rfl (lv_at hl 2 rfl) ?_
  refine va_get (D := (dC, dI)) (ci := 6) (v := .ref (h 190)) (C := RX6) (T := TX6) (N := 4) hx hb hts hinX6 hown hK hP 0 rfl rfl 1 (by decide) (hts (.fieldLink RX6 9 "MixedWords$Taker" "left" "[I") (by decide +kernel)) (fun _ h9 => h9) rfl dX6_takeOff_28 ?_
  refine lv_iload_n hx hb dX6_takeOff_31 rfl (lv_at hl 0 rfl) ?_
  refine xa_iald hx hb hK hP 9 0 rfl rfl (by omega) (by decide) dX6_takeOff_32 ?_
  refine xt_i (y := nI 0) (by decide +kernel) ?_
  refine lv_imul hx hb dX6_takeOff_33 ?_
  refine xt_i (y := nI 0) (by decide +kernel) ?_
  refine lv_iadd hx hb dX6_takeOff_34 ?_
  refine xt_i (y := nI 0) (by decide +kernel) ?_
  refine lv_istore_n (lv' := [(2, .int (nI 0)), (3, .int (nI 1)), (0, .ref (h 107)), (1, .int (nI 1))]) hx hb dX6_takeOff_35 rfl hl (by decide) rfl (fun ls hl => ?_)
  refine lv_iinc (v := nI 2) (lv' := [(3, .int (nI 2)), (2, .int (nI 0)), (0, .ref (h 107)), (1, .int (nI 1))]) hx hb dX6_takeOff_36 hl (k := 1) rfl (by decide +kernel) (by decide) rfl (fun ls hl => ?_)
  refine lv_goto (tgt := 4) hx hb dX6_takeOff_39 (by decide) ?_
  refine lv_iload_n hx hb dX6_takeOff_4 rfl (lv_at hl 0 rfl) ?_
  refine lv_aload_n hx hb dX6_takeOff_5 rfl (lv_at hl 2 rfl) ?_
  refine va_get (D := (dC, dI)) (ci := 6) (v := .ref (h 101)) (C := RX6) (T := TX6) (N := 4) hx hb hts hinX6 hown hK hP 0 rfl rfl 0 (by decide) (hts (.fieldLink RX6 21 "MixedWords$Taker" "mix" "LMixedWords$Mix;") (by decide +kernel)) (fun _ h9 => h9) rfl dX6_takeOff_6 ?_
  refine va_get (D := (dC, dI)) (ci := 3) (v := .int (fI 120)) (C := RX3) (T := TX3) (N := 6) hx hb hts hinX3 hown hK hP 1 rfl rfl 0 (by decide) (hts (.fieldLink RX6 52 "MixedWords$Mix" "height" "I") (by decide +kernel)) (fun _ h9 => h9) rfl dX6_takeOff_9 ?_
  refine xt_i (y := nI 2) (by decide +kernel) ?_
  refine lv_icmp_ge (tgt := 42) hx hb dX6_takeOff_12 (by decide) (fun _ => ?_) (fun c9 => False.elim (by revert c9; decide +kernel))
  refine lv_iconst (v := nI 1) hx hb dX6_takeOff_42 (by decide) ?_
  refine lv_aload_n hx hb dX6_takeOff_43 rfl (lv_at hl 2 rfl) ?_
  refine va_get (D := (dC, dI)) (ci := 6) (v := .ref (h 101)) (C := RX6) (T := TX6) (N := 4) hx hb hts hinX6 hown hK hP 0 rfl rfl 0 (by decide) (hts (.fieldLink RX6 21 "MixedWords$Taker" "mix" "LMixedWords$Mix;") (by decide +kernel)) (fun _ h9 => h9) rfl dX6_takeOff_44 ?_
  refine va_get (D := (dC, dI)) (ci := 3) (v := .ref (h 130)) (C := RX3) (T := TX3) (N := 6) hx hb hts hinX3 hown hK hP 1 rfl rfl 4 (by decide) (hts (.fieldLink RX6 48 "MixedWords$Mix" "cells" "[[I") (by decide +kernel)) (fun _ h9 => h9) rfl dX6_takeOff_47 ?_
  refine lv_aload_n hx hb dX6_takeOff_50 rfl (lv_at hl 2 rfl) ?_
  refine va_get (D := (dC, dI)) (ci := 6) (v := .ref (h 101)) (C := RX6) (T := TX6) (N := 4) hx hb hts hinX6 hown hK hP 0 rfl rfl 0 (by decide) (hts (.fieldLink RX6 21 "MixedWords$Taker" "mix" "LMixedWords$Mix;") (by decide +kernel)) (fun _ h9 => h9) rfl dX6_takeOff_51 ?_
  refine va_get (D := (dC, dI)) (ci := 3) (v := .int (fI 120)) (C := RX3) (T := TX3) (N := 6) hx hb hts hinX3 hown hK hP 1 rfl rfl 0 (by decide) (hts (.fieldLink RX6 52 "MixedWords$Mix" "height" "I") (by decide +kernel)) (fun _ h9 => h9) rfl dX6_takeOff_54 ?_
  refine xt_i (y := nI 2) (by decide +kernel) ?_
  refine lv_iload_n hx hb dX6_takeOff_57 rfl (lv_at hl 3 rfl) ?_
  refine lv_iload_n hx hb dX6_takeOff_58 rfl (lv_at hl 3 rfl) ?_
  refine xj_i (wc := (wD_11 h cs fI fL qA_29 fQ fG fJ)) (wr := [(h 107, .inr (6, [.ref (h 101), .ref (h 190), .ref (h 191), .ref (h 192)])), (h 101, .inr (3, [.int (fI 120), .int (fI 121), .int (fI 122), .int (fI 123), .ref (h 130), .ref (h 136)])), (h 136, .inl (cs 0, 5, .inl (qA_29 136))), (h 190, .inl (cs 0, 5, .inl (qA_29 190))), (h 191, .inl (cs 0, 4, .inl (qA_29 191))), (h 192, .inl (cs 0, 4, .inl (qA_29 192)))]) hP hD hS hA [2, 3, 4, 5, 6, 7] [0, 1, 8, 9, 10, 11] rfl rfl (by decide) (by decide) (va_runSN (As := [.ref (h 130), .int (nI 2), .int (nI 1), .int (nI 1)]) (rest := [.int (nI 1)]) ⟨hx, hb, hml, hown, hts⟩ (a_X9_product_31 l dC dI h cs H.size fI fL qA_29 fQ fG fJ ) ⟨va_cnB (host := "MixedWords") 4 hts gX6_takeOff_X9_product_n55 rfl rfl rfl hN.2.2.2.2.2.2.2.1 (hts (.initialized RX9) (by decide +kernel)) (by decide +kernel) ⟨Nat.le_of_ble_eq_true rfl, Nat.le_of_ble_eq_true rfl⟩, hts (.static yX9_product) (by decide +kernel), trivial⟩ (xpS (wc := (wD_11 h cs fI fL qA_29 fQ fG fJ)) hP hD hK hN [2, 3, 4, 5, 6, 7] rfl (by decide) _) rfl rfl hl.1 rfl (lv_room (Nat.le_of_ble_eq_true rfl)) dX6_takeOff_59 ⟨Nat.zero_le _, Nat.zero_le _⟩) (fun r_2 u_1 H locs hw hP hD hS => ?_)
  obtain ⟨hf_3, rfl⟩ := hw
  have hP : va_P (dC, dI) vwCl (wD_21 h cs fI fL qA_29 fQ fG fJ) H := xP_sub hP [0, 1, 6, 7, 8, 9, 10, 11, 2, 3, 4, 5] rfl
  have hD : va_D A0 (wD_21 h cs fI fL qA_29 fQ fG fJ) := hD.sub [0, 1, 6, 7, 8, 9, 10, 11, 2, 3, 4, 5] (by decide) rfl
  obtain rfl := hf_3
  refine va_mmax hx hb (hml.trans hl.1.symm) hown (hts (.methodLink RX6 59 Lib.Math.max.name) (by decide +kernel)) (hts (.static Lib.Math.max.name) (by decide +kernel)) (hts (.initialized "java/lang/Math") (by decide +kernel)) (hts (.code Lib.Math.max.name Lib.Math.max.code 2 (some .int)) (by decide +kernel)) (Nat.le_of_ble_eq_true rfl) (Nat.le_of_ble_eq_true rfl) (Nat.zero_le _) (Nat.zero_le _) dX6_takeOff_62 ?_
  refine xt_i (y := nI (max 1 0)) (max_nI (by omega) (by omega)) ?_
  refine xt_i (y := nI 1) (by decide +kernel) ?_
  refine lv_istore_n (lv' := [(3, .int (nI 1)), (2, .int (nI 0)), (0, .ref (h 107)), (1, .int (nI 1))]) hx hb dX6_takeOff_65 rfl hl (by decide) rfl (fun ls hl => ?_)
  refine lv_aload_n hx hb dX6_takeOff_66 rfl (lv_at hl 2 rfl) ?_
  refine va_get (D := (dC, dI)) (ci := 6) (v := .ref (h 192)) (C := RX6) (T := TX6) (N := 4) hx hb hts hinX6 hown hK hP 0 rfl rfl 3 (by decide) (hts (.fieldLink RX6 18 "MixedWords$Taker" "indexes" "[I") (by decide +kernel)) (fun _ h9 => h9) rfl dX6_takeOff_67 ?_
  refine lv_iload_n hx hb dX6_takeOff_70 rfl (lv_at hl 3 rfl) ?_
  refine lv_iload_n hx hb dX6_takeOff_71 rfl (lv_at hl 1 rfl) ?_
  refine lv_i2l (v := (0 : Int64)) hx hb dX6_takeOff_72 (by decide +kernel) ?_
  refine lv_iload_n hx hb dX6_takeOff_73 rfl (lv_at hl 0 rfl) ?_
  refine lv_i2l (v := (1 : Int64)) hx hb dX6_takeOff_74 (by decide +kernel) ?_
  refine lv_aload_n hx hb dX6_takeOff_75 rfl (lv_at hl 2 rfl) ?_
  refine va_get (D := (dC, dI)) (ci := 6) (v := .ref (h 101)) (C := RX6) (T := TX6) (N := 4) hx hb hts hinX6 hown hK hP 0 rfl rfl 0 (by decide) (hts (.fieldLink RX6 21 "MixedWords$Taker" "mix" "LMixedWords$Mix;") (by decide +kernel)) (fun _ h9 => h9) rfl dX6_takeOff_76 ?_
  refine va_get (D := (dC, dI)) (ci := 3) (v := .int (fI 122)) (C := RX3) (T := TX3) (N := 6) hx hb hts hinX3 hown hK hP 1 rfl rfl 2 (by decide) (hts (.fieldLink RX6 65 "MixedWords$Mix" "letterCount" "I") (by decide +kernel)) (fun _ h9 => h9) rfl dX6_takeOff_79 ?_
  refine xt_i (y := nI 2) (by decide +kernel) ?_
  refine xj_i (wc := ([] : va_W)) (wr := (wD_21 h cs fI fL qA_29 fQ fG fJ)) hP hD hS hA [] [0, 1, 2, 3, 4, 5, 6, 7, 8, 9, 10, 11] rfl rfl (by decide) (by decide) (va_runSN (As := [.long (0 : Int64), .long (1 : Int64), .int (nI 2)]) (rest := [.int (nI 1), .ref (h 192)]) ⟨hx, hb, hml, hown, hts⟩ (a_X9_nearestLetter_25 l dC dI h cs H.size I L A Q G J ) ⟨va_cnB (host := "MixedWords") 3 hts gX6_takeOff_X9_nearestLetter_n68 rfl rfl rfl hN.2.2.2.2.2.2.2.2 (hts (.initialized RX9) (by decide +kernel)) (by decide +kernel) ⟨Nat.le_of_ble_eq_true rfl, Nat.le_of_ble_eq_true rfl⟩, hts (.static yX9_nearestLetter) (by decide +kernel), trivial⟩ (xpS (wc := ([] : va_W)) hP hD hK hN [] rfl (by decide) _) rfl rfl hl.1 rfl (lv_room (Nat.le_of_ble_eq_true rfl)) dX6_takeOff_82 ⟨Nat.zero_le _, Nat.zero_le _⟩) (fun r_5 u_4 H locs hw hP hD hS => ?_)
  obtain ⟨hf_6, rfl⟩ := hw
  have hP : va_P (dC, dI) vwCl (wD_21 h cs fI fL qA_29 fQ fG fJ) H := hP
  have hD : va_D A0 (wD_21 h cs fI fL qA_29 fQ fG fJ) := hD
  obtain rfl := hf_6
  refine xa_iastS hx hb hK hP hD hS 11 0 rfl rfl (by omega) (by decide) (by decide +kernel) dX6_takeOff_85 (fun H locs hP hD hS => ?_)
  refine lv_iconst (v := nI 2) hx hb dX6_takeOff_86 (by decide) ?_
  refine lv_aload_n hx hb dX6_takeOff_87 rfl (lv_at hl 2 rfl) ?_
  refine va_get (D := (dC, dI)) (ci := 6) (v := .ref (h 192)) (C := RX6) (T := TX6) (N := 4) hx hb hts hinX6 hown hK hP 0 rfl rfl 3 (by decide) (hts (.fieldLink RX6 18 "MixedWords$Taker" "indexes" "[I") (by decide +kernel)) (fun _ h9 => h9) rfl dX6_takeOff_88 ?_
  refine lv_iload_n hx hb dX6_takeOff_91 rfl (lv_at hl 3 rfl) ?_
  refine xa_iald hx hb hK hP 11 0 rfl rfl (by omega) (by decide) dX6_takeOff_92 ?_
  refine xt_i (y := nI 0) (by decide +kernel) ?_
  refine lv_imul hx hb dX6_takeOff_93 ?_
  refine xt_i (y := nI 0) (by decide +kernel) ?_
  refine lv_aload_n hx hb dX6_takeOff_94 rfl (lv_at hl 2 rfl) ?_
  refine va_get (D := (dC, dI)) (ci := 6) (v := .ref (h 101)) (C := RX6) (T := TX6) (N := 4) hx hb hts hinX6 hown hK hP 0 rfl rfl 0 (by decide) (hts (.fieldLink RX6 21 "MixedWords$Taker" "mix" "LMixedWords$Mix;") (by decide +kernel)) (fun _ h9 => h9) rfl dX6_takeOff_95 ?_
  refine va_get (D := (dC, dI)) (ci := 3) (v := .int (fI 122)) (C := RX3) (T := TX3) (N := 6) hx hb hts hinX3 hown hK hP 1 rfl rfl 2 (by decide) (hts (.fieldLink RX6 65 "MixedWords$Mix" "letterCount" "I") (by decide +kernel)) (fun _ h9 => h9) rfl dX6_takeOff_98 ?_
  refine xt_i (y := nI 2) (by decide +kernel) ?_
  refine lv_isub hx hb dX6_takeOff_101 ?_
  refine xt_i (y := (-2 : Int32)) (by decide +kernel) ?_
  refine lv_iconst (v := nI 1) hx hb dX6_takeOff_102 (by decide) ?_
  refine lv_iadd hx hb dX6_takeOff_103 ?_
  refine xt_i (y := (-1 : Int32)) (by decide +kernel) ?_
  refine lv_istore (lv' := [(4, .int (-1 : Int32)), (3, .int (nI 1)), (2, .int (nI 0)), (0, .ref (h 107)), (1, .int (nI 1))]) hx hb dX6_takeOff_104 hl (by decide) rfl (fun ls hl => ?_)
  refine lv_iconst (v := nI 0) hx hb dX6_takeOff_106 (by decide) ?_
  refine lv_istore (lv' := [(5, .int (nI 0)), (4, .int (-1 : Int32)), (3, .int (nI 1)), (2, .int (nI 0)), (0, .ref (h 107)), (1, .int (nI 1))]) hx hb dX6_takeOff_107 hl (by decide) rfl (fun ls hl => ?_)
  refine lv_iload hx hb dX6_takeOff_109 (lv_at hl 0 rfl) ?_
  refine lv_aload_n hx hb dX6_takeOff_111 rfl (lv_at hl 4 rfl) ?_
  refine va_get (D := (dC, dI)) (ci := 6) (v := .ref (h 101)) (C := RX6) (T := TX6) (N := 4) hx hb hts hinX6 hown hK hP 0 rfl rfl 0 (by decide) (hts (.fieldLink RX6 21 "MixedWords$Taker" "mix" "LMixedWords$Mix;") (by decide +kernel)) (fun _ h9 => h9) rfl dX6_takeOff_112 ?_
  refine va_get (D := (dC, dI)) (ci := 3) (v := .int (fI 120)) (C := RX3) (T := TX3) (N := 6) hx hb hts hinX3 hown hK hP 1 rfl rfl 0 (by decide) (hts (.fieldLink RX6 52 "MixedWords$Mix" "height" "I") (by decide +kernel)) (fun _ h9 => h9) rfl dX6_takeOff_115 ?_
  refine xt_i (y := nI 2) (by decide +kernel) ?_
  refine lv_icmp_ge (tgt := 152) hx hb dX6_takeOff_118 (by decide) (fun c9 => False.elim (by revert c9; decide +kernel)) (fun _ => ?_)
  refine lv_aload_n hx hb dX6_takeOff_121 rfl (lv_at hl 4 rfl) ?_
  refine va_get (D := (dC, dI)) (ci := 6) (v := .ref (h 190)) (C := RX6) (T := TX6) (N := 4) hx hb hts hinX6 hown hK hP 0 rfl rfl 1 (by decide) (hts (.fieldLink RX6 9 "MixedWords$Taker" "left" "[I") (by decide +kernel)) (fun _ h9 => h9) rfl dX6_takeOff_122 ?_
  refine lv_iload hx hb dX6_takeOff_125 (lv_at hl 0 rfl) ?_
  refine lv_dup2_11 hx hb dX6_takeOff_127 rfl rfl ?_
  refine xa_iald hx hb hK hP 9 0 rfl rfl (by omega) (by decide) dX6_takeOff_128 ?_
  refine xt_i (y := nI 0) (by decide +kernel) ?_
  refine lv_iload hx hb dX6_takeOff_129 (lv_at hl 1 rfl) ?_
  refine lv_aload_n hx hb dX6_takeOff_131 rfl (lv_at hl 4 rfl) ?_
  refine va_get (D := (dC, dI)) (ci := 6) (v := .ref (h 101)) (C := RX6) (T := TX6) (N := 4) hx hb hts hinX6 hown hK hP 0 rfl rfl 0 (by decide) (hts (.fieldLink RX6 21 "MixedWords$Taker" "mix" "LMixedWords$Mix;") (by decide +kernel)) (fun _ h9 => h9) rfl dX6_takeOff_132 ?_
  refine va_get (D := (dC, dI)) (ci := 3) (v := .ref (h 130)) (C := RX3) (T := TX3) (N := 6) hx hb hts hinX3 hown hK hP 1 rfl rfl 4 (by decide) (hts (.fieldLink RX6 48 "MixedWords$Mix" "cells" "[[I") (by decide +kernel)) (fun _ h9 => h9) rfl dX6_takeOff_135 ?_
  refine lv_iload hx hb dX6_takeOff_138 (lv_at hl 0 rfl) ?_
  refine xa_aald (b := h 131) hx hb hK hP 2 3 rfl rfl rfl (by omega) (by decide) (if_pos (by omega)) dX6_takeOff_140 ?_
  refine lv_iload_n hx hb dX6_takeOff_141 rfl (lv_at hl 5 rfl) ?_
  refine xa_iald hx hb hK hP 3 0 rfl rfl (by omega) (by decide) dX6_takeOff_142 ?_
  refine xt_i (y := nI 0) (by decide +kernel) ?_
  refine lv_imul hx hb dX6_takeOff_143 ?_
  refine xt_i (y := nI 0) (by decide +kernel) ?_
  refine lv_isub hx hb dX6_takeOff_144 ?_
  refine xt_i (y := nI 0) (by decide +kernel) ?_
  refine xa_iastS hx hb hK hP hD hS 9 0 rfl rfl (by omega) (by decide) (by decide +kernel) dX6_takeOff_145 (fun H locs hP hD hS => ?_)
  refine lv_iinc (v := nI 1) (lv' := [(5, .int (nI 1)), (4, .int (-1 : Int32)), (3, .int (nI 1)), (2, .int (nI 0)), (0, .ref (h 107)), (1, .int (nI 1))]) hx hb dX6_takeOff_146 hl (k := 0) rfl (by decide +kernel) (by decide) rfl (fun ls hl => ?_)
  refine lv_goto (tgt := 109) hx hb dX6_takeOff_149 (by decide) ?_
  refine lv_iload hx hb dX6_takeOff_109 (lv_at hl 0 rfl) ?_
  refine lv_aload_n hx hb dX6_takeOff_111 rfl (lv_at hl 4 rfl) ?_
  refine va_get (D := (dC, dI)) (ci := 6) (v := .ref (h 101)) (C := RX6) (T := TX6) (N := 4) hx hb hts hinX6 hown hK hP 0 rfl rfl 0 (by decide) (hts (.fieldLink RX6 21 "MixedWords$Taker" "mix" "LMixedWords$Mix;") (by decide +kernel)) (fun _ h9 => h9) rfl dX6_takeOff_112 ?_
  refine va_get (D := (dC, dI)) (ci := 3) (v := .int (fI 120)) (C := RX3) (T := TX3) (N := 6) hx hb hts hinX3 hown hK hP 1 rfl rfl 0 (by decide) (hts (.fieldLink RX6 52 "MixedWords$Mix" "height" "I") (by decide +kernel)) (fun _ h9 => h9) rfl dX6_takeOff_115 ?_
  refine xt_i (y := nI 2) (by decide +kernel) ?_
  refine lv_icmp_ge (tgt := 152) hx hb dX6_takeOff_118 (by decide) (fun c9 => False.elim (by revert c9; decide +kernel)) (fun _ => ?_)
  refine lv_aload_n hx hb dX6_takeOff_121 rfl (lv_at hl 4 rfl) ?_
  refine va_get (D := (dC, dI)) (ci := 6) (v := .ref (h 190)) (C := RX6) (T := TX6) (N := 4) hx hb hts hinX6 hown hK hP 0 rfl rfl 1 (by decide) (hts (.fieldLink RX6 9 "MixedWords$Taker" "left" "[I") (by decide +kernel)) (fun _ h9 => h9) rfl dX6_takeOff_122 ?_
  refine lv_iload hx hb dX6_takeOff_125 (lv_at hl 0 rfl) ?_
  refine lv_dup2_11 hx hb dX6_takeOff_127 rfl rfl ?_
  refine xa_iald hx hb hK hP 9 0 rfl rfl (by omega) (by decide) dX6_takeOff_128 ?_
  refine xt_i (y := nI 0) (by decide +kernel) ?_
  refine lv_iload hx hb dX6_takeOff_129 (lv_at hl 1 rfl) ?_
  refine lv_aload_n hx hb dX6_takeOff_131 rfl (lv_at hl 4 rfl) ?_
  refine va_get (D := (dC, dI)) (ci := 6) (v := .ref (h 101)) (C := RX6) (T := TX6) (N := 4) hx hb hts hinX6 hown hK hP 0 rfl rfl 0 (by decide) (hts (.fieldLink RX6 21 "MixedWords$Taker" "mix" "LMixedWords$Mix;") (by decide +kernel)) (fun _ h9 => h9) rfl dX6_takeOff_132 ?_
  refine va_get (D := (dC, dI)) (ci := 3) (v := .ref (h 130)) (C := RX3) (T := TX3) (N := 6) hx hb hts hinX3 hown hK hP 1 rfl rfl 4 (by decide) (hts (.fieldLink RX6 48 "MixedWords$Mix" "cells" "[[I") (by decide +kernel)) (fun _ h9 => h9) rfl dX6_takeOff_135 ?_
  refine lv_iload hx hb dX6_takeOff_138 (lv_at hl 0 rfl) ?_
  refine xa_aald (b := h 132) hx hb hK hP 2 3 rfl rfl rfl (by omega) (by decide) (if_pos (by omega)) dX6_takeOff_140 ?_
  refine lv_iload_n hx hb dX6_takeOff_141 rfl (lv_at hl 5 rfl) ?_
  refine xa_iald hx hb hK hP 4 0 rfl rfl (by omega) (by decide) dX6_takeOff_142 ?_
  refine xt_i (y := nI 0) (by decide +kernel) ?_
  refine lv_imul hx hb dX6_takeOff_143 ?_
  refine xt_i (y := nI 0) (by decide +kernel) ?_
  refine lv_isub hx hb dX6_takeOff_144 ?_
  refine xt_i (y := nI 0) (by decide +kernel) ?_
  refine xa_iastS hx hb hK hP hD hS 9 0 rfl rfl (by omega) (by decide) (by decide +kernel) dX6_takeOff_145 (fun H locs hP hD hS => ?_)
  refine lv_iinc (v := nI 2) (lv' := [(5, .int (nI 2)), (4, .int (-1 : Int32)), (3, .int (nI 1)), (2, .int (nI 0)), (0, .ref (h 107)), (1, .int (nI 1))]) hx hb dX6_takeOff_146 hl (k := 0) rfl (by decide +kernel) (by decide) rfl (fun ls hl => ?_)
  refine lv_goto (tgt := 109) hx hb dX6_takeOff_149 (by decide) ?_
  refine lv_iload hx hb dX6_takeOff_109 (lv_at hl 0 rfl) ?_
  refine lv_aload_n hx hb dX6_takeOff_111 rfl (lv_at hl 4 rfl) ?_
  refine va_get (D := (dC, dI)) (ci := 6) (v := .ref (h 101)) (C := RX6) (T := TX6) (N := 4) hx hb hts hinX6 hown hK hP 0 rfl rfl 0 (by decide) (hts (.fieldLink RX6 21 "MixedWords$Taker" "mix" "LMixedWords$Mix;") (by decide +kernel)) (fun _ h9 => h9) rfl dX6_takeOff_112 ?_
  refine va_get (D := (dC, dI)) (ci := 3) (v := .int (fI 120)) (C := RX3) (T := TX3) (N := 6) hx hb hts hinX3 hown hK hP 1 rfl rfl 0 (by decide) (hts (.fieldLink RX6 52 "MixedWords$Mix" "height" "I") (by decide +kernel)) (fun _ h9 => h9) rfl dX6_takeOff_115 ?_
  refine xt_i (y := nI 2) (by decide +kernel) ?_
  refine lv_icmp_ge (tgt := 152) hx hb dX6_takeOff_118 (by decide) (fun _ => ?_) (fun c9 => False.elim (by revert c9; decide +kernel))
  exact xr_v hx hb hr hlocks hK hS dX6_takeOff_152 (fI, fL, qA_29, fQ, fG, fJ) ⟨trivial, rfl⟩ hP hD
set_option maxRecDepth 20000 in
theorem ggX6_takeAll_X6_greatest : GoodIn wsX6_takeAll wsX6_greatest := goodIn_r _ [14, 1, 8, 15, 16, 17, 18, 19, 49, 50, 51, 52, 53, 54, 55, 56, 57, 58] (by decide +kernel) (by decide +kernel)
set_option maxRecDepth 20000 in
theorem gX6_takeAll_X6_greatest : GoodIn wsX6_takeAll (wsV RX6 40 RX6 yX6_greatest wsX6_greatest) := goodIn_app (goodIn_of _ (by decide +kernel)) ggX6_takeAll_X6_greatest
set_option maxRecDepth 20000 in
theorem ggX6_takeAll_X6_takeOff : GoodIn wsX6_takeAll wsX6_takeOff := goodIn_r _ [23, 1, 16, 15, 3, 24, 25, 26, 27, 28, 29, 17, 18, 19, 30, 31, 32, 33, 34, 35, 36, 37, 38, 39, 40, 41, 42, 43, 44, 45, 46, 47, 48, 49, 50, 51, 52, 53, 54, 55, 56, 57, 58] (by decide +kernel) (by decide +kernel)
set_option maxRecDepth 20000 in
theorem gX6_takeAll_X6_takeOff : GoodIn wsX6_takeAll (wsV RX6 44 RX6 yX6_takeOff wsX6_takeOff) := goodIn_app (goodIn_of _ (by decide +kernel)) ggX6_takeAll_X6_takeOff
theorem dX6_takeAll_0 : decode cX6_takeAll 0 = .ok (.aload_n 0, 1) := by decide +kernel
theorem dX6_takeAll_1 : decode cX6_takeAll 1 = .ok (.getfield 21, 3) := by decide +kernel
theorem dX6_takeAll_4 : decode cX6_takeAll 4 = .ok (.getfield 25, 3) := by decide +kernel
theorem dX6_takeAll_7 : decode cX6_takeAll 7 = .ok (.iconst 0, 1) := by decide +kernel
theorem dX6_takeAll_8 : decode cX6_takeAll 8 = .ok (.aload_n 0, 1) := by decide +kernel
theorem dX6_takeAll_9 : decode cX6_takeAll 9 = .ok (.getfield 9, 3) := by decide +kernel
theorem dX6_takeAll_12 : decode cX6_takeAll 12 = .ok (.iconst 0, 1) := by decide +kernel
theorem dX6_takeAll_13 : decode cX6_takeAll 13 = .ok (.iconst 5, 1) := by decide +kernel
theorem dX6_takeAll_14 : decode cX6_takeAll 14 = .ok (.invokestatic 30, 3) := by decide +kernel
theorem dX6_takeAll_17 : decode cX6_takeAll 17 = .ok (.iconst 0, 1) := by decide +kernel
theorem dX6_takeAll_18 : decode cX6_takeAll 18 = .ok (.istore_n 1, 1) := by decide +kernel
theorem dX6_takeAll_19 : decode cX6_takeAll 19 = .ok (.iconst 0, 1) := by decide +kernel
theorem dX6_takeAll_20 : decode cX6_takeAll 20 = .ok (.istore_n 2, 1) := by decide +kernel
theorem dX6_takeAll_21 : decode cX6_takeAll 21 = .ok (.iload_n 2, 1) := by decide +kernel
theorem dX6_takeAll_22 : decode cX6_takeAll 22 = .ok (.aload_n 0, 1) := by decide +kernel
theorem dX6_takeAll_23 : decode cX6_takeAll 23 = .ok (.getfield 21, 3) := by decide +kernel
theorem dX6_takeAll_26 : decode cX6_takeAll 26 = .ok (.getfield 36, 3) := by decide +kernel
theorem dX6_takeAll_29 : decode cX6_takeAll 29 = .ok (.if_icmp .ge 33, 3) := by decide +kernel
theorem dX6_takeAll_32 : decode cX6_takeAll 32 = .ok (.aload_n 0, 1) := by decide +kernel
theorem dX6_takeAll_33 : decode cX6_takeAll 33 = .ok (.iload_n 1, 1) := by decide +kernel
theorem dX6_takeAll_34 : decode cX6_takeAll 34 = .ok (.invokevirtual 40, 3) := by decide +kernel
theorem dX6_takeAll_37 : decode cX6_takeAll 37 = .ok (.istore_n 3, 1) := by decide +kernel
theorem dX6_takeAll_38 : decode cX6_takeAll 38 = .ok (.aload_n 0, 1) := by decide +kernel
theorem dX6_takeAll_39 : decode cX6_takeAll 39 = .ok (.getfield 15, 3) := by decide +kernel
theorem dX6_takeAll_42 : decode cX6_takeAll 42 = .ok (.iload_n 2, 1) := by decide +kernel
theorem dX6_takeAll_43 : decode cX6_takeAll 43 = .ok (.iload_n 3, 1) := by decide +kernel
theorem dX6_takeAll_44 : decode cX6_takeAll 44 = .ok (.iastore, 1) := by decide +kernel
theorem dX6_takeAll_45 : decode cX6_takeAll 45 = .ok (.iload_n 1, 1) := by decide +kernel
theorem dX6_takeAll_46 : decode cX6_takeAll 46 = .ok (.iconst 1, 1) := by decide +kernel
theorem dX6_takeAll_47 : decode cX6_takeAll 47 = .ok (.iload_n 3, 1) := by decide +kernel
theorem dX6_takeAll_48 : decode cX6_takeAll 48 = .ok (.ishl, 1) := by decide +kernel
theorem dX6_takeAll_49 : decode cX6_takeAll 49 = .ok (.ior, 1) := by decide +kernel
theorem dX6_takeAll_50 : decode cX6_takeAll 50 = .ok (.istore_n 1, 1) := by decide +kernel
theorem dX6_takeAll_51 : decode cX6_takeAll 51 = .ok (.aload_n 0, 1) := by decide +kernel
theorem dX6_takeAll_52 : decode cX6_takeAll 52 = .ok (.iload_n 3, 1) := by decide +kernel
theorem dX6_takeAll_53 : decode cX6_takeAll 53 = .ok (.invokevirtual 44, 3) := by decide +kernel
theorem dX6_takeAll_56 : decode cX6_takeAll 56 = .ok (.iinc 2 1, 3) := by decide +kernel
theorem dX6_takeAll_59 : decode cX6_takeAll 59 = .ok (.goto (-38), 3) := by decide +kernel
theorem dX6_takeAll_62 : decode cX6_takeAll 62 = .ok (.return_, 1) := by decide +kernel
set_option maxHeartbeats 4000000 in
set_option maxRecDepth 100000 in
theorem a_X6_takeAll_22 (l : Launch) (dC : Nat → ClassId) (dI : Nat → Nat → Nat) (h : Nat → Nat) (cs : Nat → ClassId) (sz : Nat) (I : Nat → Int32) (L : Nat → Int64) (A : Nat → Nat → Int32) (Q : Nat → Nat → Int64) (G : Nat → Nat → Nat → Int32) (J : Nat → Nat → Nat → Int64) : Met l yX6_takeAll wsX6_takeAll ({ frames := 4, cells := 0, slots := 0, locals := 131 }) (va_Pc [.ref (h 107)] (xPre (dC, dI) (wD_21 h cs fI fL fA fQ fG fJ) (tysA cs) sz)) (va_Qv (fun (u : CS) => (True) ∧ u = (fI, fL, qA_29, fQ, fG, fJ)) (xB (dC, dI) (tysA cs) (va_A (wD_21 h cs fI fL fA fQ fG fJ) sz) (fun u : CS => wD_21 h cs u.1 u.2.1 u.2.2.1 u.2.2.2.1 u.2.2.2.2.1 u.2.2.2.2.2)) (va_A (wD_21 h cs fI fL fA fQ fG fJ) sz)) 0 0 (va_A (wD_21 h cs fI fL fA fQ fG fJ) sz) := by
  refine Met.ofW (cc := cX6_takeAll) (maxL := 4) (ret := none) (by decide) rfl ?_
  intro p e s m args below meth c s₁ B hml hv
  obtain ⟨rfl, hsz, hP, hK, hD0, hN⟩ := hv
  have hx := B.exec
  have hb := B.bytes
  have hr := B.returns
  have hts := atoms_spec (ws := wsX6_takeAll) B.pre
  have hown : s.vm.findClass RX6 = some m.cls := findClass_of_methodNamed B.named
  have hlocks := B.notSynchronized
  subst hsz
  have hD := hD0.self (sz := s.heap.size)
  generalize hAe : va_A (wD_21 h cs fI fL fA fQ fG fJ) s.heap.size = A0 at hD ⊢
  have hA : ∀ q : Nat, s.heap.size ≤ q → A0 q := fun q h => by rw [← hAe]; exact Or.inr h
  have hl := lv_entry ([.ref (h 107)]) (n := 4) (Nat.le_of_ble_eq_true rfl)
  rw [lg_entry_eq]
  generalize (lg_sl ([.ref (h 107)]) ++ List.replicate (4 - (lg_sl ([.ref (h 107)])).length) Slot.unset).toArray = ls at hl ⊢
  have hl : lv_has ls 4 [(0, .ref (h 107))] := hl
  generalize hH : s.heap = H at hP ⊢
  have hS : va_S A0 s.heap H [] := by rw [← hH]; exact va_S.rf
  have hinX6 : ∀ w ∈ wsX60, w ∈ wsX6_takeAll := by decide +kernel
  have hinX3 : ∀ w ∈ wsX30, w ∈ wsX6_takeAll := by decide +kernel
  refine lv_aload_n hx hb dX6_takeAll_0 rfl (lv_at hl 0 rfl) ?_
  refine va_get (D := (dC, dI)) (ci := 6) (v := .ref (h 101)) (C := RX6) (T := TX6) (N := 4) hx hb hts hinX6 hown hK hP 0 rfl rfl 0 (by decide) (hts (.fieldLink RX6 21 "MixedWords$Taker" "mix" "LMixedWords$Mix;") (by decide +kernel)) (fun _ h9 => h9) rfl dX6_takeAll_1 ?_
  refine va_get (D := (dC, dI)) (ci := 3) (v := .ref (h 136)) (C := RX3) (T := TX3) (N := 6) hx hb hts hinX3 hown hK hP 1 rfl rfl 5 (by decide) (hts (.fieldLink RX6 25 "MixedWords$Mix" "heard" "[I") (by decide +kernel)) (fun _ h9 => h9) rfl dX6_takeAll_4 ?_
  refine lv_iconst (v := nI 0) hx hb dX6_takeAll_7 (by decide) ?_
  refine lv_aload_n hx hb dX6_takeAll_8 rfl (lv_at hl 0 rfl) ?_
  refine va_get (D := (dC, dI)) (ci := 6) (v := .ref (h 190)) (C := RX6) (T := TX6) (N := 4) hx hb hts hinX6 hown hK hP 0 rfl rfl 1 (by decide) (hts (.fieldLink RX6 9 "MixedWords$Taker" "left" "[I") (by decide +kernel)) (fun _ h9 => h9) rfl dX6_takeAll_9 ?_
  refine lv_iconst (v := nI 0) hx hb dX6_takeAll_12 (by decide) ?_
  refine lv_iconst (v := nI 5) hx hb dX6_takeAll_13 (by decide) ?_
  refine xa_copyS hx hb (hml.trans hl.1.symm) hown (hts (.methodLink RX6 30 arraycopyName) (by decide +kernel)) (hts (.native arraycopyName) (by decide +kernel)) (hts (.static arraycopyName) (by decide +kernel)) (hts (.initialized "java/lang/System") (by decide +kernel)) hK hP hD hS 8 9 rfl rfl (by omega) (by omega) (by decide) (by decide) (by decide +kernel) (Nat.le_of_ble_eq_true rfl) (Nat.le_of_ble_eq_true rfl) dX6_takeAll_14 (fun H locs hP hD hS => ?_)
  refine lv_iconst (v := nI 0) hx hb dX6_takeAll_17 (by decide) ?_
  refine lv_istore_n (lv' := [(1, .int (nI 0)), (0, .ref (h 107))]) hx hb dX6_takeAll_18 rfl hl (by decide) rfl (fun ls hl => ?_)
  refine lv_iconst (v := nI 0) hx hb dX6_takeAll_19 (by decide) ?_
  refine lv_istore_n (lv' := [(2, .int (nI 0)), (1, .int (nI 0)), (0, .ref (h 107))]) hx hb dX6_takeAll_20 rfl hl (by decide) rfl (fun ls hl => ?_)
  refine lv_iload_n hx hb dX6_takeAll_21 rfl (lv_at hl 0 rfl) ?_
  refine lv_aload_n hx hb dX6_takeAll_22 rfl (lv_at hl 2 rfl) ?_
  refine va_get (D := (dC, dI)) (ci := 6) (v := .ref (h 101)) (C := RX6) (T := TX6) (N := 4) hx hb hts hinX6 hown hK hP 0 rfl rfl 0 (by decide) (hts (.fieldLink RX6 21 "MixedWords$Taker" "mix" "LMixedWords$Mix;") (by decide +kernel)) (fun _ h9 => h9) rfl dX6_takeAll_23 ?_
  refine va_get (D := (dC, dI)) (ci := 3) (v := .int (fI 121)) (C := RX3) (T := TX3) (N := 6) hx hb hts hinX3 hown hK hP 1 rfl rfl 1 (by decide) (hts (.fieldLink RX6 36 "MixedWords$Mix" "width" "I") (by decide +kernel)) (fun _ h9 => h9) rfl dX6_takeAll_26 ?_
  refine xt_i (y := nI 2) (by decide +kernel) ?_
  refine lv_icmp_ge (tgt := 62) hx hb dX6_takeAll_29 (by decide) (fun c9 => False.elim (by revert c9; decide +kernel)) (fun _ => ?_)
  refine lv_aload_n hx hb dX6_takeAll_32 rfl (lv_at hl 2 rfl) ?_
  refine lv_iload_n hx hb dX6_takeAll_33 rfl (lv_at hl 1 rfl) ?_
  refine xj_i (wc := (wD_21 h cs fI fL fA fQ fG fJ)) (wr := ([] : va_W)) hP hD hS hA [0, 1, 2, 3, 4, 5, 6, 7, 8, 9, 10, 11] [] rfl rfl (by decide) (by decide) (va_runV (As := [.int (nI 0)]) (rest := []) ⟨hx, hb, hml, hown, hts⟩ (a_X6_greatest_23 l dC dI h cs H.size fI fL fA fQ fG fJ ) (cwV 1 hts gX6_takeAll_X6_greatest rfl rfl rfl (by decide +kernel) ⟨Nat.le_of_ble_eq_true rfl, Nat.le_of_ble_eq_true rfl⟩) (xpV (wc := (wD_21 h cs fI fL fA fQ fG fJ)) hP hD hK hN [0, 1, 2, 3, 4, 5, 6, 7, 8, 9, 10, 11] rfl (by decide) 0 (ci := 6) rfl rfl _) rfl rfl hl.1 rfl (lv_room (Nat.le_of_ble_eq_true rfl)) dX6_takeAll_34 ⟨Nat.zero_le _, Nat.zero_le _⟩) (fun r_2 u_1 H locs hw hP hD hS => ?_)
  obtain ⟨hf_3, rfl⟩ := hw
  have hP : va_P (dC, dI) vwCl (wD_21 h cs fI fL fA fQ fG fJ) H := hP
  have hD : va_D A0 (wD_21 h cs fI fL fA fQ fG fJ) := hD
  obtain rfl := hf_3
  refine lv_istore_n (lv' := [(3, .int (nI 0)), (2, .int (nI 0)), (1, .int (nI 0)), (0, .ref (h 107))]) hx hb dX6_takeAll_37 rfl hl (by decide) rfl (fun ls hl => ?_)
  refine lv_aload_n hx hb dX6_takeAll_38 rfl (lv_at hl 3 rfl) ?_
  refine va_get (D := (dC, dI)) (ci := 6) (v := .ref (h 191)) (C := RX6) (T := TX6) (N := 4) hx hb hts hinX6 hown hK hP 0 rfl rfl 2 (by decide) (hts (.fieldLink RX6 15 "MixedWords$Taker" "sequence" "[I") (by decide +kernel)) (fun _ h9 => h9) rfl dX6_takeAll_39 ?_
  refine lv_iload_n hx hb dX6_takeAll_42 rfl (lv_at hl 1 rfl) ?_
  refine lv_iload_n hx hb dX6_takeAll_43 rfl (lv_at hl 0 rfl) ?_
  refine xa_iastS hx hb hK hP hD hS 10 0 rfl rfl (by omega) (by decide) (by decide +kernel) dX6_takeAll_44 (fun H locs hP hD hS => ?_)
  refine lv_iload_n hx hb dX6_takeAll_45 rfl (lv_at hl 2 rfl) ?_
  refine lv_iconst (v := nI 1) hx hb dX6_takeAll_46 (by decide) ?_
  refine lv_iload_n hx hb dX6_takeAll_47 rfl (lv_at hl 0 rfl) ?_
  refine lv_ishl hx hb dX6_takeAll_48 ?_
  refine xt_i (y := nI 1) (by decide +kernel) ?_
  refine lv_ior hx hb dX6_takeAll_49 ?_
  refine xt_i (y := nI 1) (by decide +kernel) ?_
  refine lv_istore_n (lv' := [(1, .int (nI 1)), (3, .int (nI 0)), (2, .int (nI 0)), (0, .ref (h 107))]) hx hb dX6_takeAll_50 rfl hl (by decide) rfl (fun ls hl => ?_)
  refine lv_aload_n hx hb dX6_takeAll_51 rfl (lv_at hl 3 rfl) ?_
  refine lv_iload_n hx hb dX6_takeAll_52 rfl (lv_at hl 1 rfl) ?_
  refine xj_v (wc := (wD_21 h cs fI fL fA fQ fG fJ)) (wr := ([] : va_W)) hP hD hS hA [0, 1, 2, 3, 4, 5, 6, 7, 8, 9, 10, 11] [] rfl rfl (by decide) (by decide) (va_runV (As := [.int (nI 0)]) (rest := []) ⟨hx, hb, hml, hown, hts⟩ (a_X6_takeOff_24 l dC dI h cs H.size fI fL fA fQ fG fJ ) (cwV 1 hts gX6_takeAll_X6_takeOff rfl rfl rfl (by decide +kernel) ⟨Nat.le_of_ble_eq_true rfl, Nat.le_of_ble_eq_true rfl⟩) (xpV (wc := (wD_21 h cs fI fL fA fQ fG fJ)) hP hD hK hN [0, 1, 2, 3, 4, 5, 6, 7, 8, 9, 10, 11] rfl (by decide) 0 (ci := 6) rfl rfl _) rfl rfl hl.1 rfl (lv_room (Nat.le_of_ble_eq_true rfl)) dX6_takeAll_53 ⟨Nat.zero_le _, Nat.zero_le _⟩) (fun u_4 H locs hw hP hD hS => ?_)
  obtain ⟨hf_6, rfl⟩ := hw
  have hP : va_P (dC, dI) vwCl (wD_21 h cs fI fL fA fQ fG fJ) H := hP
  have hD : va_D A0 (wD_21 h cs fI fL fA fQ fG fJ) := hD
  refine lv_iinc (v := nI 1) (lv' := [(2, .int (nI 1)), (1, .int (nI 1)), (3, .int (nI 0)), (0, .ref (h 107))]) hx hb dX6_takeAll_56 hl (k := 2) rfl (by decide +kernel) (by decide) rfl (fun ls hl => ?_)
  refine lv_goto (tgt := 21) hx hb dX6_takeAll_59 (by decide) ?_
  refine lv_iload_n hx hb dX6_takeAll_21 rfl (lv_at hl 0 rfl) ?_
  refine lv_aload_n hx hb dX6_takeAll_22 rfl (lv_at hl 3 rfl) ?_
  refine va_get (D := (dC, dI)) (ci := 6) (v := .ref (h 101)) (C := RX6) (T := TX6) (N := 4) hx hb hts hinX6 hown hK hP 0 rfl rfl 0 (by decide) (hts (.fieldLink RX6 21 "MixedWords$Taker" "mix" "LMixedWords$Mix;") (by decide +kernel)) (fun _ h9 => h9) rfl dX6_takeAll_23 ?_
  refine va_get (D := (dC, dI)) (ci := 3) (v := .int (fI 121)) (C := RX3) (T := TX3) (N := 6) hx hb hts hinX3 hown hK hP 1 rfl rfl 1 (by decide) (hts (.fieldLink RX6 36 "MixedWords$Mix" "width" "I") (by decide +kernel)) (fun _ h9 => h9) rfl dX6_takeAll_26 ?_
  refine xt_i (y := nI 2) (by decide +kernel) ?_
  refine lv_icmp_ge (tgt := 62) hx hb dX6_takeAll_29 (by decide) (fun c9 => False.elim (by revert c9; decide +kernel)) (fun _ => ?_)
  refine lv_aload_n hx hb dX6_takeAll_32 rfl (lv_at hl 3 rfl) ?_
  refine lv_iload_n hx hb dX6_takeAll_33 rfl (lv_at hl 1 rfl) ?_
  refine xj_i (wc := (wD_21 h cs fI fL fA fQ fG fJ)) (wr := ([] : va_W)) hP hD hS hA [0, 1, 2, 3, 4, 5, 6, 7, 8, 9, 10, 11] [] rfl rfl (by decide) (by decide) (va_runV (As := [.int (nI 1)]) (rest := []) ⟨hx, hb, hml, hown, hts⟩ (a_X6_greatest_28 l dC dI h cs H.size fI fL fA fQ fG fJ ) (cwV 1 hts gX6_takeAll_X6_greatest rfl rfl rfl (by decide +kernel) ⟨Nat.le_of_ble_eq_true rfl, Nat.le_of_ble_eq_true rfl⟩) (xpV (wc := (wD_21 h cs fI fL fA fQ fG fJ)) hP hD hK hN [0, 1, 2, 3, 4, 5, 6, 7, 8, 9, 10, 11] rfl (by decide) 0 (ci := 6) rfl rfl _) rfl rfl hl.1 rfl (lv_room (Nat.le_of_ble_eq_true rfl)) dX6_takeAll_34 ⟨Nat.zero_le _, Nat.zero_le _⟩) (fun r_8 u_7 H locs hw hP hD hS => ?_)
  obtain ⟨hf_9, rfl⟩ := hw
  have hP : va_P (dC, dI) vwCl (wD_21 h cs fI fL fA fQ fG fJ) H := hP
  have hD : va_D A0 (wD_21 h cs fI fL fA fQ fG fJ) := hD
  obtain rfl := hf_9
  refine lv_istore_n (lv' := [(3, .int (nI 1)), (2, .int (nI 1)), (1, .int (nI 1)), (0, .ref (h 107))]) hx hb dX6_takeAll_37 rfl hl (by decide) rfl (fun ls hl => ?_)
  refine lv_aload_n hx hb dX6_takeAll_38 rfl (lv_at hl 3 rfl) ?_
  refine va_get (D := (dC, dI)) (ci := 6) (v := .ref (h 191)) (C := RX6) (T := TX6) (N := 4) hx hb hts hinX6 hown hK hP 0 rfl rfl 2 (by decide) (hts (.fieldLink RX6 15 "MixedWords$Taker" "sequence" "[I") (by decide +kernel)) (fun _ h9 => h9) rfl dX6_takeAll_39 ?_
  refine lv_iload_n hx hb dX6_takeAll_42 rfl (lv_at hl 1 rfl) ?_
  refine lv_iload_n hx hb dX6_takeAll_43 rfl (lv_at hl 0 rfl) ?_
  refine xa_iast hx hb hK hP hD hS 10 0 rfl rfl (by omega) (by decide) dX6_takeAll_44 (fun H locs hP hD hS => ?_)
  have hP : va_P (dC, dI) vwCl (wD_21 h cs fI fL (va_up fA 191 (upd (fA 191) 1 (nI 1))) fQ fG fJ) H := hP
  have hD : va_D A0 (wD_21 h cs fI fL (va_up fA 191 (upd (fA 191) 1 (nI 1))) fQ fG fJ) := hD
  refine lv_iload_n hx hb dX6_takeAll_45 rfl (lv_at hl 2 rfl) ?_
  refine lv_iconst (v := nI 1) hx hb dX6_takeAll_46 (by decide) ?_
  refine lv_iload_n hx hb dX6_takeAll_47 rfl (lv_at hl 0 rfl) ?_
  refine lv_ishl hx hb dX6_takeAll_48 ?_
  refine xt_i (y := nI 2) (by decide +kernel) ?_
  refine lv_ior hx hb dX6_takeAll_49 ?_
  refine xt_i (y := nI 3) (by decide +kernel) ?_
  refine lv_istore_n (lv' := [(1, .int (nI 3)), (3, .int (nI 1)), (2, .int (nI 1)), (0, .ref (h 107))]) hx hb dX6_takeAll_50 rfl hl (by decide) rfl (fun ls hl => ?_)
  refine lv_aload_n hx hb dX6_takeAll_51 rfl (lv_at hl 3 rfl) ?_
  refine lv_iload_n hx hb dX6_takeAll_52 rfl (lv_at hl 1 rfl) ?_
  have hP : va_P (dC, dI) vwCl (wD_21 h cs fI fL qA_29 fQ fG fJ) H := hP
  have hD : va_D A0 (wD_21 h cs fI fL qA_29 fQ fG fJ) := hD
  refine xj_v (wc := (wD_21 h cs fI fL qA_29 fQ fG fJ)) (wr := ([] : va_W)) hP hD hS hA [0, 1, 2, 3, 4, 5, 6, 7, 8, 9, 10, 11] [] rfl rfl (by decide) (by decide) (va_runV (As := [.int (nI 1)]) (rest := []) ⟨hx, hb, hml, hown, hts⟩ (a_X6_takeOff_30 l dC dI h cs H.size fI fL qA_29 fQ fG fJ ) (cwV 1 hts gX6_takeAll_X6_takeOff rfl rfl rfl (by decide +kernel) ⟨Nat.le_of_ble_eq_true rfl, Nat.le_of_ble_eq_true rfl⟩) (xpV (wc := (wD_21 h cs fI fL qA_29 fQ fG fJ)) hP hD hK hN [0, 1, 2, 3, 4, 5, 6, 7, 8, 9, 10, 11] rfl (by decide) 0 (ci := 6) rfl rfl _) rfl rfl hl.1 rfl (lv_room (Nat.le_of_ble_eq_true rfl)) dX6_takeAll_53 ⟨Nat.zero_le _, Nat.zero_le _⟩) (fun u_10 H locs hw hP hD hS => ?_)
  obtain ⟨hf_12, rfl⟩ := hw
  have hP : va_P (dC, dI) vwCl (wD_21 h cs fI fL qA_29 fQ fG fJ) H := hP
  have hD : va_D A0 (wD_21 h cs fI fL qA_29 fQ fG fJ) := hD
  refine lv_iinc (v := nI 2) (lv' := [(2, .int (nI 2)), (1, .int (nI 3)), (3, .int (nI 1)), (0, .ref (h 107))]) hx hb dX6_takeAll_56 hl (k := 2) rfl (by decide +kernel) (by decide) rfl (fun ls hl => ?_)
  refine lv_goto (tgt := 21) hx hb dX6_takeAll_59 (by decide) ?_
  refine lv_iload_n hx hb dX6_takeAll_21 rfl (lv_at hl 0 rfl) ?_
  refine lv_aload_n hx hb dX6_takeAll_22 rfl (lv_at hl 3 rfl) ?_
  refine va_get (D := (dC, dI)) (ci := 6) (v := .ref (h 101)) (C := RX6) (T := TX6) (N := 4) hx hb hts hinX6 hown hK hP 0 rfl rfl 0 (by decide) (hts (.fieldLink RX6 21 "MixedWords$Taker" "mix" "LMixedWords$Mix;") (by decide +kernel)) (fun _ h9 => h9) rfl dX6_takeAll_23 ?_
  refine va_get (D := (dC, dI)) (ci := 3) (v := .int (fI 121)) (C := RX3) (T := TX3) (N := 6) hx hb hts hinX3 hown hK hP 1 rfl rfl 1 (by decide) (hts (.fieldLink RX6 36 "MixedWords$Mix" "width" "I") (by decide +kernel)) (fun _ h9 => h9) rfl dX6_takeAll_26 ?_
  refine xt_i (y := nI 2) (by decide +kernel) ?_
  refine lv_icmp_ge (tgt := 62) hx hb dX6_takeAll_29 (by decide) (fun _ => ?_) (fun c9 => False.elim (by revert c9; decide +kernel))
  exact xr_v hx hb hr hlocks hK hS dX6_takeAll_62 (fI, fL, qA_29, fQ, fG, fJ) ⟨trivial, rfl⟩ hP hD
def wD_32 (h : Nat → Nat) (cs : Nat → ClassId) (I : Nat → Int32) (L : Nat → Int64) (A : Nat → Nat → Int32) (Q : Nat → Nat → Int64) (G : Nat → Nat → Nat → Int32) (J : Nat → Nat → Nat → Int64) : va_W := [(h 101, .inr (3, [.int (I 120), .int (I 121), .int (I 122), .int (I 123), .ref (h 130), .ref (h 136)])), (h 130, .inl (cs 3, 5, .inr (.inr (.inr (.inr (fun i => if i < 5 then some (h (i + 131)) else none)))))), (h 131, .inl (cs 0, 4, .inl ((G 0) 0))), (h 132, .inl (cs 0, 4, .inl ((G 0) 1))), (h 133, .inl (cs 0, 4, .inl ((G 0) 2))), (h 134, .inl (cs 0, 4, .inl ((G 0) 3))), (h 135, .inl (cs 0, 4, .inl ((G 0) 4))), (h 136, .inl (cs 0, 5, .inl (A 136)))]
set_option maxHeartbeats 4000000 in
set_option maxRecDepth 100000 in
theorem a_X3_follow_33 (l : Launch) (dC : Nat → ClassId) (dI : Nat → Nat → Nat) (h : Nat → Nat) (cs : Nat → ClassId) (sz : Nat) (I : Nat → Int32) (L : Nat → Int64) (A : Nat → Nat → Int32) (Q : Nat → Nat → Int64) (G : Nat → Nat → Nat → Int32) (J : Nat → Nat → Nat → Int64) : Met l yX3_follow wsX3_follow ({ frames := 0, cells := 0, slots := 0, locals := 0 }) (va_Pc [.ref (h 101), .int (nI 0), .int (nI 0)] (xPre (dC, dI) (wD_32 h cs fI fL qA_29 fQ fG fJ) (tysA cs) sz)) (va_Qi (fun (r : Int32) (u : CS) => (r = nI 0) ∧ u = (fI, fL, qA_29, fQ, fG, fJ)) (xB (dC, dI) (tysA cs) (va_A (wD_32 h cs fI fL qA_29 fQ fG fJ) sz) (fun u : CS => wD_32 h cs u.1 u.2.1 u.2.2.1 u.2.2.2.1 u.2.2.2.2.1 u.2.2.2.2.2)) (va_A (wD_32 h cs fI fL qA_29 fQ fG fJ) sz)) 0 0 (va_A (wD_32 h cs fI fL qA_29 fQ fG fJ) sz) := by
  refine Met.ofW (cc := cX3_follow) (maxL := 3) (ret := (some .int)) (by decide) rfl ?_
  intro p e s m args below meth c s₁ B hml hv
  obtain ⟨rfl, hsz, hP, hK, hD0, hN⟩ := hv
  have hx := B.exec
  have hb := B.bytes
  have hr := B.returns
  have hts := atoms_spec (ws := wsX3_follow) B.pre
  have hown : s.vm.findClass RX3 = some m.cls := findClass_of_methodNamed B.named
  have hlocks := B.notSynchronized
  subst hsz
  have hD := hD0.self (sz := s.heap.size)
  generalize hAe : va_A (wD_32 h cs fI fL qA_29 fQ fG fJ) s.heap.size = A0 at hD ⊢
  have hA : ∀ q : Nat, s.heap.size ≤ q → A0 q := fun q h => by rw [← hAe]; exact Or.inr h
  have hl := lv_entry ([.ref (h 101), .int (nI 0), .int (nI 0)]) (n := 3) (Nat.le_of_ble_eq_true rfl)
  rw [lg_entry_eq]
  generalize (lg_sl ([.ref (h 101), .int (nI 0), .int (nI 0)]) ++ List.replicate (3 - (lg_sl ([.ref (h 101), .int (nI 0), .int (nI 0)])).length) Slot.unset).toArray = ls at hl ⊢
  have hl : lv_has ls 3 [(0, .ref (h 101)), (1, .int (nI 0)), (2, .int (nI 0))] := hl
  generalize hH : s.heap = H at hP ⊢
  have hS : va_S A0 s.heap H [] := by rw [← hH]; exact va_S.rf
  have hinX3 : ∀ w ∈ wsX30, w ∈ wsX3_follow := by decide +kernel
  refine lv_iload_n hx hb dX3_follow_0 rfl (lv_at hl 1 rfl) ?_
  refine lv_aload_n hx hb dX3_follow_1 rfl (lv_at hl 0 rfl) ?_
  refine va_get (D := (dC, dI)) (ci := 3) (v := .int (fI 122)) (C := RX3) (T := TX3) (N := 6) hx hb hts hinX3 hown hK hP 0 rfl rfl 2 (by decide) (hts (.fieldLink RX3 18 "MixedWords$Mix" "letterCount" "I") (by decide +kernel)) (fun _ h9 => h9) rfl dX3_follow_2 ?_
  refine xt_i (y := nI 2) (by decide +kernel) ?_
  refine lv_imul hx hb dX3_follow_5 ?_
  refine xt_i (y := nI 0) (by decide +kernel) ?_
  refine lv_iload_n hx hb dX3_follow_6 rfl (lv_at hl 2 rfl) ?_
  refine lv_iadd hx hb dX3_follow_7 ?_
  refine xt_i (y := nI 0) (by decide +kernel) ?_
  exact xr_i (v := (nI 0)) hx hb hr hlocks hK hS dX3_follow_8 (fI, fL, qA_29, fQ, fG, fJ) ⟨rfl, rfl⟩ hP hD
set_option maxRecDepth 20000 in
theorem ggX9_taken_X6_takeAll : GoodIn wsX9_taken wsX6_takeAll := goodIn_r _ [9, 10, 11, 12, 13, 14, 15, 16, 17, 18, 19, 20, 21, 8, 22, 23, 24, 25, 26, 27, 28, 29, 30, 31, 32, 33, 34, 35, 36, 37, 38, 39, 40, 41, 42, 43, 44, 45, 46, 47, 48, 49, 50, 51, 52, 53, 54, 55, 56, 78, 79, 80, 81, 72, 73, 74, 75, 76, 77] (by decide +kernel) (by decide +kernel)
set_option maxRecDepth 20000 in
theorem gX9_taken_X6_takeAll : GoodIn wsX9_taken (wsV RX9 224 RX6 yX6_takeAll wsX6_takeAll) := goodIn_app (goodIn_of _ (by decide +kernel)) ggX9_taken_X6_takeAll
set_option maxRecDepth 20000 in
theorem ggX9_taken_X3_follow : GoodIn wsX9_taken wsX3_follow := goodIn_r _ [61, 62, 72, 73, 74, 75, 76, 77] (by decide +kernel) (by decide +kernel)
set_option maxRecDepth 20000 in
theorem gX9_taken_X3_follow : GoodIn wsX9_taken (wsV RX9 204 RX3 yX3_follow wsX3_follow) := goodIn_app (goodIn_of _ (by decide +kernel)) ggX9_taken_X3_follow
theorem dX9_taken_0 : decode cX9_taken 0 = .ok (.aload_n 0, 1) := by decide +kernel
theorem dX9_taken_1 : decode cX9_taken 1 = .ok (.getfield 58, 3) := by decide +kernel
theorem dX9_taken_4 : decode cX9_taken 4 = .ok (.invokevirtual 224, 3) := by decide +kernel
theorem dX9_taken_7 : decode cX9_taken 7 = .ok (.iconst 0, 1) := by decide +kernel
theorem dX9_taken_8 : decode cX9_taken 8 = .ok (.istore_n 1, 1) := by decide +kernel
theorem dX9_taken_9 : decode cX9_taken 9 = .ok (.iconst 0, 1) := by decide +kernel
theorem dX9_taken_10 : decode cX9_taken 10 = .ok (.istore_n 2, 1) := by decide +kernel
theorem dX9_taken_11 : decode cX9_taken 11 = .ok (.iload_n 2, 1) := by decide +kernel
theorem dX9_taken_12 : decode cX9_taken 12 = .ok (.aload_n 0, 1) := by decide +kernel
theorem dX9_taken_13 : decode cX9_taken 13 = .ok (.getfield 12, 3) := by decide +kernel
theorem dX9_taken_16 : decode cX9_taken 16 = .ok (.getfield 106, 3) := by decide +kernel
theorem dX9_taken_19 : decode cX9_taken 19 = .ok (.if_icmp .ge 27, 3) := by decide +kernel
theorem dX9_taken_22 : decode cX9_taken 22 = .ok (.aload_n 0, 1) := by decide +kernel
theorem dX9_taken_23 : decode cX9_taken 23 = .ok (.getfield 12, 3) := by decide +kernel
theorem dX9_taken_26 : decode cX9_taken 26 = .ok (.iload_n 1, 1) := by decide +kernel
theorem dX9_taken_27 : decode cX9_taken 27 = .ok (.aload_n 0, 1) := by decide +kernel
theorem dX9_taken_28 : decode cX9_taken 28 = .ok (.getfield 58, 3) := by decide +kernel
theorem dX9_taken_31 : decode cX9_taken 31 = .ok (.getfield 227, 3) := by decide +kernel
theorem dX9_taken_34 : decode cX9_taken 34 = .ok (.iload_n 2, 1) := by decide +kernel
theorem dX9_taken_35 : decode cX9_taken 35 = .ok (.iaload, 1) := by decide +kernel
theorem dX9_taken_36 : decode cX9_taken 36 = .ok (.invokevirtual 204, 3) := by decide +kernel
theorem dX9_taken_39 : decode cX9_taken 39 = .ok (.istore_n 1, 1) := by decide +kernel
theorem dX9_taken_40 : decode cX9_taken 40 = .ok (.iinc 2 1, 3) := by decide +kernel
theorem dX9_taken_43 : decode cX9_taken 43 = .ok (.goto (-32), 3) := by decide +kernel
theorem dX9_taken_46 : decode cX9_taken 46 = .ok (.iload_n 1, 1) := by decide +kernel
theorem dX9_taken_47 : decode cX9_taken 47 = .ok (.ireturn, 1) := by decide +kernel
set_option maxHeartbeats 4000000 in
set_option maxRecDepth 100000 in
theorem f_X9_taken (l : Launch) (dC : Nat → ClassId) (dI : Nat → Nat → Nat) (h : Nat → Nat) (cs : Nat → ClassId) (sz : Nat) (I : Nat → Int32) (L : Nat → Int64) (A : Nat → Nat → Int32) (Q : Nat → Nat → Int64) (G : Nat → Nat → Nat → Int32) (J : Nat → Nat → Nat → Int64) : Met l yX9_taken wsX9_taken ({ frames := 5, cells := 0, slots := 0, locals := 154 }) (va_Pc [.ref (h 100)] (xPre (dC, dI) (wAll h cs fI fL fA fQ fG fJ) (tysA cs) sz)) (va_Qi (fun (r : Int32) (u : CS) => (r = nI 0) ∧ u = (fI, fL, qA_29, fQ, fG, fJ)) (xB (dC, dI) (tysA cs) (va_A (wAll h cs fI fL fA fQ fG fJ) sz) (fun u : CS => wAll h cs u.1 u.2.1 u.2.2.1 u.2.2.2.1 u.2.2.2.2.1 u.2.2.2.2.2)) (va_A (wAll h cs fI fL fA fQ fG fJ) sz)) 0 0 (va_A (wAll h cs fI fL fA fQ fG fJ) sz) := by
  refine Met.ofW (cc := cX9_taken) (maxL := 3) (ret := (some .int)) (by decide) rfl ?_
  intro p e s m args below meth c s₁ B hml hv
  obtain ⟨rfl, hsz, hP, hK, hD0, hN⟩ := hv
  have hx := B.exec
  have hb := B.bytes
  have hr := B.returns
  have hts := atoms_spec (ws := wsX9_taken) B.pre
  have hown : s.vm.findClass RX9 = some m.cls := findClass_of_methodNamed B.named
  have hlocks := B.notSynchronized
  subst hsz
  have hD := hD0.self (sz := s.heap.size)
  generalize hAe : va_A (wAll h cs fI fL fA fQ fG fJ) s.heap.size = A0 at hD ⊢
  have hA : ∀ q : Nat, s.heap.size ≤ q → A0 q := fun q h => by rw [← hAe]; exact Or.inr h
  have hl := lv_entry ([.ref (h 100)]) (n := 3) (Nat.le_of_ble_eq_true rfl)
  rw [lg_entry_eq]
  generalize (lg_sl ([.ref (h 100)]) ++ List.replicate (3 - (lg_sl ([.ref (h 100)])).length) Slot.unset).toArray = ls at hl ⊢
  have hl : lv_has ls 3 [(0, .ref (h 100))] := hl
  generalize hH : s.heap = H at hP ⊢
  have hS : va_S A0 s.heap H [] := by rw [← hH]; exact va_S.rf
  have hinX9 : ∀ w ∈ wsX90, w ∈ wsX9_taken := by decide +kernel
  have hinX3 : ∀ w ∈ wsX30, w ∈ wsX9_taken := by decide +kernel
  have hinX6 : ∀ w ∈ wsX60, w ∈ wsX9_taken := by decide +kernel
  refine lv_aload_n hx hb dX9_taken_0 rfl (lv_at hl 0 rfl) ?_
  refine va_get (D := (dC, dI)) (ci := 9) (v := .ref (h 107)) (C := RX9) (T := TX9) (N := 9) hx hb hts hinX9 hown hK hP 0 rfl rfl 6 (by decide) (hts (.fieldLink RX9 58 "MixedWords" "taker" "LMixedWords$Taker;") (by decide +kernel)) (fun _ h9 => h9) rfl dX9_taken_1 ?_
  refine xj_v (wc := (wD_21 h cs fI fL fA fQ fG fJ)) (wr := [(h 100, .inr (9, [.ref (h 101), .ref (h 102), .ref (h 103), .ref (h 104), .ref (h 105), .ref (h 106), .ref (h 107), .ref (h 108), .ref (h 109)])), (h 102, .inr (0, [.ref (h 101), .ref (h 140), .ref (h 141), .ref (h 142), .ref (h 143), .int (fI 144), .int (fI 145), .int (fI 146)])), (h 140, .inl (cs 0, 40, .inl (fA 140))), (h 141, .inl (cs 0, 40, .inl (fA 141))), (h 142, .inl (cs 0, 40, .inl (fA 142))), (h 143, .inl (cs 0, 40, .inl (fA 143))), (h 103, .inr (7, [.ref (h 150), .int (fI 151)])), (h 150, .inl (cs 2, 90, .inl (fA 150))), (h 104, .inr (4, [.ref (h 103), .ref (h 160), .int (fI 166), .int (fI 167), .int (fI 168), .int (fI 169)])), (h 160, .inl (cs 3, 5, .inr (.inr (.inr (.inr (fun i => if i < 5 then some (h (i + 161)) else none)))))), (h 161, .inl (cs 0, 4, .inl ((fG 1) 0))), (h 162, .inl (cs 0, 4, .inl ((fG 1) 1))), (h 163, .inl (cs 0, 4, .inl ((fG 1) 2))), (h 164, .inl (cs 0, 4, .inl ((fG 1) 3))), (h 165, .inl (cs 0, 4, .inl ((fG 1) 4))), (h 105, .inr (8, [.ref (h 101), .ref (h 170), .ref (h 171), .ref (h 172), .int (fI 173), .int (fI 174)])), (h 170, .inl (cs 0, 256, .inl (fA 170))), (h 171, .inl (cs 0, 256, .inl (fA 171))), (h 172, .inl (cs 0, 256, .inl (fA 172))), (h 106, .inr (2, [.ref (h 180), .ref (h 185), .ref (h 186), .ref (h 187), .long (fL 188)])), (h 180, .inl (cs 4, 4, .inr (.inr (.inr (.inr (fun i => if i < 4 then some (h (i + 181)) else none)))))), (h 181, .inl (cs 1, 4, .inr (.inl ((fJ 0) 0)))), (h 182, .inl (cs 1, 4, .inr (.inl ((fJ 0) 1)))), (h 183, .inl (cs 1, 4, .inr (.inl ((fJ 0) 2)))), (h 184, .inl (cs 1, 4, .inr (.inl ((fJ 0) 3)))), (h 185, .inl (cs 1, 4, .inr (.inl (fQ 185)))), (h 186, .inl (cs 0, 4, .inl (fA 186))), (h 187, .inl (cs 1, 4, .inr (.inl (fQ 187)))), (h 108, .inr (1, [.ref (h 101), .ref (h 200), .ref (h 206), .ref (h 211), .int (fI 212), .int (fI 213)])), (h 200, .inl (cs 3, 5, .inr (.inr (.inr (.inr (fun i => if i < 5 then some (h (i + 201)) else none)))))), (h 201, .inl (cs 0, 4, .inl ((fG 2) 0))), (h 202, .inl (cs 0, 4, .inl ((fG 2) 1))), (h 203, .inl (cs 0, 4, .inl ((fG 2) 2))), (h 204, .inl (cs 0, 4, .inl ((fG 2) 3))), (h 205, .inl (cs 0, 4, .inl ((fG 2) 4))), (h 206, .inl (cs 3, 4, .inr (.inr (.inr (.inr (fun i => if i < 4 then some (h (i + 207)) else none)))))), (h 207, .inl (cs 0, 4, .inl ((fG 3) 0))), (h 208, .inl (cs 0, 4, .inl ((fG 3) 1))), (h 209, .inl (cs 0, 4, .inl ((fG 3) 2))), (h 210, .inl (cs 0, 4, .inl ((fG 3) 3))), (h 211, .inl (cs 0, 5, .inl (fA 211))), (h 109, .inl (cs 5, 4, .inr (.inr (.inr (.inr (fun i => if i < 4 then some (h (i + 110)) else none)))))), (h 110, .inr (5, [.int (fI 220), .int (fI 224), .ref (h 228)])), (h 228, .inl (cs 1, 25, .inr (.inl (fQ 228)))), (h 111, .inr (5, [.int (fI 221), .int (fI 225), .ref (h 229)])), (h 229, .inl (cs 1, 25, .inr (.inl (fQ 229)))), (h 112, .inr (5, [.int (fI 222), .int (fI 226), .ref (h 230)])), (h 230, .inl (cs 1, 25, .inr (.inl (fQ 230)))), (h 113, .inr (5, [.int (fI 223), .int (fI 227), .ref (h 231)])), (h 231, .inl (cs 1, 25, .inr (.inl (fQ 231))))]) hP hD hS hA [36, 1, 2, 3, 4, 5, 6, 7, 8, 37, 38, 39] [0, 9, 10, 11, 12, 13, 14, 15, 16, 17, 18, 19, 20, 21, 22, 23, 24, 25, 26, 27, 28, 29, 30, 31, 32, 33, 34, 35, 40, 41, 42, 43, 44, 45, 46, 47, 48, 49, 50, 51, 52, 53, 54, 55, 56, 57, 58, 59, 60, 61] rfl rfl (by decide) (by decide) (va_runV (As := []) (rest := []) ⟨hx, hb, hml, hown, hts⟩ (a_X6_takeAll_22 l dC dI h cs H.size fI fL fA fQ fG fJ ) (cwV 0 hts gX9_taken_X6_takeAll rfl rfl rfl (by decide +kernel) ⟨Nat.le_of_ble_eq_true rfl, Nat.le_of_ble_eq_true rfl⟩) (xpV (wc := (wD_21 h cs fI fL fA fQ fG fJ)) hP hD hK hN [36, 1, 2, 3, 4, 5, 6, 7, 8, 37, 38, 39] rfl (by decide) 36 (ci := 6) rfl rfl _) rfl rfl hl.1 rfl (lv_room (Nat.le_of_ble_eq_true rfl)) dX9_taken_4 ⟨Nat.zero_le _, Nat.zero_le _⟩) (fun u_1 H locs hw hP hD hS => ?_)
  obtain ⟨hf_3, rfl⟩ := hw
  have hP : va_P (dC, dI) vwCl (wAll h cs fI fL qA_29 fQ fG fJ) H := xP_sub hP [0, 51, 52, 53, 54, 55, 56, 57, 58, 1, 2, 3, 4, 5, 6, 7, 8, 9, 10, 11, 12, 13, 14, 15, 16, 17, 18, 19, 20, 21, 22, 23, 24, 25, 26, 27, 50, 59, 60, 61, 28, 29, 30, 31, 32, 33, 34, 35, 36, 37, 38, 39, 40, 41, 42, 43, 44, 45, 46, 47, 48, 49] rfl
  have hD : va_D A0 (wAll h cs fI fL qA_29 fQ fG fJ) := hD.sub [0, 51, 52, 53, 54, 55, 56, 57, 58, 1, 2, 3, 4, 5, 6, 7, 8, 9, 10, 11, 12, 13, 14, 15, 16, 17, 18, 19, 20, 21, 22, 23, 24, 25, 26, 27, 50, 59, 60, 61, 28, 29, 30, 31, 32, 33, 34, 35, 36, 37, 38, 39, 40, 41, 42, 43, 44, 45, 46, 47, 48, 49] (by decide) rfl
  refine lv_iconst (v := nI 0) hx hb dX9_taken_7 (by decide) ?_
  refine lv_istore_n (lv' := [(1, .int (nI 0)), (0, .ref (h 100))]) hx hb dX9_taken_8 rfl hl (by decide) rfl (fun ls hl => ?_)
  refine lv_iconst (v := nI 0) hx hb dX9_taken_9 (by decide) ?_
  refine lv_istore_n (lv' := [(2, .int (nI 0)), (1, .int (nI 0)), (0, .ref (h 100))]) hx hb dX9_taken_10 rfl hl (by decide) rfl (fun ls hl => ?_)
  refine lv_iload_n hx hb dX9_taken_11 rfl (lv_at hl 0 rfl) ?_
  refine lv_aload_n hx hb dX9_taken_12 rfl (lv_at hl 2 rfl) ?_
  refine va_get (D := (dC, dI)) (ci := 9) (v := .ref (h 101)) (C := RX9) (T := TX9) (N := 9) hx hb hts hinX9 hown hK hP 0 rfl rfl 0 (by decide) (hts (.fieldLink RX9 12 "MixedWords" "mix" "LMixedWords$Mix;") (by decide +kernel)) (fun _ h9 => h9) rfl dX9_taken_13 ?_
  refine va_get (D := (dC, dI)) (ci := 3) (v := .int (fI 121)) (C := RX3) (T := TX3) (N := 6) hx hb hts hinX3 hown hK hP 1 rfl rfl 1 (by decide) (hts (.fieldLink RX9 106 "MixedWords$Mix" "width" "I") (by decide +kernel)) (fun _ h9 => h9) rfl dX9_taken_16 ?_
  refine xt_i (y := nI 2) (by decide +kernel) ?_
  refine lv_icmp_ge (tgt := 46) hx hb dX9_taken_19 (by decide) (fun c9 => False.elim (by revert c9; decide +kernel)) (fun _ => ?_)
  refine lv_aload_n hx hb dX9_taken_22 rfl (lv_at hl 2 rfl) ?_
  refine va_get (D := (dC, dI)) (ci := 9) (v := .ref (h 101)) (C := RX9) (T := TX9) (N := 9) hx hb hts hinX9 hown hK hP 0 rfl rfl 0 (by decide) (hts (.fieldLink RX9 12 "MixedWords" "mix" "LMixedWords$Mix;") (by decide +kernel)) (fun _ h9 => h9) rfl dX9_taken_23 ?_
  refine lv_iload_n hx hb dX9_taken_26 rfl (lv_at hl 1 rfl) ?_
  refine lv_aload_n hx hb dX9_taken_27 rfl (lv_at hl 2 rfl) ?_
  refine va_get (D := (dC, dI)) (ci := 9) (v := .ref (h 107)) (C := RX9) (T := TX9) (N := 9) hx hb hts hinX9 hown hK hP 0 rfl rfl 6 (by decide) (hts (.fieldLink RX9 58 "MixedWords" "taker" "LMixedWords$Taker;") (by decide +kernel)) (fun _ h9 => h9) rfl dX9_taken_28 ?_
  refine va_get (D := (dC, dI)) (ci := 6) (v := .ref (h 192)) (C := RX6) (T := TX6) (N := 4) hx hb hts hinX6 hown hK hP 36 rfl rfl 3 (by decide) (hts (.fieldLink RX9 227 "MixedWords$Taker" "indexes" "[I") (by decide +kernel)) (fun _ h9 => h9) rfl dX9_taken_31 ?_
  refine lv_iload_n hx hb dX9_taken_34 rfl (lv_at hl 0 rfl) ?_
  refine xa_iald hx hb hK hP 39 0 rfl rfl (by omega) (by decide) dX9_taken_35 ?_
  refine xt_i (y := nI 0) (by decide +kernel) ?_
  refine xj_i (wc := (wD_32 h cs fI fL qA_29 fQ fG fJ)) (wr := [(h 100, .inr (9, [.ref (h 101), .ref (h 102), .ref (h 103), .ref (h 104), .ref (h 105), .ref (h 106), .ref (h 107), .ref (h 108), .ref (h 109)])), (h 102, .inr (0, [.ref (h 101), .ref (h 140), .ref (h 141), .ref (h 142), .ref (h 143), .int (fI 144), .int (fI 145), .int (fI 146)])), (h 140, .inl (cs 0, 40, .inl (qA_29 140))), (h 141, .inl (cs 0, 40, .inl (qA_29 141))), (h 142, .inl (cs 0, 40, .inl (qA_29 142))), (h 143, .inl (cs 0, 40, .inl (qA_29 143))), (h 103, .inr (7, [.ref (h 150), .int (fI 151)])), (h 150, .inl (cs 2, 90, .inl (qA_29 150))), (h 104, .inr (4, [.ref (h 103), .ref (h 160), .int (fI 166), .int (fI 167), .int (fI 168), .int (fI 169)])), (h 160, .inl (cs 3, 5, .inr (.inr (.inr (.inr (fun i => if i < 5 then some (h (i + 161)) else none)))))), (h 161, .inl (cs 0, 4, .inl ((fG 1) 0))), (h 162, .inl (cs 0, 4, .inl ((fG 1) 1))), (h 163, .inl (cs 0, 4, .inl ((fG 1) 2))), (h 164, .inl (cs 0, 4, .inl ((fG 1) 3))), (h 165, .inl (cs 0, 4, .inl ((fG 1) 4))), (h 105, .inr (8, [.ref (h 101), .ref (h 170), .ref (h 171), .ref (h 172), .int (fI 173), .int (fI 174)])), (h 170, .inl (cs 0, 256, .inl (qA_29 170))), (h 171, .inl (cs 0, 256, .inl (qA_29 171))), (h 172, .inl (cs 0, 256, .inl (qA_29 172))), (h 106, .inr (2, [.ref (h 180), .ref (h 185), .ref (h 186), .ref (h 187), .long (fL 188)])), (h 180, .inl (cs 4, 4, .inr (.inr (.inr (.inr (fun i => if i < 4 then some (h (i + 181)) else none)))))), (h 181, .inl (cs 1, 4, .inr (.inl ((fJ 0) 0)))), (h 182, .inl (cs 1, 4, .inr (.inl ((fJ 0) 1)))), (h 183, .inl (cs 1, 4, .inr (.inl ((fJ 0) 2)))), (h 184, .inl (cs 1, 4, .inr (.inl ((fJ 0) 3)))), (h 185, .inl (cs 1, 4, .inr (.inl (fQ 185)))), (h 186, .inl (cs 0, 4, .inl (qA_29 186))), (h 187, .inl (cs 1, 4, .inr (.inl (fQ 187)))), (h 107, .inr (6, [.ref (h 101), .ref (h 190), .ref (h 191), .ref (h 192)])), (h 190, .inl (cs 0, 5, .inl (qA_29 190))), (h 191, .inl (cs 0, 4, .inl (qA_29 191))), (h 192, .inl (cs 0, 4, .inl (qA_29 192))), (h 108, .inr (1, [.ref (h 101), .ref (h 200), .ref (h 206), .ref (h 211), .int (fI 212), .int (fI 213)])), (h 200, .inl (cs 3, 5, .inr (.inr (.inr (.inr (fun i => if i < 5 then some (h (i + 201)) else none)))))), (h 201, .inl (cs 0, 4, .inl ((fG 2) 0))), (h 202, .inl (cs 0, 4, .inl ((fG 2) 1))), (h 203, .inl (cs 0, 4, .inl ((fG 2) 2))), (h 204, .inl (cs 0, 4, .inl ((fG 2) 3))), (h 205, .inl (cs 0, 4, .inl ((fG 2) 4))), (h 206, .inl (cs 3, 4, .inr (.inr (.inr (.inr (fun i => if i < 4 then some (h (i + 207)) else none)))))), (h 207, .inl (cs 0, 4, .inl ((fG 3) 0))), (h 208, .inl (cs 0, 4, .inl ((fG 3) 1))), (h 209, .inl (cs 0, 4, .inl ((fG 3) 2))), (h 210, .inl (cs 0, 4, .inl ((fG 3) 3))), (h 211, .inl (cs 0, 5, .inl (qA_29 211))), (h 109, .inl (cs 5, 4, .inr (.inr (.inr (.inr (fun i => if i < 4 then some (h (i + 110)) else none)))))), (h 110, .inr (5, [.int (fI 220), .int (fI 224), .ref (h 228)])), (h 228, .inl (cs 1, 25, .inr (.inl (fQ 228)))), (h 111, .inr (5, [.int (fI 221), .int (fI 225), .ref (h 229)])), (h 229, .inl (cs 1, 25, .inr (.inl (fQ 229)))), (h 112, .inr (5, [.int (fI 222), .int (fI 226), .ref (h 230)])), (h 230, .inl (cs 1, 25, .inr (.inl (fQ 230)))), (h 113, .inr (5, [.int (fI 223), .int (fI 227), .ref (h 231)])), (h 231, .inl (cs 1, 25, .inr (.inl (fQ 231))))]) hP hD hS hA [1, 2, 3, 4, 5, 6, 7, 8] [0, 9, 10, 11, 12, 13, 14, 15, 16, 17, 18, 19, 20, 21, 22, 23, 24, 25, 26, 27, 28, 29, 30, 31, 32, 33, 34, 35, 36, 37, 38, 39, 40, 41, 42, 43, 44, 45, 46, 47, 48, 49, 50, 51, 52, 53, 54, 55, 56, 57, 58, 59, 60, 61] rfl rfl (by decide) (by decide) (va_runV (As := [.int (nI 0), .int (nI 0)]) (rest := []) ⟨hx, hb, hml, hown, hts⟩ (a_X3_follow_33 l dC dI h cs H.size fI fL qA_29 fQ fG fJ ) (cwV 2 hts gX9_taken_X3_follow rfl rfl rfl (by decide +kernel) ⟨Nat.le_of_ble_eq_true rfl, Nat.le_of_ble_eq_true rfl⟩) (xpV (wc := (wD_32 h cs fI fL qA_29 fQ fG fJ)) hP hD hK hN [1, 2, 3, 4, 5, 6, 7, 8] rfl (by decide) 1 (ci := 3) rfl rfl _) rfl rfl hl.1 rfl (lv_room (Nat.le_of_ble_eq_true rfl)) dX9_taken_36 ⟨Nat.zero_le _, Nat.zero_le _⟩) (fun r_5 u_4 H locs hw hP hD hS => ?_)
  obtain ⟨hf_6, rfl⟩ := hw
  have hP : va_P (dC, dI) vwCl (wAll h cs fI fL qA_29 fQ fG fJ) H := xP_sub hP [0, 54, 55, 56, 57, 58, 59, 60, 61, 1, 2, 3, 4, 5, 6, 7, 8, 9, 10, 11, 12, 13, 14, 15, 16, 17, 18, 19, 20, 21, 22, 23, 24, 25, 26, 27, 28, 29, 30, 31, 32, 33, 34, 35, 36, 37, 38, 39, 40, 41, 42, 43, 44, 45, 46, 47, 48, 49, 50, 51, 52, 53] rfl
  have hD : va_D A0 (wAll h cs fI fL qA_29 fQ fG fJ) := hD.sub [0, 54, 55, 56, 57, 58, 59, 60, 61, 1, 2, 3, 4, 5, 6, 7, 8, 9, 10, 11, 12, 13, 14, 15, 16, 17, 18, 19, 20, 21, 22, 23, 24, 25, 26, 27, 28, 29, 30, 31, 32, 33, 34, 35, 36, 37, 38, 39, 40, 41, 42, 43, 44, 45, 46, 47, 48, 49, 50, 51, 52, 53] (by decide) rfl
  obtain rfl := hf_6
  refine lv_istore_n (lv' := [(1, .int (nI 0)), (2, .int (nI 0)), (0, .ref (h 100))]) hx hb dX9_taken_39 rfl hl (by decide) rfl (fun ls hl => ?_)
  refine lv_iinc (v := nI 1) (lv' := [(2, .int (nI 1)), (1, .int (nI 0)), (0, .ref (h 100))]) hx hb dX9_taken_40 hl (k := 1) rfl (by decide +kernel) (by decide) rfl (fun ls hl => ?_)
  refine lv_goto (tgt := 11) hx hb dX9_taken_43 (by decide) ?_
  refine lv_iload_n hx hb dX9_taken_11 rfl (lv_at hl 0 rfl) ?_
  refine lv_aload_n hx hb dX9_taken_12 rfl (lv_at hl 2 rfl) ?_
  refine va_get (D := (dC, dI)) (ci := 9) (v := .ref (h 101)) (C := RX9) (T := TX9) (N := 9) hx hb hts hinX9 hown hK hP 0 rfl rfl 0 (by decide) (hts (.fieldLink RX9 12 "MixedWords" "mix" "LMixedWords$Mix;") (by decide +kernel)) (fun _ h9 => h9) rfl dX9_taken_13 ?_
  refine va_get (D := (dC, dI)) (ci := 3) (v := .int (fI 121)) (C := RX3) (T := TX3) (N := 6) hx hb hts hinX3 hown hK hP 1 rfl rfl 1 (by decide) (hts (.fieldLink RX9 106 "MixedWords$Mix" "width" "I") (by decide +kernel)) (fun _ h9 => h9) rfl dX9_taken_16 ?_
  refine xt_i (y := nI 2) (by decide +kernel) ?_
  refine lv_icmp_ge (tgt := 46) hx hb dX9_taken_19 (by decide) (fun c9 => False.elim (by revert c9; decide +kernel)) (fun _ => ?_)
  refine lv_aload_n hx hb dX9_taken_22 rfl (lv_at hl 2 rfl) ?_
  refine va_get (D := (dC, dI)) (ci := 9) (v := .ref (h 101)) (C := RX9) (T := TX9) (N := 9) hx hb hts hinX9 hown hK hP 0 rfl rfl 0 (by decide) (hts (.fieldLink RX9 12 "MixedWords" "mix" "LMixedWords$Mix;") (by decide +kernel)) (fun _ h9 => h9) rfl dX9_taken_23 ?_
  refine lv_iload_n hx hb dX9_taken_26 rfl (lv_at hl 1 rfl) ?_
  refine lv_aload_n hx hb dX9_taken_27 rfl (lv_at hl 2 rfl) ?_
  refine va_get (D := (dC, dI)) (ci := 9) (v := .ref (h 107)) (C := RX9) (T := TX9) (N := 9) hx hb hts hinX9 hown hK hP 0 rfl rfl 6 (by decide) (hts (.fieldLink RX9 58 "MixedWords" "taker" "LMixedWords$Taker;") (by decide +kernel)) (fun _ h9 => h9) rfl dX9_taken_28 ?_
  refine va_get (D := (dC, dI)) (ci := 6) (v := .ref (h 192)) (C := RX6) (T := TX6) (N := 4) hx hb hts hinX6 hown hK hP 36 rfl rfl 3 (by decide) (hts (.fieldLink RX9 227 "MixedWords$Taker" "indexes" "[I") (by decide +kernel)) (fun _ h9 => h9) rfl dX9_taken_31 ?_
  refine lv_iload_n hx hb dX9_taken_34 rfl (lv_at hl 0 rfl) ?_
  refine xa_iald hx hb hK hP 39 0 rfl rfl (by omega) (by decide) dX9_taken_35 ?_
  refine xt_i (y := nI 0) (by decide +kernel) ?_
  refine xj_i (wc := (wD_32 h cs fI fL qA_29 fQ fG fJ)) (wr := [(h 100, .inr (9, [.ref (h 101), .ref (h 102), .ref (h 103), .ref (h 104), .ref (h 105), .ref (h 106), .ref (h 107), .ref (h 108), .ref (h 109)])), (h 102, .inr (0, [.ref (h 101), .ref (h 140), .ref (h 141), .ref (h 142), .ref (h 143), .int (fI 144), .int (fI 145), .int (fI 146)])), (h 140, .inl (cs 0, 40, .inl (qA_29 140))), (h 141, .inl (cs 0, 40, .inl (qA_29 141))), (h 142, .inl (cs 0, 40, .inl (qA_29 142))), (h 143, .inl (cs 0, 40, .inl (qA_29 143))), (h 103, .inr (7, [.ref (h 150), .int (fI 151)])), (h 150, .inl (cs 2, 90, .inl (qA_29 150))), (h 104, .inr (4, [.ref (h 103), .ref (h 160), .int (fI 166), .int (fI 167), .int (fI 168), .int (fI 169)])), (h 160, .inl (cs 3, 5, .inr (.inr (.inr (.inr (fun i => if i < 5 then some (h (i + 161)) else none)))))), (h 161, .inl (cs 0, 4, .inl ((fG 1) 0))), (h 162, .inl (cs 0, 4, .inl ((fG 1) 1))), (h 163, .inl (cs 0, 4, .inl ((fG 1) 2))), (h 164, .inl (cs 0, 4, .inl ((fG 1) 3))), (h 165, .inl (cs 0, 4, .inl ((fG 1) 4))), (h 105, .inr (8, [.ref (h 101), .ref (h 170), .ref (h 171), .ref (h 172), .int (fI 173), .int (fI 174)])), (h 170, .inl (cs 0, 256, .inl (qA_29 170))), (h 171, .inl (cs 0, 256, .inl (qA_29 171))), (h 172, .inl (cs 0, 256, .inl (qA_29 172))), (h 106, .inr (2, [.ref (h 180), .ref (h 185), .ref (h 186), .ref (h 187), .long (fL 188)])), (h 180, .inl (cs 4, 4, .inr (.inr (.inr (.inr (fun i => if i < 4 then some (h (i + 181)) else none)))))), (h 181, .inl (cs 1, 4, .inr (.inl ((fJ 0) 0)))), (h 182, .inl (cs 1, 4, .inr (.inl ((fJ 0) 1)))), (h 183, .inl (cs 1, 4, .inr (.inl ((fJ 0) 2)))), (h 184, .inl (cs 1, 4, .inr (.inl ((fJ 0) 3)))), (h 185, .inl (cs 1, 4, .inr (.inl (fQ 185)))), (h 186, .inl (cs 0, 4, .inl (qA_29 186))), (h 187, .inl (cs 1, 4, .inr (.inl (fQ 187)))), (h 107, .inr (6, [.ref (h 101), .ref (h 190), .ref (h 191), .ref (h 192)])), (h 190, .inl (cs 0, 5, .inl (qA_29 190))), (h 191, .inl (cs 0, 4, .inl (qA_29 191))), (h 192, .inl (cs 0, 4, .inl (qA_29 192))), (h 108, .inr (1, [.ref (h 101), .ref (h 200), .ref (h 206), .ref (h 211), .int (fI 212), .int (fI 213)])), (h 200, .inl (cs 3, 5, .inr (.inr (.inr (.inr (fun i => if i < 5 then some (h (i + 201)) else none)))))), (h 201, .inl (cs 0, 4, .inl ((fG 2) 0))), (h 202, .inl (cs 0, 4, .inl ((fG 2) 1))), (h 203, .inl (cs 0, 4, .inl ((fG 2) 2))), (h 204, .inl (cs 0, 4, .inl ((fG 2) 3))), (h 205, .inl (cs 0, 4, .inl ((fG 2) 4))), (h 206, .inl (cs 3, 4, .inr (.inr (.inr (.inr (fun i => if i < 4 then some (h (i + 207)) else none)))))), (h 207, .inl (cs 0, 4, .inl ((fG 3) 0))), (h 208, .inl (cs 0, 4, .inl ((fG 3) 1))), (h 209, .inl (cs 0, 4, .inl ((fG 3) 2))), (h 210, .inl (cs 0, 4, .inl ((fG 3) 3))), (h 211, .inl (cs 0, 5, .inl (qA_29 211))), (h 109, .inl (cs 5, 4, .inr (.inr (.inr (.inr (fun i => if i < 4 then some (h (i + 110)) else none)))))), (h 110, .inr (5, [.int (fI 220), .int (fI 224), .ref (h 228)])), (h 228, .inl (cs 1, 25, .inr (.inl (fQ 228)))), (h 111, .inr (5, [.int (fI 221), .int (fI 225), .ref (h 229)])), (h 229, .inl (cs 1, 25, .inr (.inl (fQ 229)))), (h 112, .inr (5, [.int (fI 222), .int (fI 226), .ref (h 230)])), (h 230, .inl (cs 1, 25, .inr (.inl (fQ 230)))), (h 113, .inr (5, [.int (fI 223), .int (fI 227), .ref (h 231)])), (h 231, .inl (cs 1, 25, .inr (.inl (fQ 231))))]) hP hD hS hA [1, 2, 3, 4, 5, 6, 7, 8] [0, 9, 10, 11, 12, 13, 14, 15, 16, 17, 18, 19, 20, 21, 22, 23, 24, 25, 26, 27, 28, 29, 30, 31, 32, 33, 34, 35, 36, 37, 38, 39, 40, 41, 42, 43, 44, 45, 46, 47, 48, 49, 50, 51, 52, 53, 54, 55, 56, 57, 58, 59, 60, 61] rfl rfl (by decide) (by decide) (va_runV (As := [.int (nI 0), .int (nI 0)]) (rest := []) ⟨hx, hb, hml, hown, hts⟩ (a_X3_follow_33 l dC dI h cs H.size fI fL qA_29 fQ fG fJ ) (cwV 2 hts gX9_taken_X3_follow rfl rfl rfl (by decide +kernel) ⟨Nat.le_of_ble_eq_true rfl, Nat.le_of_ble_eq_true rfl⟩) (xpV (wc := (wD_32 h cs fI fL qA_29 fQ fG fJ)) hP hD hK hN [1, 2, 3, 4, 5, 6, 7, 8] rfl (by decide) 1 (ci := 3) rfl rfl _) rfl rfl hl.1 rfl (lv_room (Nat.le_of_ble_eq_true rfl)) dX9_taken_36 ⟨Nat.zero_le _, Nat.zero_le _⟩) (fun r_8 u_7 H locs hw hP hD hS => ?_)
  obtain ⟨hf_9, rfl⟩ := hw
  have hP : va_P (dC, dI) vwCl (wAll h cs fI fL qA_29 fQ fG fJ) H := xP_sub hP [0, 54, 55, 56, 57, 58, 59, 60, 61, 1, 2, 3, 4, 5, 6, 7, 8, 9, 10, 11, 12, 13, 14, 15, 16, 17, 18, 19, 20, 21, 22, 23, 24, 25, 26, 27, 28, 29, 30, 31, 32, 33, 34, 35, 36, 37, 38, 39, 40, 41, 42, 43, 44, 45, 46, 47, 48, 49, 50, 51, 52, 53] rfl
  have hD : va_D A0 (wAll h cs fI fL qA_29 fQ fG fJ) := hD.sub [0, 54, 55, 56, 57, 58, 59, 60, 61, 1, 2, 3, 4, 5, 6, 7, 8, 9, 10, 11, 12, 13, 14, 15, 16, 17, 18, 19, 20, 21, 22, 23, 24, 25, 26, 27, 28, 29, 30, 31, 32, 33, 34, 35, 36, 37, 38, 39, 40, 41, 42, 43, 44, 45, 46, 47, 48, 49, 50, 51, 52, 53] (by decide) rfl
  obtain rfl := hf_9
  refine lv_istore_n (lv' := [(1, .int (nI 0)), (2, .int (nI 1)), (0, .ref (h 100))]) hx hb dX9_taken_39 rfl hl (by decide) rfl (fun ls hl => ?_)
  refine lv_iinc (v := nI 2) (lv' := [(2, .int (nI 2)), (1, .int (nI 0)), (0, .ref (h 100))]) hx hb dX9_taken_40 hl (k := 1) rfl (by decide +kernel) (by decide) rfl (fun ls hl => ?_)
  refine lv_goto (tgt := 11) hx hb dX9_taken_43 (by decide) ?_
  refine lv_iload_n hx hb dX9_taken_11 rfl (lv_at hl 0 rfl) ?_
  refine lv_aload_n hx hb dX9_taken_12 rfl (lv_at hl 2 rfl) ?_
  refine va_get (D := (dC, dI)) (ci := 9) (v := .ref (h 101)) (C := RX9) (T := TX9) (N := 9) hx hb hts hinX9 hown hK hP 0 rfl rfl 0 (by decide) (hts (.fieldLink RX9 12 "MixedWords" "mix" "LMixedWords$Mix;") (by decide +kernel)) (fun _ h9 => h9) rfl dX9_taken_13 ?_
  refine va_get (D := (dC, dI)) (ci := 3) (v := .int (fI 121)) (C := RX3) (T := TX3) (N := 6) hx hb hts hinX3 hown hK hP 1 rfl rfl 1 (by decide) (hts (.fieldLink RX9 106 "MixedWords$Mix" "width" "I") (by decide +kernel)) (fun _ h9 => h9) rfl dX9_taken_16 ?_
  refine xt_i (y := nI 2) (by decide +kernel) ?_
  refine lv_icmp_ge (tgt := 46) hx hb dX9_taken_19 (by decide) (fun _ => ?_) (fun c9 => False.elim (by revert c9; decide +kernel))
  refine lv_iload_n hx hb dX9_taken_46 rfl (lv_at hl 1 rfl) ?_
  exact xr_i (v := (nI 0)) hx hb hr hlocks hK hS dX9_taken_47 (fI, fL, qA_29, fQ, fG, fJ) ⟨rfl, rfl⟩ hP hD
