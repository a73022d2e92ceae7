set_option maxHeartbeats 4000000 in
set_option maxRecDepth 100000 in
theorem a_X10_nextTaken_223 (l : Launch) (dC : Nat → ClassId) (dI : Nat → Nat → Nat) (h : Nat → Nat) (cs : Nat → ClassId) (sz : Nat) (I : Nat → Int32) (L : Nat → Int64) (A : Nat → Nat → Int32) (Q : Nat → Nat → Int64) : Met l yX10_nextTaken wsX10_nextTaken ({ frames := 1, cells := 0, slots := 0, locals := 24 }) (va_Pc [.ref (h 0), .int (nI 0)] (xPre (dC, dI) (wD_177 h cs gI gL qA_210 gQ) (tysA cs) sz)) (va_Qi (fun (r : Int32) (u : RS) => (r = nI 0) ∧ u = (gI, gL, qA_210, gQ)) (xB (dC, dI) (tysA cs) (va_A (wD_177 h cs gI gL qA_210 gQ) sz) (fun u : RS => wD_177 h cs u.1 u.2.1 u.2.2.1 u.2.2.2)) (va_A (wD_177 h cs gI gL qA_210 gQ) sz)) 0 0 (va_A (wD_177 h cs gI gL qA_210 gQ) sz) := by
  refine Met.ofW (cc := cX10_nextTaken) (maxL := 5) (ret := (some .int)) (by decide) rfl ?_
  intro p e s m args below meth c s₁ B hml hv
  obtain ⟨rfl, hsz, hP, hK, hD0, hN⟩ := hv
  have hx := B.exec
  have hb := B.bytes
  have hr := B.returns
  have hts := atoms_spec (ws := wsX10_nextTaken) B.pre
  have hown : s.vm.findClass RX10 = some m.cls := findClass_of_methodNamed B.named
  have hlocks := B.notSynchronized
  subst hsz
  have hD := hD0.self (sz := s.heap.size)
  generalize hAe : va_A (wD_177 h cs gI gL qA_210 gQ) s.heap.size = A0 at hD ⊢
  have hA : ∀ q : Nat, s.heap.size ≤ q → A0 q := fun q h => by rw [← hAe]; exact Or.inr h
  have hl := lv_entry ([.ref (h 0), .int (nI 0)]) (n := 5) (Nat.le_of_ble_eq_true rfl)
  rw [lg_entry_eq]
  generalize (lg_sl ([.ref (h 0), .int (nI 0)]) ++ List.replicate (5 - (lg_sl ([.ref (h 0), .int (nI 0)])).length) Slot.unset).toArray = ls at hl ⊢
  have hl : lv_has ls 5 [(0, .ref (h 0)), (1, .int (nI 0))] := hl
  generalize hH : s.heap = H at hP ⊢
  have hS : va_S A0 s.heap H [] := by rw [← hH]; exact va_S.rf
  have hinX10 : ∀ w ∈ wsX100, w ∈ wsX10_nextTaken := by decide +kernel
  refine lv_iconst (v := (-1)) hx hb dX10_nextTaken_0 (by decide) ?_
  refine lv_istore_n (lv' := [(2, .int (-1)), (0, .ref (h 0)), (1, .int (nI 0))]) hx hb dX10_nextTaken_1 rfl hl (by decide) rfl (fun ls hl => ?_)
  refine lv_iconst (v := nI 0) hx hb dX10_nextTaken_2 (by decide) ?_
  refine lv_istore_n (lv' := [(3, .int (nI 0)), (2, .int (-1)), (0, .ref (h 0)), (1, .int (nI 0))]) hx hb dX10_nextTaken_3 rfl hl (by decide) rfl (fun ls hl => ?_)
  refine lv_iload_n hx hb dX10_nextTaken_4 rfl (lv_at hl 0 rfl) ?_
  refine lv_aload_n hx hb dX10_nextTaken_5 rfl (lv_at hl 2 rfl) ?_
  refine va_get (D := (dC, dI)) (ci := 10) (v := .int (gI 1)) (C := RX10) (T := TX10) (N := 28) hx hb hts hinX10 hown hK hP 0 rfl rfl 1 (by decide) (hts (.fieldLink RX10 13 "MixedWordsModel" "columns" "I") (by decide +kernel)) (fun _ h9 => h9) rfl dX10_nextTaken_6 ?_
  refine xt_i (y := nI 2) (by decide +kernel) ?_
  refine lv_icmp_ge (tgt := 63) hx hb dX10_nextTaken_9 (by decide) (fun c9 => False.elim (by revert c9; decide +kernel)) (fun _ => ?_)
  refine lv_iload_n hx hb dX10_nextTaken_12 rfl (lv_at hl 3 rfl) ?_
  refine lv_iload_n hx hb dX10_nextTaken_13 rfl (lv_at hl 0 rfl) ?_
  refine lv_ishr hx hb dX10_nextTaken_14 ?_
  refine xt_i (y := nI 0) (by decide +kernel) ?_
  refine lv_iconst (v := nI 1) hx hb dX10_nextTaken_15 (by decide) ?_
  refine lv_iand hx hb dX10_nextTaken_16 ?_
  refine xt_i (y := nI 0) (by decide +kernel) ?_
  refine lv_if_ne (tgt := 24) hx hb dX10_nextTaken_17 (by decide) (fun c9 => False.elim (by revert c9; decide +kernel)) (fun _ => ?_)
  refine lv_iconst (v := nI 1) hx hb dX10_nextTaken_20 (by decide) ?_
  refine lv_goto (tgt := 25) hx hb dX10_nextTaken_21 (by decide) ?_
  refine lv_istore (lv' := [(4, .int (nI 1)), (3, .int (nI 0)), (2, .int (-1)), (0, .ref (h 0)), (1, .int (nI 0))]) hx hb dX10_nextTaken_25 hl (by decide) rfl (fun ls hl => ?_)
  refine lv_iload hx hb dX10_nextTaken_27 (lv_at hl 0 rfl) ?_
  refine lv_if_eq (tgt := 55) hx hb dX10_nextTaken_29 (by decide) (fun c9 => False.elim (by revert c9; decide +kernel)) (fun _ => ?_)
  refine lv_iload_n hx hb dX10_nextTaken_32 rfl (lv_at hl 2 rfl) ?_
  refine lv_if_lt (tgt := 51) hx hb dX10_nextTaken_33 (by decide) (fun _ => ?_) (fun c9 => False.elim (by revert c9; decide +kernel))
  refine lv_iload_n hx hb dX10_nextTaken_51 rfl (lv_at hl 1 rfl) ?_
  refine lv_goto (tgt := 56) hx hb dX10_nextTaken_52 (by decide) ?_
  refine lv_istore_n (lv' := [(2, .int (nI 0)), (4, .int (nI 1)), (3, .int (nI 0)), (0, .ref (h 0)), (1, .int (nI 0))]) hx hb dX10_nextTaken_56 rfl hl (by decide) rfl (fun ls hl => ?_)
  refine lv_iinc (v := nI 1) (lv' := [(3, .int (nI 1)), (2, .int (nI 0)), (4, .int (nI 1)), (0, .ref (h 0)), (1, .int (nI 0))]) hx hb dX10_nextTaken_57 hl (k := 2) rfl (by decide +kernel) (by decide) rfl (fun ls hl => ?_)
  refine lv_goto (tgt := 4) hx hb dX10_nextTaken_60 (by decide) ?_
  refine lv_iload_n hx hb dX10_nextTaken_4 rfl (lv_at hl 0 rfl) ?_
  refine lv_aload_n hx hb dX10_nextTaken_5 rfl (lv_at hl 3 rfl) ?_
  refine va_get (D := (dC, dI)) (ci := 10) (v := .int (gI 1)) (C := RX10) (T := TX10) (N := 28) hx hb hts hinX10 hown hK hP 0 rfl rfl 1 (by decide) (hts (.fieldLink RX10 13 "MixedWordsModel" "columns" "I") (by decide +kernel)) (fun _ h9 => h9) rfl dX10_nextTaken_6 ?_
  refine xt_i (y := nI 2) (by decide +kernel) ?_
  refine lv_icmp_ge (tgt := 63) hx hb dX10_nextTaken_9 (by decide) (fun c9 => False.elim (by revert c9; decide +kernel)) (fun _ => ?_)
  refine lv_iload_n hx hb dX10_nextTaken_12 rfl (lv_at hl 4 rfl) ?_
  refine lv_iload_n hx hb dX10_nextTaken_13 rfl (lv_at hl 0 rfl) ?_
  refine lv_ishr hx hb dX10_nextTaken_14 ?_
  refine xt_i (y := nI 0) (by decide +kernel) ?_
  refine lv_iconst (v := nI 1) hx hb dX10_nextTaken_15 (by decide) ?_
  refine lv_iand hx hb dX10_nextTaken_16 ?_
  refine xt_i (y := nI 0) (by decide +kernel) ?_
  refine lv_if_ne (tgt := 24) hx hb dX10_nextTaken_17 (by decide) (fun c9 => False.elim (by revert c9; decide +kernel)) (fun _ => ?_)
  refine lv_iconst (v := nI 1) hx hb dX10_nextTaken_20 (by decide) ?_
  refine lv_goto (tgt := 25) hx hb dX10_nextTaken_21 (by decide) ?_
  refine lv_istore (lv' := [(4, .int (nI 1)), (3, .int (nI 1)), (2, .int (nI 0)), (0, .ref (h 0)), (1, .int (nI 0))]) hx hb dX10_nextTaken_25 hl (by decide) rfl (fun ls hl => ?_)
  refine lv_iload hx hb dX10_nextTaken_27 (lv_at hl 0 rfl) ?_
  refine lv_if_eq (tgt := 55) hx hb dX10_nextTaken_29 (by decide) (fun c9 => False.elim (by revert c9; decide +kernel)) (fun _ => ?_)
  refine lv_iload_n hx hb dX10_nextTaken_32 rfl (lv_at hl 2 rfl) ?_
  refine lv_if_lt (tgt := 51) hx hb dX10_nextTaken_33 (by decide) (fun c9 => False.elim (by revert c9; decide +kernel)) (fun _ => ?_)
  refine lv_aload_n hx hb dX10_nextTaken_36 rfl (lv_at hl 3 rfl) ?_
  refine lv_iload_n hx hb dX10_nextTaken_37 rfl (lv_at hl 1 rfl) ?_
  refine lv_iload_n hx hb dX10_nextTaken_38 rfl (lv_at hl 1 rfl) ?_
  refine xj_i (wc := (wD_177 h cs gI gL qA_210 gQ)) (wr := ([] : va_W)) hP hD hS hA [0, 1, 2, 3, 4, 5, 6, 7, 8, 9, 10, 11, 12, 13, 14, 15, 16] [] rfl rfl (by decide) (by decide) (va_runV (As := [.int (nI 1), .int (nI 1)]) (rest := []) ⟨hx, hb, hml, hown, hts⟩ (a_X10_dot_216 l dC dI h cs H.size gI gL qA_210 gQ ) (cwV 2 hts gX10_nextTaken_X10_dot rfl rfl rfl (by decide +kernel) ⟨Nat.le_of_ble_eq_true rfl, Nat.le_of_ble_eq_true rfl⟩) (xpV (wc := (wD_177 h cs gI gL qA_210 gQ)) hP hD hK hN [0, 1, 2, 3, 4, 5, 6, 7, 8, 9, 10, 11, 12, 13, 14, 15, 16] rfl (by decide) 0 (ci := 10) rfl rfl _) rfl rfl hl.1 rfl (lv_room (Nat.le_of_ble_eq_true rfl)) dX10_nextTaken_39 ⟨Nat.zero_le _, Nat.zero_le _⟩) (fun r_2 u_1 H locs hw hP hD hS => ?_)
  obtain ⟨hf_3, rfl⟩ := hw
  have hP : va_P (dC, dI) vwCl (wD_177 h cs gI gL qA_210 gQ) H := hP
  have hD : va_D A0 (wD_177 h cs gI gL qA_210 gQ) := hD
  obtain rfl := hf_3
  refine lv_aload_n hx hb dX10_nextTaken_42 rfl (lv_at hl 3 rfl) ?_
  refine lv_iload_n hx hb dX10_nextTaken_43 rfl (lv_at hl 2 rfl) ?_
  refine lv_iload_n hx hb dX10_nextTaken_44 rfl (lv_at hl 2 rfl) ?_
  refine xj_i (wc := (wD_177 h cs gI gL qA_210 gQ)) (wr := ([] : va_W)) hP hD hS hA [0, 1, 2, 3, 4, 5, 6, 7, 8, 9, 10, 11, 12, 13, 14, 15, 16] [] rfl rfl (by decide) (by decide) (va_runV (As := [.int (nI 0), .int (nI 0)]) (rest := [.int (nI 0)]) ⟨hx, hb, hml, hown, hts⟩ (a_X10_dot_212 l dC dI h cs H.size gI gL qA_210 gQ ) (cwV 2 hts gX10_nextTaken_X10_dot rfl rfl rfl (by decide +kernel) ⟨Nat.le_of_ble_eq_true rfl, Nat.le_of_ble_eq_true rfl⟩) (xpV (wc := (wD_177 h cs gI gL qA_210 gQ)) hP hD hK hN [0, 1, 2, 3, 4, 5, 6, 7, 8, 9, 10, 11, 12, 13, 14, 15, 16] rfl (by decide) 0 (ci := 10) rfl rfl _) rfl rfl hl.1 rfl (lv_room (Nat.le_of_ble_eq_true rfl)) dX10_nextTaken_45 ⟨Nat.zero_le _, Nat.zero_le _⟩) (fun r_5 u_4 H locs hw hP hD hS => ?_)
  obtain ⟨hf_6, rfl⟩ := hw
  have hP : va_P (dC, dI) vwCl (wD_177 h cs gI gL qA_210 gQ) H := hP
  have hD : va_D A0 (wD_177 h cs gI gL qA_210 gQ) := hD
  obtain rfl := hf_6
  refine lv_icmp_le (tgt := 55) hx hb dX10_nextTaken_48 (by decide) (fun _ => ?_) (fun c9 => False.elim (by revert c9; decide +kernel))
  refine lv_iload_n hx hb dX10_nextTaken_55 rfl (lv_at hl 2 rfl) ?_
  refine lv_istore_n (lv' := [(2, .int (nI 0)), (4, .int (nI 1)), (3, .int (nI 1)), (0, .ref (h 0)), (1, .int (nI 0))]) hx hb dX10_nextTaken_56 rfl hl (by decide) rfl (fun ls hl => ?_)
  refine lv_iinc (v := nI 2) (lv' := [(3, .int (nI 2)), (2, .int (nI 0)), (4, .int (nI 1)), (0, .ref (h 0)), (1, .int (nI 0))]) hx hb dX10_nextTaken_57 hl (k := 2) rfl (by decide +kernel) (by decide) rfl (fun ls hl => ?_)
  refine lv_goto (tgt := 4) hx hb dX10_nextTaken_60 (by decide) ?_
  refine lv_iload_n hx hb dX10_nextTaken_4 rfl (lv_at hl 0 rfl) ?_
  refine lv_aload_n hx hb dX10_nextTaken_5 rfl (lv_at hl 3 rfl) ?_
  refine va_get (D := (dC, dI)) (ci := 10) (v := .int (gI 1)) (C := RX10) (T := TX10) (N := 28) hx hb hts hinX10 hown hK hP 0 rfl rfl 1 (by decide) (hts (.fieldLink RX10 13 "MixedWordsModel" "columns" "I") (by decide +kernel)) (fun _ h9 => h9) rfl dX10_nextTaken_6 ?_
  refine xt_i (y := nI 2) (by decide +kernel) ?_
  refine lv_icmp_ge (tgt := 63) hx hb dX10_nextTaken_9 (by decide) (fun _ => ?_) (fun c9 => False.elim (by revert c9; decide +kernel))
  refine lv_iload_n hx hb dX10_nextTaken_63 rfl (lv_at hl 1 rfl) ?_
  exact xr_i (v := (nI 0)) hx hb hr hlocks hK hS dX10_nextTaken_64 (gI, gL, qA_210, gQ) ⟨rfl, rfl⟩ hP hD
set_option maxHeartbeats 4000000 in
set_option maxRecDepth 100000 in
theorem a_X10_nextTaken_224 (l : Launch) (dC : Nat → ClassId) (dI : Nat → Nat → Nat) (h : Nat → Nat) (cs : Nat → ClassId) (sz : Nat) (I : Nat → Int32) (L : Nat → Int64) (A : Nat → Nat → Int32) (Q : Nat → Nat → Int64) : Met l yX10_nextTaken wsX10_nextTaken ({ frames := 1, cells := 0, slots := 0, locals := 24 }) (va_Pc [.ref (h 0), .int (nI 1)] (xPre (dC, dI) (wD_177 h cs gI gL qA_210 gQ) (tysA cs) sz)) (va_Qi (fun (r : Int32) (u : RS) => (r = nI 1) ∧ u = (gI, gL, qA_210, gQ)) (xB (dC, dI) (tysA cs) (va_A (wD_177 h cs gI gL qA_210 gQ) sz) (fun u : RS => wD_177 h cs u.1 u.2.1 u.2.2.1 u.2.2.2)) (va_A (wD_177 h cs gI gL qA_210 gQ) sz)) 0 0 (va_A (wD_177 h cs gI gL qA_210 gQ) sz) := by
  refine Met.ofW (cc := cX10_nextTaken) (maxL := 5) (ret := (some .int)) (by decide) rfl ?_
  intro p e s m args below meth c s₁ B hml hv
  obtain ⟨rfl, hsz, hP, hK, hD0, hN⟩ := hv
  have hx := B.exec
  have hb := B.bytes
  have hr := B.returns
  have hts := atoms_spec (ws := wsX10_nextTaken) B.pre
  have hown : s.vm.findClass RX10 = some m.cls := findClass_of_methodNamed B.named
  have hlocks := B.notSynchronized
  subst hsz
  have hD := hD0.self (sz := s.heap.size)
  generalize hAe : va_A (wD_177 h cs gI gL qA_210 gQ) s.heap.size = A0 at hD ⊢
  have hA : ∀ q : Nat, s.heap.size ≤ q → A0 q := fun q h => by rw [← hAe]; exact Or.inr h
  have hl := lv_entry ([.ref (h 0), .int (nI 1)]) (n := 5) (Nat.le_of_ble_eq_true rfl)
  rw [lg_entry_eq]
  generalize (lg_sl ([.ref (h 0), .int (nI 1)]) ++ List.replicate (5 - (lg_sl ([.ref (h 0), .int (nI 1)])).length) Slot.unset).toArray = ls at hl ⊢
  have hl : lv_has ls 5 [(0, .ref (h 0)), (1, .int (nI 1))] := hl
  generalize hH : s.heap = H at hP ⊢
  have hS : va_S A0 s.heap H [] := by rw [← hH]; exact va_S.rf
  have hinX10 : ∀ w ∈ wsX100, w ∈ wsX10_nextTaken := by decide +kernel
  refine lv_iconst (v := (-1)) hx hb dX10_nextTaken_0 (by decide) ?_
  refine lv_istore_n (lv' := [(2, .int (-1)), (0, .ref (h 0)), (1, .int (nI 1))]) hx hb dX10_nextTaken_1 rfl hl (by decide) rfl (fun ls hl => ?_)
  refine lv_iconst (v := nI 0) hx hb dX10_nextTaken_2 (by decide) ?_
  refine lv_istore_n (lv' := [(3, .int (nI 0)), (2, .int (-1)), (0, .ref (h 0)), (1, .int (nI 1))]) hx hb dX10_nextTaken_3 rfl hl (by decide) rfl (fun ls hl => ?_)
  refine lv_iload_n hx hb dX10_nextTaken_4 rfl (lv_at hl 0 rfl) ?_
  refine lv_aload_n hx hb dX10_nextTaken_5 rfl (lv_at hl 2 rfl) ?_
  refine va_get (D := (dC, dI)) (ci := 10) (v := .int (gI 1)) (C := RX10) (T := TX10) (N := 28) hx hb hts hinX10 hown hK hP 0 rfl rfl 1 (by decide) (hts (.fieldLink RX10 13 "MixedWordsModel" "columns" "I") (by decide +kernel)) (fun _ h9 => h9) rfl dX10_nextTaken_6 ?_
  refine xt_i (y := nI 2) (by decide +kernel) ?_
  refine lv_icmp_ge (tgt := 63) hx hb dX10_nextTaken_9 (by decide) (fun c9 => False.elim (by revert c9; decide +kernel)) (fun _ => ?_)
  refine lv_iload_n hx hb dX10_nextTaken_12 rfl (lv_at hl 3 rfl) ?_
  refine lv_iload_n hx hb dX10_nextTaken_13 rfl (lv_at hl 0 rfl) ?_
  refine lv_ishr hx hb dX10_nextTaken_14 ?_
  refine xt_i (y := nI 1) (by decide +kernel) ?_
  refine lv_iconst (v := nI 1) hx hb dX10_nextTaken_15 (by decide) ?_
  refine lv_iand hx hb dX10_nextTaken_16 ?_
  refine xt_i (y := nI 1) (by decide +kernel) ?_
  refine lv_if_ne (tgt := 24) hx hb dX10_nextTaken_17 (by decide) (fun _ => ?_) (fun c9 => False.elim (by revert c9; decide +kernel))
  refine lv_iconst (v := nI 0) hx hb dX10_nextTaken_24 (by decide) ?_
  refine lv_istore (lv' := [(4, .int (nI 0)), (3, .int (nI 0)), (2, .int (-1)), (0, .ref (h 0)), (1, .int (nI 1))]) hx hb dX10_nextTaken_25 hl (by decide) rfl (fun ls hl => ?_)
  refine lv_iload hx hb dX10_nextTaken_27 (lv_at hl 0 rfl) ?_
  refine lv_if_eq (tgt := 55) hx hb dX10_nextTaken_29 (by decide) (fun _ => ?_) (fun c9 => False.elim (by revert c9; decide +kernel))
  refine lv_iload_n hx hb dX10_nextTaken_55 rfl (lv_at hl 2 rfl) ?_
  refine lv_istore_n (lv' := [(2, .int (-1)), (4, .int (nI 0)), (3, .int (nI 0)), (0, .ref (h 0)), (1, .int (nI 1))]) hx hb dX10_nextTaken_56 rfl hl (by decide) rfl (fun ls hl => ?_)
  refine lv_iinc (v := nI 1) (lv' := [(3, .int (nI 1)), (2, .int (-1)), (4, .int (nI 0)), (0, .ref (h 0)), (1, .int (nI 1))]) hx hb dX10_nextTaken_57 hl (k := 2) rfl (by decide +kernel) (by decide) rfl (fun ls hl => ?_)
  refine lv_goto (tgt := 4) hx hb dX10_nextTaken_60 (by decide) ?_
  refine lv_iload_n hx hb dX10_nextTaken_4 rfl (lv_at hl 0 rfl) ?_
  refine lv_aload_n hx hb dX10_nextTaken_5 rfl (lv_at hl 3 rfl) ?_
  refine va_get (D := (dC, dI)) (ci := 10) (v := .int (gI 1)) (C := RX10) (T := TX10) (N := 28) hx hb hts hinX10 hown hK hP 0 rfl rfl 1 (by decide) (hts (.fieldLink RX10 13 "MixedWordsModel" "columns" "I") (by decide +kernel)) (fun _ h9 => h9) rfl dX10_nextTaken_6 ?_
  refine xt_i (y := nI 2) (by decide +kernel) ?_
  refine lv_icmp_ge (tgt := 63) hx hb dX10_nextTaken_9 (by decide) (fun c9 => False.elim (by revert c9; decide +kernel)) (fun _ => ?_)
  refine lv_iload_n hx hb dX10_nextTaken_12 rfl (lv_at hl 4 rfl) ?_
  refine lv_iload_n hx hb dX10_nextTaken_13 rfl (lv_at hl 0 rfl) ?_
  refine lv_ishr hx hb dX10_nextTaken_14 ?_
  refine xt_i (y := nI 0) (by decide +kernel) ?_
  refine lv_iconst (v := nI 1) hx hb dX10_nextTaken_15 (by decide) ?_
  refine lv_iand hx hb dX10_nextTaken_16 ?_
  refine xt_i (y := nI 0) (by decide +kernel) ?_
  refine lv_if_ne (tgt := 24) hx hb dX10_nextTaken_17 (by decide) (fun c9 => False.elim (by revert c9; decide +kernel)) (fun _ => ?_)
  refine lv_iconst (v := nI 1) hx hb dX10_nextTaken_20 (by decide) ?_
  refine lv_goto (tgt := 25) hx hb dX10_nextTaken_21 (by decide) ?_
  refine lv_istore (lv' := [(4, .int (nI 1)), (3, .int (nI 1)), (2, .int (-1)), (0, .ref (h 0)), (1, .int (nI 1))]) hx hb dX10_nextTaken_25 hl (by decide) rfl (fun ls hl => ?_)
  refine lv_iload hx hb dX10_nextTaken_27 (lv_at hl 0 rfl) ?_
  refine lv_if_eq (tgt := 55) hx hb dX10_nextTaken_29 (by decide) (fun c9 => False.elim (by revert c9; decide +kernel)) (fun _ => ?_)
  refine lv_iload_n hx hb dX10_nextTaken_32 rfl (lv_at hl 2 rfl) ?_
  refine lv_if_lt (tgt := 51) hx hb dX10_nextTaken_33 (by decide) (fun _ => ?_) (fun c9 => False.elim (by revert c9; decide +kernel))
  refine lv_iload_n hx hb dX10_nextTaken_51 rfl (lv_at hl 1 rfl) ?_
  refine lv_goto (tgt := 56) hx hb dX10_nextTaken_52 (by decide) ?_
  refine lv_istore_n (lv' := [(2, .int (nI 1)), (4, .int (nI 1)), (3, .int (nI 1)), (0, .ref (h 0)), (1, .int (nI 1))]) hx hb dX10_nextTaken_56 rfl hl (by decide) rfl (fun ls hl => ?_)
  refine lv_iinc (v := nI 2) (lv' := [(3, .int (nI 2)), (2, .int (nI 1)), (4, .int (nI 1)), (0, .ref (h 0)), (1, .int (nI 1))]) hx hb dX10_nextTaken_57 hl (k := 2) rfl (by decide +kernel) (by decide) rfl (fun ls hl => ?_)
  refine lv_goto (tgt := 4) hx hb dX10_nextTaken_60 (by decide) ?_
  refine lv_iload_n hx hb dX10_nextTaken_4 rfl (lv_at hl 0 rfl) ?_
  refine lv_aload_n hx hb dX10_nextTaken_5 rfl (lv_at hl 3 rfl) ?_
  refine va_get (D := (dC, dI)) (ci := 10) (v := .int (gI 1)) (C := RX10) (T := TX10) (N := 28) hx hb hts hinX10 hown hK hP 0 rfl rfl 1 (by decide) (hts (.fieldLink RX10 13 "MixedWordsModel" "columns" "I") (by decide +kernel)) (fun _ h9 => h9) rfl dX10_nextTaken_6 ?_
  refine xt_i (y := nI 2) (by decide +kernel) ?_
  refine lv_icmp_ge (tgt := 63) hx hb dX10_nextTaken_9 (by decide) (fun _ => ?_) (fun c9 => False.elim (by revert c9; decide +kernel))
  refine lv_iload_n hx hb dX10_nextTaken_63 rfl (lv_at hl 1 rfl) ?_
  exact xr_i (v := (nI 1)) hx hb hr hlocks hK hS dX10_nextTaken_64 (gI, gL, qA_210, gQ) ⟨rfl, rfl⟩ hP hD
set_option maxHeartbeats 4000000 in
set_option maxRecDepth 100000 in
theorem f_X10_order (l : Launch) (dC : Nat → ClassId) (dI : Nat → Nat → Nat) (h : Nat → Nat) (cs : Nat → ClassId) (sz : Nat) (I : Nat → Int32) (L : Nat → Int64) (A : Nat → Nat → Int32) (Q : Nat → Nat → Int64) (x : Int32) : Met l yX10_order wsX10_order ({ frames := 2, cells := 0, slots := 0, locals := 48 }) (va_Pc [.ref (h 0), .int x] (xPre (dC, dI) (rW h cs gI gL gA gQ) (tysA cs) sz)) (va_Qi (fun (r : Int32) (u : RS) => ∃ za9 : Nat → Nat → Int32, (r = an_order x) ∧ u = (gI, gL, za9, gQ)) (xB (dC, dI) (tysA cs) (va_A (rW h cs gI gL gA gQ) sz) (fun u : RS => rW h cs u.1 u.2.1 u.2.2.1 u.2.2.2)) (va_A (rW h cs gI gL gA gQ) sz)) 0 0 (va_A (rW h cs gI gL gA gQ) sz) := by
  refine Met.ofW (cc := cX10_order) (maxL := 5) (ret := (some .int)) (by decide) rfl ?_
  intro p e s m args below meth c s₁ B hml hv
  obtain ⟨rfl, hsz, hP, hK, hD0, hN⟩ := hv
  have hx := B.exec
  have hb := B.bytes
  have hr := B.returns
  have hts := atoms_spec (ws := wsX10_order) B.pre
  have hown : s.vm.findClass RX10 = some m.cls := findClass_of_methodNamed B.named
  have hlocks := B.notSynchronized
  subst hsz
  have hD := hD0.self (sz := s.heap.size)
  generalize hAe : va_A (rW h cs gI gL gA gQ) s.heap.size = A0 at hD ⊢
  have hA : ∀ q : Nat, s.heap.size ≤ q → A0 q := fun q h => by rw [← hAe]; exact Or.inr h
  have hl := lv_entry ([.ref (h 0), .int x]) (n := 5) (Nat.le_of_ble_eq_true rfl)
  rw [lg_entry_eq]
  generalize (lg_sl ([.ref (h 0), .int x]) ++ List.replicate (5 - (lg_sl ([.ref (h 0), .int x])).length) Slot.unset).toArray = ls at hl ⊢
  have hl : lv_has ls 5 [(0, .ref (h 0)), (1, .int x)] := hl
  generalize hH : s.heap = H at hP ⊢
  have hS : va_S A0 s.heap H [] := by rw [← hH]; exact va_S.rf
  rcases splR x 0 1 (by decide) with ⟨i_x, h_x, g_x, rfl⟩ | hz_x
  · skip
    rcases (show i_x = 0 ∨ i_x = 1 by omega) with rfl | rfl
    · skip
      refine lv_aload_n hx hb dX10_order_0 rfl (lv_at hl 0 rfl) ?_
      refine lv_iload_n hx hb dX10_order_1 rfl (lv_at hl 1 rfl) ?_
      refine xj_i (wc := (wD_177 h cs gI gL gA gQ)) (wr := ([] : va_W)) hP hD hS hA [0, 1, 2, 3, 4, 5, 6, 7, 8, 9, 10, 11, 12, 13, 14, 15, 16] [] rfl rfl (by decide) (by decide) (va_runV (As := [.int (nI 0)]) (rest := []) ⟨hx, hb, hml, hown, hts⟩ (a_X10_isColumn_200 l dC dI h cs H.size gI gL gA gQ ) (cwV 1 hts gX10_order_X10_isColumn rfl rfl rfl (by decide +kernel) ⟨Nat.le_of_ble_eq_true rfl, Nat.le_of_ble_eq_true rfl⟩) (xpV (wc := (wD_177 h cs gI gL gA gQ)) hP hD hK hN [0, 1, 2, 3, 4, 5, 6, 7, 8, 9, 10, 11, 12, 13, 14, 15, 16] rfl (by decide) 0 (ci := 10) rfl rfl _) rfl rfl hl.1 rfl (lv_room (Nat.le_of_ble_eq_true rfl)) dX10_order_2 ⟨Nat.zero_le _, Nat.zero_le _⟩) (fun r_2 u_1 H locs hw hP hD hS => ?_)
      obtain ⟨hf_3, rfl⟩ := hw
      have hP : va_P (dC, dI) vwCl (rW h cs gI gL gA gQ) H := hP
      have hD : va_D A0 (rW h cs gI gL gA gQ) := hD
      obtain rfl := hf_3
      refine lv_if_ne (tgt := 10) hx hb dX10_order_5 (by decide) (fun _ => ?_) (fun c9 => False.elim (by revert c9; decide +kernel))
      refine lv_aload_n hx hb dX10_order_10 rfl (lv_at hl 0 rfl) ?_
      refine xj_v (wc := (wD_177 h cs gI gL gA gQ)) (wr := ([] : va_W)) hP hD hS hA [0, 1, 2, 3, 4, 5, 6, 7, 8, 9, 10, 11, 12, 13, 14, 15, 16] [] rfl rfl (by decide) (by decide) (va_runV (As := []) (rest := []) ⟨hx, hb, hml, hown, hts⟩ (a_X10_lay_209 l dC dI h cs H.size gI gL gA gQ ) (cwV 0 hts gX10_order_X10_lay rfl rfl rfl (by decide +kernel) ⟨Nat.le_of_ble_eq_true rfl, Nat.le_of_ble_eq_true rfl⟩) (xpV (wc := (wD_177 h cs gI gL gA gQ)) hP hD hK hN [0, 1, 2, 3, 4, 5, 6, 7, 8, 9, 10, 11, 12, 13, 14, 15, 16] rfl (by decide) 0 (ci := 10) rfl rfl _) rfl rfl hl.1 rfl (lv_room (Nat.le_of_ble_eq_true rfl)) dX10_order_11 ⟨Nat.zero_le _, Nat.zero_le _⟩) (fun u_4 H locs hw hP hD hS => ?_)
      obtain ⟨hf_6, rfl⟩ := hw
      have hP : va_P (dC, dI) vwCl (rW h cs gI gL qA_210 gQ) H := hP
      have hD : va_D A0 (rW h cs gI gL qA_210 gQ) := hD
      refine lv_iconst (v := nI 0) hx hb dX10_order_14 (by decide) ?_
      refine lv_istore_n (lv' := [(2, .int (nI 0)), (0, .ref (h 0)), (1, .int (nI 0))]) hx hb dX10_order_15 rfl hl (by decide) rfl (fun ls hl => ?_)
      refine lv_iconst (v := (-1)) hx hb dX10_order_16 (by decide) ?_
      refine lv_istore_n (lv' := [(3, .int (-1)), (2, .int (nI 0)), (0, .ref (h 0)), (1, .int (nI 0))]) hx hb dX10_order_17 rfl hl (by decide) rfl (fun ls hl => ?_)
      refine lv_iconst (v := nI 0) hx hb dX10_order_18 (by decide) ?_
      refine lv_istore (lv' := [(4, .int (nI 0)), (3, .int (-1)), (2, .int (nI 0)), (0, .ref (h 0)), (1, .int (nI 0))]) hx hb dX10_order_19 hl (by decide) rfl (fun ls hl => ?_)
      refine lv_iload hx hb dX10_order_21 (lv_at hl 0 rfl) ?_
      refine lv_iload_n hx hb dX10_order_23 rfl (lv_at hl 4 rfl) ?_
      refine lv_icmp_gt (tgt := 45) hx hb dX10_order_24 (by decide) (fun c9 => False.elim (by revert c9; decide +kernel)) (fun _ => ?_)
      refine lv_aload_n hx hb dX10_order_27 rfl (lv_at hl 3 rfl) ?_
      refine lv_iload_n hx hb dX10_order_28 rfl (lv_at hl 2 rfl) ?_
      refine xj_i (wc := (wD_177 h cs gI gL qA_210 gQ)) (wr := ([] : va_W)) hP hD hS hA [0, 1, 2, 3, 4, 5, 6, 7, 8, 9, 10, 11, 12, 13, 14, 15, 16] [] rfl rfl (by decide) (by decide) (va_runV (As := [.int (nI 0)]) (rest := []) ⟨hx, hb, hml, hown, hts⟩ (a_X10_nextTaken_223 l dC dI h cs H.size gI gL qA_210 gQ ) (cwV 1 hts gX10_order_X10_nextTaken rfl rfl rfl (by decide +kernel) ⟨Nat.le_of_ble_eq_true rfl, Nat.le_of_ble_eq_true rfl⟩) (xpV (wc := (wD_177 h cs gI gL qA_210 gQ)) hP hD hK hN [0, 1, 2, 3, 4, 5, 6, 7, 8, 9, 10, 11, 12, 13, 14, 15, 16] rfl (by decide) 0 (ci := 10) rfl rfl _) rfl rfl hl.1 rfl (lv_room (Nat.le_of_ble_eq_true rfl)) dX10_order_29 ⟨Nat.zero_le _, Nat.zero_le _⟩) (fun r_8 u_7 H locs hw hP hD hS => ?_)
      obtain ⟨hf_9, rfl⟩ := hw
      have hP : va_P (dC, dI) vwCl (rW h cs gI gL qA_210 gQ) H := hP
      have hD : va_D A0 (rW h cs gI gL qA_210 gQ) := hD
      obtain rfl := hf_9
      refine lv_istore_n (lv' := [(3, .int (nI 0)), (4, .int (nI 0)), (2, .int (nI 0)), (0, .ref (h 0)), (1, .int (nI 0))]) hx hb dX10_order_32 rfl hl (by decide) rfl (fun ls hl => ?_)
      refine lv_iload_n hx hb dX10_order_33 rfl (lv_at hl 2 rfl) ?_
      refine lv_iconst (v := nI 1) hx hb dX10_order_34 (by decide) ?_
      refine lv_iload_n hx hb dX10_order_35 rfl (lv_at hl 0 rfl) ?_
      refine lv_ishl hx hb dX10_order_36 ?_
      refine xt_i (y := nI 1) (by decide +kernel) ?_
      refine lv_ior hx hb dX10_order_37 ?_
      refine xt_i (y := nI 1) (by decide +kernel) ?_
      refine lv_istore_n (lv' := [(2, .int (nI 1)), (3, .int (nI 0)), (4, .int (nI 0)), (0, .ref (h 0)), (1, .int (nI 0))]) hx hb dX10_order_38 rfl hl (by decide) rfl (fun ls hl => ?_)
      refine lv_iinc (v := nI 1) (lv' := [(4, .int (nI 1)), (2, .int (nI 1)), (3, .int (nI 0)), (0, .ref (h 0)), (1, .int (nI 0))]) hx hb dX10_order_39 hl (k := 2) rfl (by decide +kernel) (by decide) rfl (fun ls hl => ?_)
      refine lv_goto (tgt := 21) hx hb dX10_order_42 (by decide) ?_
      refine lv_iload hx hb dX10_order_21 (lv_at hl 0 rfl) ?_
      refine lv_iload_n hx hb dX10_order_23 rfl (lv_at hl 4 rfl) ?_
      refine lv_icmp_gt (tgt := 45) hx hb dX10_order_24 (by decide) (fun _ => ?_) (fun c9 => False.elim (by revert c9; decide +kernel))
      refine lv_iload_n hx hb dX10_order_45 rfl (lv_at hl 2 rfl) ?_
      exact xr_i (v := (nI 0)) hx hb hr hlocks hK hS dX10_order_46 (gI, gL, qA_210, gQ) ⟨qA_210, (by decide +kernel), rfl⟩ hP hD
    · skip
      refine lv_aload_n hx hb dX10_order_0 rfl (lv_at hl 0 rfl) ?_
      refine lv_iload_n hx hb dX10_order_1 rfl (lv_at hl 1 rfl) ?_
      refine xj_i (wc := (wD_177 h cs gI gL gA gQ)) (wr := ([] : va_W)) hP hD hS hA [0, 1, 2, 3, 4, 5, 6, 7, 8, 9, 10, 11, 12, 13, 14, 15, 16] [] rfl rfl (by decide) (by decide) (va_runV (As := [.int (nI 1)]) (rest := []) ⟨hx, hb, hml, hown, hts⟩ (a_X10_isColumn_205 l dC dI h cs H.size gI gL gA gQ ) (cwV 1 hts gX10_order_X10_isColumn rfl rfl rfl (by decide +kernel) ⟨Nat.le_of_ble_eq_true rfl, Nat.le_of_ble_eq_true rfl⟩) (xpV (wc := (wD_177 h cs gI gL gA gQ)) hP hD hK hN [0, 1, 2, 3, 4, 5, 6, 7, 8, 9, 10, 11, 12, 13, 14, 15, 16] rfl (by decide) 0 (ci := 10) rfl rfl _) rfl rfl hl.1 rfl (lv_room (Nat.le_of_ble_eq_true rfl)) dX10_order_2 ⟨Nat.zero_le _, Nat.zero_le _⟩) (fun r_11 u_10 H locs hw hP hD hS => ?_)
      obtain ⟨hf_12, rfl⟩ := hw
      have hP : va_P (dC, dI) vwCl (rW h cs gI gL gA gQ) H := hP
      have hD : va_D A0 (rW h cs gI gL gA gQ) := hD
      obtain rfl := hf_12
      refine lv_if_ne (tgt := 10) hx hb dX10_order_5 (by decide) (fun _ => ?_) (fun c9 => False.elim (by revert c9; decide +kernel))
      refine lv_aload_n hx hb dX10_order_10 rfl (lv_at hl 0 rfl) ?_
      refine xj_v (wc := (wD_177 h cs gI gL gA gQ)) (wr := ([] : va_W)) hP hD hS hA [0, 1, 2, 3, 4, 5, 6, 7, 8, 9, 10, 11, 12, 13, 14, 15, 16] [] rfl rfl (by decide) (by decide) (va_runV (As := []) (rest := []) ⟨hx, hb, hml, hown, hts⟩ (a_X10_lay_209 l dC dI h cs H.size gI gL gA gQ ) (cwV 0 hts gX10_order_X10_lay rfl rfl rfl (by decide +kernel) ⟨Nat.le_of_ble_eq_true rfl, Nat.le_of_ble_eq_true rfl⟩) (xpV (wc := (wD_177 h cs gI gL gA gQ)) hP hD hK hN [0, 1, 2, 3, 4, 5, 6, 7, 8, 9, 10, 11, 12, 13, 14, 15, 16] rfl (by decide) 0 (ci := 10) rfl rfl _) rfl rfl hl.1 rfl (lv_room (Nat.le_of_ble_eq_true rfl)) dX10_order_11 ⟨Nat.zero_le _, Nat.zero_le _⟩) (fun u_13 H locs hw hP hD hS => ?_)
      obtain ⟨hf_15, rfl⟩ := hw
      have hP : va_P (dC, dI) vwCl (rW h cs gI gL qA_210 gQ) H := hP
      have hD : va_D A0 (rW h cs gI gL qA_210 gQ) := hD
      refine lv_iconst (v := nI 0) hx hb dX10_order_14 (by decide) ?_
      refine lv_istore_n (lv' := [(2, .int (nI 0)), (0, .ref (h 0)), (1, .int (nI 1))]) hx hb dX10_order_15 rfl hl (by decide) rfl (fun ls hl => ?_)
      refine lv_iconst (v := (-1)) hx hb dX10_order_16 (by decide) ?_
      refine lv_istore_n (lv' := [(3, .int (-1)), (2, .int (nI 0)), (0, .ref (h 0)), (1, .int (nI 1))]) hx hb dX10_order_17 rfl hl (by decide) rfl (fun ls hl => ?_)
      refine lv_iconst (v := nI 0) hx hb dX10_order_18 (by decide) ?_
      refine lv_istore (lv' := [(4, .int (nI 0)), (3, .int (-1)), (2, .int (nI 0)), (0, .ref (h 0)), (1, .int (nI 1))]) hx hb dX10_order_19 hl (by decide) rfl (fun ls hl => ?_)
      refine lv_iload hx hb dX10_order_21 (lv_at hl 0 rfl) ?_
      refine lv_iload_n hx hb dX10_order_23 rfl (lv_at hl 4 rfl) ?_
      refine lv_icmp_gt (tgt := 45) hx hb dX10_order_24 (by decide) (fun c9 => False.elim (by revert c9; decide +kernel)) (fun _ => ?_)
      refine lv_aload_n hx hb dX10_order_27 rfl (lv_at hl 3 rfl) ?_
      refine lv_iload_n hx hb dX10_order_28 rfl (lv_at hl 2 rfl) ?_
      refine xj_i (wc := (wD_177 h cs gI gL qA_210 gQ)) (wr := ([] : va_W)) hP hD hS hA [0, 1, 2, 3, 4, 5, 6, 7, 8, 9, 10, 11, 12, 13, 14, 15, 16] [] rfl rfl (by decide) (by decide) (va_runV (As := [.int (nI 0)]) (rest := []) ⟨hx, hb, hml, hown, hts⟩ (a_X10_nextTaken_223 l dC dI h cs H.size gI gL qA_210 gQ ) (cwV 1 hts gX10_order_X10_nextTaken rfl rfl rfl (by decide +kernel) ⟨Nat.le_of_ble_eq_true rfl, Nat.le_of_ble_eq_true rfl⟩) (xpV (wc := (wD_177 h cs gI gL qA_210 gQ)) hP hD hK hN [0, 1, 2, 3, 4, 5, 6, 7, 8, 9, 10, 11, 12, 13, 14, 15, 16] rfl (by decide) 0 (ci := 10) rfl rfl _) rfl rfl hl.1 rfl (lv_room (Nat.le_of_ble_eq_true rfl)) dX10_order_29 ⟨Nat.zero_le _, Nat.zero_le _⟩) (fun r_17 u_16 H locs hw hP hD hS => ?_)
      obtain ⟨hf_18, rfl⟩ := hw
      have hP : va_P (dC, dI) vwCl (rW h cs gI gL qA_210 gQ) H := hP
      have hD : va_D A0 (rW h cs gI gL qA_210 gQ) := hD
      obtain rfl := hf_18
      refine lv_istore_n (lv' := [(3, .int (nI 0)), (4, .int (nI 0)), (2, .int (nI 0)), (0, .ref (h 0)), (1, .int (nI 1))]) hx hb dX10_order_32 rfl hl (by decide) rfl (fun ls hl => ?_)
      refine lv_iload_n hx hb dX10_order_33 rfl (lv_at hl 2 rfl) ?_
      refine lv_iconst (v := nI 1) hx hb dX10_order_34 (by decide) ?_
      refine lv_iload_n hx hb dX10_order_35 rfl (lv_at hl 0 rfl) ?_
      refine lv_ishl hx hb dX10_order_36 ?_
      refine xt_i (y := nI 1) (by decide +kernel) ?_
      refine lv_ior hx hb dX10_order_37 ?_
      refine xt_i (y := nI 1) (by decide +kernel) ?_
      refine lv_istore_n (lv' := [(2, .int (nI 1)), (3, .int (nI 0)), (4, .int (nI 0)), (0, .ref (h 0)), (1, .int (nI 1))]) hx hb dX10_order_38 rfl hl (by decide) rfl (fun ls hl => ?_)
      refine lv_iinc (v := nI 1) (lv' := [(4, .int (nI 1)), (2, .int (nI 1)), (3, .int (nI 0)), (0, .ref (h 0)), (1, .int (nI 1))]) hx hb dX10_order_39 hl (k := 2) rfl (by decide +kernel) (by decide) rfl (fun ls hl => ?_)
      refine lv_goto (tgt := 21) hx hb dX10_order_42 (by decide) ?_
      refine lv_iload hx hb dX10_order_21 (lv_at hl 0 rfl) ?_
      refine lv_iload_n hx hb dX10_order_23 rfl (lv_at hl 4 rfl) ?_
      refine lv_icmp_gt (tgt := 45) hx hb dX10_order_24 (by decide) (fun c9 => False.elim (by revert c9; decide +kernel)) (fun _ => ?_)
      refine lv_aload_n hx hb dX10_order_27 rfl (lv_at hl 3 rfl) ?_
      refine lv_iload_n hx hb dX10_order_28 rfl (lv_at hl 1 rfl) ?_
      refine xj_i (wc := (wD_177 h cs gI gL qA_210 gQ)) (wr := ([] : va_W)) hP hD hS hA [0, 1, 2, 3, 4, 5, 6, 7, 8, 9, 10, 11, 12, 13, 14, 15, 16] [] rfl rfl (by decide) (by decide) (va_runV (As := [.int (nI 1)]) (rest := []) ⟨hx, hb, hml, hown, hts⟩ (a_X10_nextTaken_224 l dC dI h cs H.size gI gL qA_210 gQ ) (cwV 1 hts gX10_order_X10_nextTaken rfl rfl rfl (by decide +kernel) ⟨Nat.le_of_ble_eq_true rfl, Nat.le_of_ble_eq_true rfl⟩) (xpV (wc := (wD_177 h cs gI gL qA_210 gQ)) hP hD hK hN [0, 1, 2, 3, 4, 5, 6, 7, 8, 9, 10, 11, 12, 13, 14, 15, 16] rfl (by decide) 0 (ci := 10) rfl rfl _) rfl rfl hl.1 rfl (lv_room (Nat.le_of_ble_eq_true rfl)) dX10_order_29 ⟨Nat.zero_le _, Nat.zero_le _⟩) (fun r_20 u_19 H locs hw hP hD hS => ?_)
      obtain ⟨hf_21, rfl⟩ := hw
      have hP : va_P (dC, dI) vwCl (rW h cs gI gL qA_210 gQ) H := hP
      have hD : va_D A0 (rW h cs gI gL qA_210 gQ) := hD
      obtain rfl := hf_21
      refine lv_istore_n (lv' := [(3, .int (nI 1)), (4, .int (nI 1)), (2, .int (nI 1)), (0, .ref (h 0)), (1, .int (nI 1))]) hx hb dX10_order_32 rfl hl (by decide) rfl (fun ls hl => ?_)
      refine lv_iload_n hx hb dX10_order_33 rfl (lv_at hl 2 rfl) ?_
      refine lv_iconst (v := nI 1) hx hb dX10_order_34 (by decide) ?_
      refine lv_iload_n hx hb dX10_order_35 rfl (lv_at hl 0 rfl) ?_
      refine lv_ishl hx hb dX10_order_36 ?_
      refine xt_i (y := nI 2) (by decide +kernel) ?_
      refine lv_ior hx hb dX10_order_37 ?_
      refine xt_i (y := nI 3) (by decide +kernel) ?_
      refine lv_istore_n (lv' := [(2, .int (nI 3)), (3, .int (nI 1)), (4, .int (nI 1)), (0, .ref (h 0)), (1, .int (nI 1))]) hx hb dX10_order_38 rfl hl (by decide) rfl (fun ls hl => ?_)
      refine lv_iinc (v := nI 2) (lv' := [(4, .int (nI 2)), (2, .int (nI 3)), (3, .int (nI 1)), (0, .ref (h 0)), (1, .int (nI 1))]) hx hb dX10_order_39 hl (k := 2) rfl (by decide +kernel) (by decide) rfl (fun ls hl => ?_)
      refine lv_goto (tgt := 21) hx hb dX10_order_42 (by decide) ?_
      refine lv_iload hx hb dX10_order_21 (lv_at hl 0 rfl) ?_
      refine lv_iload_n hx hb dX10_order_23 rfl (lv_at hl 4 rfl) ?_
      refine lv_icmp_gt (tgt := 45) hx hb dX10_order_24 (by decide) (fun _ => ?_) (fun c9 => False.elim (by revert c9; decide +kernel))
      refine lv_iload_n hx hb dX10_order_45 rfl (lv_at hl 2 rfl) ?_
      exact xr_i (v := (nI 1)) hx hb hr hlocks hK hS dX10_order_46 (gI, gL, qA_210, gQ) ⟨qA_210, (by decide +kernel), rfl⟩ hP hD
  · skip
    refine lv_aload_n hx hb dX10_order_0 rfl (lv_at hl 0 rfl) ?_
    refine lv_iload_n hx hb dX10_order_1 rfl (lv_at hl 1 rfl) ?_
    refine xj_i (wc := (rW h cs gI gL gA gQ)) (wr := ([] : va_W)) hP hD hS hA [0, 1, 2, 3, 4, 5, 6, 7, 8, 9, 10, 11, 12, 13, 14, 15, 16] [] rfl rfl (by decide) (by decide) (va_runV (As := [.int x]) (rest := []) ⟨hx, hb, hml, hown, hts⟩ (k_X10_isColumn l dC dI h cs H.size gI gL gA gQ x 2 (by decide +kernel) (by first | assumption | omega) (by first | assumption | omega)) (cwV 1 hts gX10_order_X10_isColumn rfl rfl rfl (by decide +kernel) ⟨Nat.le_of_ble_eq_true rfl, Nat.le_of_ble_eq_true rfl⟩) (xpV (wc := (rW h cs gI gL gA gQ)) hP hD hK hN [0, 1, 2, 3, 4, 5, 6, 7, 8, 9, 10, 11, 12, 13, 14, 15, 16] rfl (by decide) 0 (ci := 10) rfl rfl _) rfl rfl hl.1 rfl (lv_room (Nat.le_of_ble_eq_true rfl)) dX10_order_2 ⟨Nat.zero_le _, Nat.zero_le _⟩) (fun r_23 u_22 H locs hw hP hD hS => ?_)
    obtain ⟨hf_24, rfl⟩ := hw
    have hP : va_P (dC, dI) vwCl (rW h cs gI gL gA gQ) H := hP
    have hD : va_D A0 (rW h cs gI gL gA gQ) := hD
    rcases hf_24 with ⟨rfl, i_25, hh_26, ee_27⟩ | ⟨rfl, -⟩
    · skip
      exact absurd (by rw [ee_27, nI_toInt (by omega)]; omega) hz_x
    · skip
      refine lv_if_ne (tgt := 10) hx hb dX10_order_5 (by decide) (fun c9 => False.elim (by revert c9; decide +kernel)) (fun _ => ?_)
      refine lv_iconst (v := (-1)) hx hb dX10_order_8 (by decide) ?_
      exact xr_i (v := (-1)) hx hb hr hlocks hK hS dX10_order_9 (gI, gL, gA, gQ) ⟨gA, (by unfold an_order; rw [if_neg (by omega)]), rfl⟩ hP hD
