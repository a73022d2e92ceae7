set_option maxHeartbeats 4000000 in
set_option maxRecDepth 100000 in
theorem f_X10_undone (l : Launch) (dC : Nat → ClassId) (dI : Nat → Nat → Nat) (h : Nat → Nat) (cs : Nat → ClassId) (sz : Nat) (I : Nat → Int32) (L : Nat → Int64) (A : Nat → Nat → Int32) (Q : Nat → Nat → Int64) : Met l yX10_undone wsX10_undone ({ frames := 3, cells := 0, slots := 0, locals := 79 }) (va_Pc [.ref (h 0)] (xPre (dC, dI) (rW h cs gI gL gA gQ) (tysA cs) sz)) (va_Qi (fun (r : Int32) (u : RS) => (r = (-2)) ∧ u = (gI, gL, qA_210, gQ)) (xB (dC, dI) (tysA cs) (va_A (rW h cs gI gL gA gQ) sz) (fun u : RS => rW h cs u.1 u.2.1 u.2.2.1 u.2.2.2)) (va_A (rW h cs gI gL gA gQ) sz)) 0 0 (va_A (rW h cs gI gL gA gQ) sz) := by
  refine Met.ofW (cc := cX10_undone) (maxL := 2) (ret := (some .int)) (by decide) rfl ?_
  intro p e s m args below meth c s₁ B hml hv
  obtain ⟨rfl, hsz, hP, hK, hD0, hN⟩ := hv
  have hx := B.exec
  have hb := B.bytes
  have hr := B.returns
  have hts := atoms_spec (ws := wsX10_undone) B.pre
  have hown : s.vm.findClass RX10 = some m.cls := findClass_of_methodNamed B.named
  have hlocks := B.notSynchronized
  subst hsz
  have hD := hD0.self (sz := s.heap.size)
  generalize hAe : va_A (rW h cs gI gL gA gQ) s.heap.size = A0 at hD ⊢
  have hA : ∀ q : Nat, s.heap.size ≤ q → A0 q := fun q h => by rw [← hAe]; exact Or.inr h
  have hl := lv_entry ([.ref (h 0)]) (n := 2) (Nat.le_of_ble_eq_true rfl)
  rw [lg_entry_eq]
  generalize (lg_sl ([.ref (h 0)]) ++ List.replicate (2 - (lg_sl ([.ref (h 0)])).length) Slot.unset).toArray = ls at hl ⊢
  have hl : lv_has ls 2 [(0, .ref (h 0))] := hl
  generalize hH : s.heap = H at hP ⊢
  have hS : va_S A0 s.heap H [] := by rw [← hH]; exact va_S.rf
  have hinX10 : ∀ w ∈ wsX100, w ∈ wsX10_undone := by decide +kernel
  refine lv_aload_n hx hb dX10_undone_0 rfl (lv_at hl 0 rfl) ?_
  refine xj_v (wc := (wD_177 h cs gI gL gA gQ)) (wr := ([] : va_W)) hP hD hS hA [0, 1, 2, 3, 4, 5, 6, 7, 8, 9, 10, 11, 12, 13, 14, 15, 16] [] rfl rfl (by decide) (by decide) (va_runV (As := []) (rest := []) ⟨hx, hb, hml, hown, hts⟩ (a_X10_lay_209 l dC dI h cs H.size gI gL gA gQ ) (cwV 0 hts gX10_undone_X10_lay rfl rfl rfl (by decide +kernel) ⟨Nat.le_of_ble_eq_true rfl, Nat.le_of_ble_eq_true rfl⟩) (xpV (wc := (wD_177 h cs gI gL gA gQ)) hP hD hK hN [0, 1, 2, 3, 4, 5, 6, 7, 8, 9, 10, 11, 12, 13, 14, 15, 16] rfl (by decide) 0 (ci := 10) rfl rfl _) rfl rfl hl.1 rfl (lv_room (Nat.le_of_ble_eq_true rfl)) dX10_undone_1 ⟨Nat.zero_le _, Nat.zero_le _⟩) (fun u_1 H locs hw hP hD hS => ?_)
  obtain ⟨hf_3, rfl⟩ := hw
  have hP : va_P (dC, dI) vwCl (rW h cs gI gL qA_210 gQ) H := hP
  have hD : va_D A0 (rW h cs gI gL qA_210 gQ) := hD
  refine lv_aload_n hx hb dX10_undone_4 rfl (lv_at hl 0 rfl) ?_
  refine lv_aload_n hx hb dX10_undone_5 rfl (lv_at hl 0 rfl) ?_
  refine xj_i (wc := (wD_177 h cs gI gL qA_210 gQ)) (wr := ([] : va_W)) hP hD hS hA [0, 1, 2, 3, 4, 5, 6, 7, 8, 9, 10, 11, 12, 13, 14, 15, 16] [] rfl rfl (by decide) (by decide) (va_runV (As := []) (rest := [.ref (h 0)]) ⟨hx, hb, hml, hown, hts⟩ (a_X10_whole_222 l dC dI h cs H.size gI gL qA_210 gQ ) (cwV 0 hts gX10_undone_X10_whole rfl rfl rfl (by decide +kernel) ⟨Nat.le_of_ble_eq_true rfl, Nat.le_of_ble_eq_true rfl⟩) (xpV (wc := (wD_177 h cs gI gL qA_210 gQ)) hP hD hK hN [0, 1, 2, 3, 4, 5, 6, 7, 8, 9, 10, 11, 12, 13, 14, 15, 16] rfl (by decide) 0 (ci := 10) rfl rfl _) rfl rfl hl.1 rfl (lv_room (Nat.le_of_ble_eq_true rfl)) dX10_undone_6 ⟨Nat.zero_le _, Nat.zero_le _⟩) (fun r_5 u_4 H locs hw hP hD hS => ?_)
  obtain ⟨hf_6, rfl⟩ := hw
  have hP : va_P (dC, dI) vwCl (rW h cs gI gL qA_210 gQ) H := hP
  have hD : va_D A0 (rW h cs gI gL qA_210 gQ) := hD
  obtain rfl := hf_6
  refine xj_l (wc := (wD_177 h cs gI gL qA_210 gQ)) (wr := ([] : va_W)) hP hD hS hA [0, 1, 2, 3, 4, 5, 6, 7, 8, 9, 10, 11, 12, 13, 14, 15, 16] [] rfl rfl (by decide) (by decide) (va_runV (As := [.int (nI 3)]) (rest := []) ⟨hx, hb, hml, hown, hts⟩ (a_X10_worthOf_218 l dC dI h cs H.size gI gL qA_210 gQ ) (cwV 1 hts gX10_undone_X10_worthOf rfl rfl rfl (by decide +kernel) ⟨Nat.le_of_ble_eq_true rfl, Nat.le_of_ble_eq_true rfl⟩) (xpV (wc := (wD_177 h cs gI gL qA_210 gQ)) hP hD hK hN [0, 1, 2, 3, 4, 5, 6, 7, 8, 9, 10, 11, 12, 13, 14, 15, 16] rfl (by decide) 0 (ci := 10) rfl rfl _) rfl rfl hl.1 rfl (lv_room (Nat.le_of_ble_eq_true rfl)) dX10_undone_9 ⟨Nat.zero_le _, Nat.zero_le _⟩) (fun r_8 u_7 H locs hw hP hD hS => ?_)
  obtain ⟨hf_9, rfl⟩ := hw
  have hP : va_P (dC, dI) vwCl (rW h cs gI gL qA_210 gQ) H := hP
  have hD : va_D A0 (rW h cs gI gL qA_210 gQ) := hD
  obtain rfl := hf_9
  refine lv_lconst (v := 0) hx hb dX10_undone_12 rfl ?_
  refine xl_ne (tgt := 20) hx hb dX10_undone_13 dX10_undone_14 (by decide) (fun c9 => False.elim (by revert c9; decide +kernel)) (fun _ => ?_)
  refine lv_bipush (v := (-2)) hx hb dX10_undone_17 (by decide) ?_
  exact xr_i (v := (-2)) hx hb hr hlocks hK hS dX10_undone_19 (gI, gL, qA_210, gQ) ⟨rfl, rfl⟩ hP hD
set_option maxHeartbeats 4000000 in
set_option maxRecDepth 100000 in
theorem a_X10_meetHeard_232 (l : Launch) (dC : Nat → ClassId) (dI : Nat → Nat → Nat) (h : Nat → Nat) (cs : Nat → ClassId) (sz : Nat) (I : Nat → Int32) (L : Nat → Int64) (A : Nat → Nat → Int32) (Q : Nat → Nat → Int64) : Met l yX10_meetHeard wsX10_meetHeard ({ frames := 0, cells := 0, slots := 0, locals := 0 }) (va_Pc [.ref (h 0)] (xPre (dC, dI) (wD_177 h cs gI gL qA_210 gQ) (tysA cs) sz)) (va_Qv (fun (u : RS) => (True) ∧ u = (gI, gL, qA_210, gQ)) (xB (dC, dI) (tysA cs) (va_A (wD_177 h cs gI gL qA_210 gQ) sz) (fun u : RS => wD_177 h cs u.1 u.2.1 u.2.2.1 u.2.2.2)) (va_A (wD_177 h cs gI gL qA_210 gQ) sz)) 0 0 (va_A (wD_177 h cs gI gL qA_210 gQ) sz) := by
  refine Met.ofW (cc := cX10_meetHeard) (maxL := 2) (ret := none) (by decide) rfl ?_
  intro p e s m args below meth c s₁ B hml hv
  obtain ⟨rfl, hsz, hP, hK, hD0, hN⟩ := hv
  have hx := B.exec
  have hb := B.bytes
  have hr := B.returns
  have hts := atoms_spec (ws := wsX10_meetHeard) B.pre
  have hown : s.vm.findClass RX10 = some m.cls := findClass_of_methodNamed B.named
  have hlocks := B.notSynchronized
  subst hsz
  have hD := hD0.self (sz := s.heap.size)
  generalize hAe : va_A (wD_177 h cs gI gL qA_210 gQ) s.heap.size = A0 at hD ⊢
  have hA : ∀ q : Nat, s.heap.size ≤ q → A0 q := fun q h => by rw [← hAe]; exact Or.inr h
  have hl := lv_entry ([.ref (h 0)]) (n := 2) (Nat.le_of_ble_eq_true rfl)
  rw [lg_entry_eq]
  generalize (lg_sl ([.ref (h 0)]) ++ List.replicate (2 - (lg_sl ([.ref (h 0)])).length) Slot.unset).toArray = ls at hl ⊢
  have hl : lv_has ls 2 [(0, .ref (h 0))] := hl
  generalize hH : s.heap = H at hP ⊢
  have hS : va_S A0 s.heap H [] := by rw [← hH]; exact va_S.rf
  have hinX10 : ∀ w ∈ wsX100, w ∈ wsX10_meetHeard := by decide +kernel
  refine lv_iconst (v := nI 0) hx hb dX10_meetHeard_0 (by decide) ?_
  refine lv_istore_n (lv' := [(1, .int (nI 0)), (0, .ref (h 0))]) hx hb dX10_meetHeard_1 rfl hl (by decide) rfl (fun ls hl => ?_)
  refine lv_iload_n hx hb dX10_meetHeard_2 rfl (lv_at hl 0 rfl) ?_
  refine lv_iconst (v := nI 5) hx hb dX10_meetHeard_3 (by decide) ?_
  refine lv_icmp_ge (tgt := 41) hx hb dX10_meetHeard_4 (by decide) (fun c9 => False.elim (by revert c9; decide +kernel)) (fun _ => ?_)
  refine lv_aload_n hx hb dX10_meetHeard_7 rfl (lv_at hl 1 rfl) ?_
  refine va_get (D := (dC, dI)) (ci := 10) (v := .ref (h 20)) (C := RX10) (T := TX10) (N := 28) hx hb hts hinX10 hown hK hP 0 rfl rfl 20 (by decide) (hts (.fieldLink RX10 51 "MixedWordsModel" "met" "[I") (by decide +kernel)) (fun _ h9 => h9) rfl dX10_meetHeard_8 ?_
  refine lv_iload_n hx hb dX10_meetHeard_11 rfl (lv_at hl 0 rfl) ?_
  refine lv_iload_n hx hb dX10_meetHeard_12 rfl (lv_at hl 0 rfl) ?_
  refine lv_aload_n hx hb dX10_meetHeard_13 rfl (lv_at hl 1 rfl) ?_
  refine va_get (D := (dC, dI)) (ci := 10) (v := .int (gI 0)) (C := RX10) (T := TX10) (N := 28) hx hb hts hinX10 hown hK hP 0 rfl rfl 0 (by decide) (hts (.fieldLink RX10 7 "MixedWordsModel" "rows" "I") (by decide +kernel)) (fun _ h9 => h9) rfl dX10_meetHeard_14 ?_
  refine xt_i (y := nI 2) (by decide +kernel) ?_
  refine lv_icmp_ge (tgt := 33) hx hb dX10_meetHeard_17 (by decide) (fun c9 => False.elim (by revert c9; decide +kernel)) (fun _ => ?_)
  refine lv_aload_n hx hb dX10_meetHeard_20 rfl (lv_at hl 1 rfl) ?_
  refine va_get (D := (dC, dI)) (ci := 10) (v := .ref (h 3)) (C := RX10) (T := TX10) (N := 28) hx hb hts hinX10 hown hK hP 0 rfl rfl 3 (by decide) (hts (.fieldLink RX10 19 "MixedWordsModel" "told" "[I") (by decide +kernel)) (fun _ h9 => h9) rfl dX10_meetHeard_21 ?_
  refine lv_iconst (v := nI 5) hx hb dX10_meetHeard_24 (by decide) ?_
  refine lv_iload_n hx hb dX10_meetHeard_25 rfl (lv_at hl 0 rfl) ?_
  refine lv_imul hx hb dX10_meetHeard_26 ?_
  refine xt_i (y := nI 0) (by decide +kernel) ?_
  refine lv_iconst (v := nI 4) hx hb dX10_meetHeard_27 (by decide) ?_
  refine lv_iadd hx hb dX10_meetHeard_28 ?_
  refine xt_i (y := nI 4) (by decide +kernel) ?_
  refine xa_iald hx hb hK hP 1 0 rfl rfl (by omega) (by decide) dX10_meetHeard_29 ?_
  refine xt_i (y := nI 0) (by decide +kernel) ?_
  refine lv_goto (tgt := 34) hx hb dX10_meetHeard_30 (by decide) ?_
  refine xa_iastS hx hb hK hP hD hS 11 0 rfl rfl (by omega) (by decide) (by decide +kernel) dX10_meetHeard_34 (fun H locs hP hD hS => ?_)
  refine lv_iinc (v := nI 1) (lv' := [(1, .int (nI 1)), (0, .ref (h 0))]) hx hb dX10_meetHeard_35 hl (k := 0) rfl (by decide +kernel) (by decide) rfl (fun ls hl => ?_)
  refine lv_goto (tgt := 2) hx hb dX10_meetHeard_38 (by decide) ?_
  refine lv_iload_n hx hb dX10_meetHeard_2 rfl (lv_at hl 0 rfl) ?_
  refine lv_iconst (v := nI 5) hx hb dX10_meetHeard_3 (by decide) ?_
  refine lv_icmp_ge (tgt := 41) hx hb dX10_meetHeard_4 (by decide) (fun c9 => False.elim (by revert c9; decide +kernel)) (fun _ => ?_)
  refine lv_aload_n hx hb dX10_meetHeard_7 rfl (lv_at hl 1 rfl) ?_
  refine va_get (D := (dC, dI)) (ci := 10) (v := .ref (h 20)) (C := RX10) (T := TX10) (N := 28) hx hb hts hinX10 hown hK hP 0 rfl rfl 20 (by decide) (hts (.fieldLink RX10 51 "MixedWordsModel" "met" "[I") (by decide +kernel)) (fun _ h9 => h9) rfl dX10_meetHeard_8 ?_
  refine lv_iload_n hx hb dX10_meetHeard_11 rfl (lv_at hl 0 rfl) ?_
  refine lv_iload_n hx hb dX10_meetHeard_12 rfl (lv_at hl 0 rfl) ?_
  refine lv_aload_n hx hb dX10_meetHeard_13 rfl (lv_at hl 1 rfl) ?_
  refine va_get (D := (dC, dI)) (ci := 10) (v := .int (gI 0)) (C := RX10) (T := TX10) (N := 28) hx hb hts hinX10 hown hK hP 0 rfl rfl 0 (by decide) (hts (.fieldLink RX10 7 "MixedWordsModel" "rows" "I") (by decide +kernel)) (fun _ h9 => h9) rfl dX10_meetHeard_14 ?_
  refine xt_i (y := nI 2) (by decide +kernel) ?_
  refine lv_icmp_ge (tgt := 33) hx hb dX10_meetHeard_17 (by decide) (fun c9 => False.elim (by revert c9; decide +kernel)) (fun _ => ?_)
  refine lv_aload_n hx hb dX10_meetHeard_20 rfl (lv_at hl 1 rfl) ?_
  refine va_get (D := (dC, dI)) (ci := 10) (v := .ref (h 3)) (C := RX10) (T := TX10) (N := 28) hx hb hts hinX10 hown hK hP 0 rfl rfl 3 (by decide) (hts (.fieldLink RX10 19 "MixedWordsModel" "told" "[I") (by decide +kernel)) (fun _ h9 => h9) rfl dX10_meetHeard_21 ?_
  refine lv_iconst (v := nI 5) hx hb dX10_meetHeard_24 (by decide) ?_
  refine lv_iload_n hx hb dX10_meetHeard_25 rfl (lv_at hl 0 rfl) ?_
  refine lv_imul hx hb dX10_meetHeard_26 ?_
  refine xt_i (y := nI 5) (by decide +kernel) ?_
  refine lv_iconst (v := nI 4) hx hb dX10_meetHeard_27 (by decide) ?_
  refine lv_iadd hx hb dX10_meetHeard_28 ?_
  refine xt_i (y := nI 9) (by decide +kernel) ?_
  refine xa_iald hx hb hK hP 1 0 rfl rfl (by omega) (by decide) dX10_meetHeard_29 ?_
  refine xt_i (y := nI 0) (by decide +kernel) ?_
  refine lv_goto (tgt := 34) hx hb dX10_meetHeard_30 (by decide) ?_
  refine xa_iastS hx hb hK hP hD hS 11 0 rfl rfl (by omega) (by decide) (by decide +kernel) dX10_meetHeard_34 (fun H locs hP hD hS => ?_)
  refine lv_iinc (v := nI 2) (lv' := [(1, .int (nI 2)), (0, .ref (h 0))]) hx hb dX10_meetHeard_35 hl (k := 0) rfl (by decide +kernel) (by decide) rfl (fun ls hl => ?_)
  refine lv_goto (tgt := 2) hx hb dX10_meetHeard_38 (by decide) ?_
  refine lv_iload_n hx hb dX10_meetHeard_2 rfl (lv_at hl 0 rfl) ?_
  refine lv_iconst (v := nI 5) hx hb dX10_meetHeard_3 (by decide) ?_
  refine lv_icmp_ge (tgt := 41) hx hb dX10_meetHeard_4 (by decide) (fun c9 => False.elim (by revert c9; decide +kernel)) (fun _ => ?_)
  refine lv_aload_n hx hb dX10_meetHeard_7 rfl (lv_at hl 1 rfl) ?_
  refine va_get (D := (dC, dI)) (ci := 10) (v := .ref (h 20)) (C := RX10) (T := TX10) (N := 28) hx hb hts hinX10 hown hK hP 0 rfl rfl 20 (by decide) (hts (.fieldLink RX10 51 "MixedWordsModel" "met" "[I") (by decide +kernel)) (fun _ h9 => h9) rfl dX10_meetHeard_8 ?_
  refine lv_iload_n hx hb dX10_meetHeard_11 rfl (lv_at hl 0 rfl) ?_
  refine lv_iload_n hx hb dX10_meetHeard_12 rfl (lv_at hl 0 rfl) ?_
  refine lv_aload_n hx hb dX10_meetHeard_13 rfl (lv_at hl 1 rfl) ?_
  refine va_get (D := (dC, dI)) (ci := 10) (v := .int (gI 0)) (C := RX10) (T := TX10) (N := 28) hx hb hts hinX10 hown hK hP 0 rfl rfl 0 (by decide) (hts (.fieldLink RX10 7 "MixedWordsModel" "rows" "I") (by decide +kernel)) (fun _ h9 => h9) rfl dX10_meetHeard_14 ?_
  refine xt_i (y := nI 2) (by decide +kernel) ?_
  refine lv_icmp_ge (tgt := 33) hx hb dX10_meetHeard_17 (by decide) (fun _ => ?_) (fun c9 => False.elim (by revert c9; decide +kernel))
  refine lv_iconst (v := nI 0) hx hb dX10_meetHeard_33 (by decide) ?_
  refine xa_iastS hx hb hK hP hD hS 11 0 rfl rfl (by omega) (by decide) (by decide +kernel) dX10_meetHeard_34 (fun H locs hP hD hS => ?_)
  refine lv_iinc (v := nI 3) (lv' := [(1, .int (nI 3)), (0, .ref (h 0))]) hx hb dX10_meetHeard_35 hl (k := 0) rfl (by decide +kernel) (by decide) rfl (fun ls hl => ?_)
  refine lv_goto (tgt := 2) hx hb dX10_meetHeard_38 (by decide) ?_
  refine lv_iload_n hx hb dX10_meetHeard_2 rfl (lv_at hl 0 rfl) ?_
  refine lv_iconst (v := nI 5) hx hb dX10_meetHeard_3 (by decide) ?_
  refine lv_icmp_ge (tgt := 41) hx hb dX10_meetHeard_4 (by decide) (fun c9 => False.elim (by revert c9; decide +kernel)) (fun _ => ?_)
  refine lv_aload_n hx hb dX10_meetHeard_7 rfl (lv_at hl 1 rfl) ?_
  refine va_get (D := (dC, dI)) (ci := 10) (v := .ref (h 20)) (C := RX10) (T := TX10) (N := 28) hx hb hts hinX10 hown hK hP 0 rfl rfl 20 (by decide) (hts (.fieldLink RX10 51 "MixedWordsModel" "met" "[I") (by decide +kernel)) (fun _ h9 => h9) rfl dX10_meetHeard_8 ?_
  refine lv_iload_n hx hb dX10_meetHeard_11 rfl (lv_at hl 0 rfl) ?_
  refine lv_iload_n hx hb dX10_meetHeard_12 rfl (lv_at hl 0 rfl) ?_
  refine lv_aload_n hx hb dX10_meetHeard_13 rfl (lv_at hl 1 rfl) ?_
  refine va_get (D := (dC, dI)) (ci := 10) (v := .int (gI 0)) (C := RX10) (T := TX10) (N := 28) hx hb hts hinX10 hown hK hP 0 rfl rfl 0 (by decide) (hts (.fieldLink RX10 7 "MixedWordsModel" "rows" "I") (by decide +kernel)) (fun _ h9 => h9) rfl dX10_meetHeard_14 ?_
  refine xt_i (y := nI 2) (by decide +kernel) ?_
  refine lv_icmp_ge (tgt := 33) hx hb dX10_meetHeard_17 (by decide) (fun _ => ?_) (fun c9 => False.elim (by revert c9; decide +kernel))
  refine lv_iconst (v := nI 0) hx hb dX10_meetHeard_33 (by decide) ?_
  refine xa_iastS hx hb hK hP hD hS 11 0 rfl rfl (by omega) (by decide) (by decide +kernel) dX10_meetHeard_34 (fun H locs hP hD hS => ?_)
  refine lv_iinc (v := nI 4) (lv' := [(1, .int (nI 4)), (0, .ref (h 0))]) hx hb dX10_meetHeard_35 hl (k := 0) rfl (by decide +kernel) (by decide) rfl (fun ls hl => ?_)
  refine lv_goto (tgt := 2) hx hb dX10_meetHeard_38 (by decide) ?_
  refine lv_iload_n hx hb dX10_meetHeard_2 rfl (lv_at hl 0 rfl) ?_
  refine lv_iconst (v := nI 5) hx hb dX10_meetHeard_3 (by decide) ?_
  refine lv_icmp_ge (tgt := 41) hx hb dX10_meetHeard_4 (by decide) (fun c9 => False.elim (by revert c9; decide +kernel)) (fun _ => ?_)
  refine lv_aload_n hx hb dX10_meetHeard_7 rfl (lv_at hl 1 rfl) ?_
  refine va_get (D := (dC, dI)) (ci := 10) (v := .ref (h 20)) (C := RX10) (T := TX10) (N := 28) hx hb hts hinX10 hown hK hP 0 rfl rfl 20 (by decide) (hts (.fieldLink RX10 51 "MixedWordsModel" "met" "[I") (by decide +kernel)) (fun _ h9 => h9) rfl dX10_meetHeard_8 ?_
  refine lv_iload_n hx hb dX10_meetHeard_11 rfl (lv_at hl 0 rfl) ?_
  refine lv_iload_n hx hb dX10_meetHeard_12 rfl (lv_at hl 0 rfl) ?_
  refine lv_aload_n hx hb dX10_meetHeard_13 rfl (lv_at hl 1 rfl) ?_
  refine va_get (D := (dC, dI)) (ci := 10) (v := .int (gI 0)) (C := RX10) (T := TX10) (N := 28) hx hb hts hinX10 hown hK hP 0 rfl rfl 0 (by decide) (hts (.fieldLink RX10 7 "MixedWordsModel" "rows" "I") (by decide +kernel)) (fun _ h9 => h9) rfl dX10_meetHeard_14 ?_
  refine xt_i (y := nI 2) (by decide +kernel) ?_
  refine lv_icmp_ge (tgt := 33) hx hb dX10_meetHeard_17 (by decide) (fun _ => ?_) (fun c9 => False.elim (by revert c9; decide +kernel))
  refine lv_iconst (v := nI 0) hx hb dX10_meetHeard_33 (by decide) ?_
  refine xa_iastS hx hb hK hP hD hS 11 0 rfl rfl (by omega) (by decide) (by decide +kernel) dX10_meetHeard_34 (fun H locs hP hD hS => ?_)
  refine lv_iinc (v := nI 5) (lv' := [(1, .int (nI 5)), (0, .ref (h 0))]) hx hb dX10_meetHeard_35 hl (k := 0) rfl (by decide +kernel) (by decide) rfl (fun ls hl => ?_)
  refine lv_goto (tgt := 2) hx hb dX10_meetHeard_38 (by decide) ?_
  refine lv_iload_n hx hb dX10_meetHeard_2 rfl (lv_at hl 0 rfl) ?_
  refine lv_iconst (v := nI 5) hx hb dX10_meetHeard_3 (by decide) ?_
  refine lv_icmp_ge (tgt := 41) hx hb dX10_meetHeard_4 (by decide) (fun _ => ?_) (fun c9 => False.elim (by revert c9; decide +kernel))
  exact xr_v hx hb hr hlocks hK hS dX10_meetHeard_41 (gI, gL, qA_210, gQ) ⟨trivial, rfl⟩ hP hD
def qA_233 : Nat → Nat → Int32 := (va_up qA_210 23 (upd (qA_210 23) 0 (-1)))
set_option maxHeartbeats 4000000 in
set_option maxRecDepth 100000 in
theorem a_X10_nextTaken_234 (l : Launch) (dC : Nat → ClassId) (dI : Nat → Nat → Nat) (h : Nat → Nat) (cs : Nat → ClassId) (sz : Nat) (I : Nat → Int32) (L : Nat → Int64) (A : Nat → Nat → Int32) (Q : Nat → Nat → Int64) : Met l yX10_nextTaken wsX10_nextTaken ({ frames := 1, cells := 0, slots := 0, locals := 24 }) (va_Pc [.ref (h 0), .int (nI 1)] (xPre (dC, dI) (wD_177 h cs gI gL qA_233 gQ) (tysA cs) sz)) (va_Qi (fun (r : Int32) (u : RS) => (r = nI 1) ∧ u = (gI, gL, qA_233, gQ)) (xB (dC, dI) (tysA cs) (va_A (wD_177 h cs gI gL qA_233 gQ) sz) (fun u : RS => wD_177 h cs u.1 u.2.1 u.2.2.1 u.2.2.2)) (va_A (wD_177 h cs gI gL qA_233 gQ) sz)) 0 0 (va_A (wD_177 h cs gI gL qA_233 gQ) sz) := by
  refine Met.ofW (cc := cX10_nextTaken) (maxL := 5) (ret := (some .int)) (by decide) rfl ?_
  intro p e s m args below meth c s₁ B hml hv
  obtain ⟨rfl, hsz, hP, hK, hD0, hN⟩ := hv
  have hx := B.exec
  have hb := B.bytes
  have hr := B.returns
  have hts := atoms_spec (ws := wsX10_nextTaken) B.pre
  have hown : s.vm.findClass RX10 = some m.cls := findClass_of_methodNamed B.named
  have hlocks := B.notSynchronized
  subst hsz
  have hD := hD0.self (sz := s.heap.size)
  generalize hAe : va_A (wD_177 h cs gI gL qA_233 gQ) s.heap.size = A0 at hD ⊢
  have hA : ∀ q : Nat, s.heap.size ≤ q → A0 q := fun q h => by rw [← hAe]; exact Or.inr h
  have hl := lv_entry ([.ref (h 0), .int (nI 1)]) (n := 5) (Nat.le_of_ble_eq_true rfl)
  rw [lg_entry_eq]
  generalize (lg_sl ([.ref (h 0), .int (nI 1)]) ++ List.replicate (5 - (lg_sl ([.ref (h 0), .int (nI 1)])).length) Slot.unset).toArray = ls at hl ⊢
  have hl : lv_has ls 5 [(0, .ref (h 0)), (1, .int (nI 1))] := hl
  generalize hH : s.heap = H at hP ⊢
  have hS : va_S A0 s.heap H [] := by rw [← hH]; exact va_S.rf
  have hinX10 : ∀ w ∈ wsX100, w ∈ wsX10_nextTaken := by decide +kernel
  refine lv_iconst (v := (-1)) hx hb dX10_nextTaken_0 (by decide) ?_
  refine lv_istore_n (lv' := [(2, .int (-1)), (0, .ref (h 0)), (1, .int (nI 1))]) hx hb dX10_nextTaken_1 rfl hl (by decide) rfl (fun ls hl => ?_)
  refine lv_iconst (v := nI 0) hx hb dX10_nextTaken_2 (by decide) ?_
  refine lv_istore_n (lv' := [(3, .int (nI 0)), (2, .int (-1)), (0, .ref (h 0)), (1, .int (nI 1))]) hx hb dX10_nextTaken_3 rfl hl (by decide) rfl (fun ls hl => ?_)
  refine lv_iload_n hx hb dX10_nextTaken_4 rfl (lv_at hl 0 rfl) ?_
  refine lv_aload_n hx hb dX10_nextTaken_5 rfl (lv_at hl 2 rfl) ?_
  refine va_get (D := (dC, dI)) (ci := 10) (v := .int (gI 1)) (C := RX10) (T := TX10) (N := 28) hx hb hts hinX10 hown hK hP 0 rfl rfl 1 (by decide) (hts (.fieldLink RX10 13 "MixedWordsModel" "columns" "I") (by decide +kernel)) (fun _ h9 => h9) rfl dX10_nextTaken_6 ?_
  refine xt_i (y := nI 2) (by decide +kernel) ?_
  refine lv_icmp_ge (tgt := 63) hx hb dX10_nextTaken_9 (by decide) (fun c9 => False.elim (by revert c9; decide +kernel)) (fun _ => ?_)
  refine lv_iload_n hx hb dX10_nextTaken_12 rfl (lv_at hl 3 rfl) ?_
  refine lv_iload_n hx hb dX10_nextTaken_13 rfl (lv_at hl 0 rfl) ?_
  refine lv_ishr hx hb dX10_nextTaken_14 ?_
  refine xt_i (y := nI 1) (by decide +kernel) ?_
  refine lv_iconst (v := nI 1) hx hb dX10_nextTaken_15 (by decide) ?_
  refine lv_iand hx hb dX10_nextTaken_16 ?_
  refine xt_i (y := nI 1) (by decide +kernel) ?_
  refine lv_if_ne (tgt := 24) hx hb dX10_nextTaken_17 (by decide) (fun _ => ?_) (fun c9 => False.elim (by revert c9; decide +kernel))
  refine lv_iconst (v := nI 0) hx hb dX10_nextTaken_24 (by decide) ?_
  refine lv_istore (lv' := [(4, .int (nI 0)), (3, .int (nI 0)), (2, .int (-1)), (0, .ref (h 0)), (1, .int (nI 1))]) hx hb dX10_nextTaken_25 hl (by decide) rfl (fun ls hl => ?_)
  refine lv_iload hx hb dX10_nextTaken_27 (lv_at hl 0 rfl) ?_
  refine lv_if_eq (tgt := 55) hx hb dX10_nextTaken_29 (by decide) (fun _ => ?_) (fun c9 => False.elim (by revert c9; decide +kernel))
  refine lv_iload_n hx hb dX10_nextTaken_55 rfl (lv_at hl 2 rfl) ?_
  refine lv_istore_n (lv' := [(2, .int (-1)), (4, .int (nI 0)), (3, .int (nI 0)), (0, .ref (h 0)), (1, .int (nI 1))]) hx hb dX10_nextTaken_56 rfl hl (by decide) rfl (fun ls hl => ?_)
  refine lv_iinc (v := nI 1) (lv' := [(3, .int (nI 1)), (2, .int (-1)), (4, .int (nI 0)), (0, .ref (h 0)), (1, .int (nI 1))]) hx hb dX10_nextTaken_57 hl (k := 2) rfl (by decide +kernel) (by decide) rfl (fun ls hl => ?_)
  refine lv_goto (tgt := 4) hx hb dX10_nextTaken_60 (by decide) ?_
  refine lv_iload_n hx hb dX10_nextTaken_4 rfl (lv_at hl 0 rfl) ?_
  refine lv_aload_n hx hb dX10_nextTaken_5 rfl (lv_at hl 3 rfl) ?_
  refine va_get (D := (dC, dI)) (ci := 10) (v := .int (gI 1)) (C := RX10) (T := TX10) (N := 28) hx hb hts hinX10 hown hK hP 0 rfl rfl 1 (by decide) (hts (.fieldLink RX10 13 "MixedWordsModel" "columns" "I") (by decide +kernel)) (fun _ h9 => h9) rfl dX10_nextTaken_6 ?_
  refine xt_i (y := nI 2) (by decide +kernel) ?_
  refine lv_icmp_ge (tgt := 63) hx hb dX10_nextTaken_9 (by decide) (fun c9 => False.elim (by revert c9; decide +kernel)) (fun _ => ?_)
  refine lv_iload_n hx hb dX10_nextTaken_12 rfl (lv_at hl 4 rfl) ?_
  refine lv_iload_n hx hb dX10_nextTaken_13 rfl (lv_at hl 0 rfl) ?_
  refine lv_ishr hx hb dX10_nextTaken_14 ?_
  refine xt_i (y := nI 0) (by decide +kernel) ?_
  refine lv_iconst (v := nI 1) hx hb dX10_nextTaken_15 (by decide) ?_
  refine lv_iand hx hb dX10_nextTaken_16 ?_
  refine xt_i (y := nI 0) (by decide +kernel) ?_
  refine lv_if_ne (tgt := 24) hx hb dX10_nextTaken_17 (by decide) (fun c9 => False.elim (by revert c9; decide +kernel)) (fun _ => ?_)
  refine lv_iconst (v := nI 1) hx hb dX10_nextTaken_20 (by decide) ?_
  refine lv_goto (tgt := 25) hx hb dX10_nextTaken_21 (by decide) ?_
  refine lv_istore (lv' := [(4, .int (nI 1)), (3, .int (nI 1)), (2, .int (-1)), (0, .ref (h 0)), (1, .int (nI 1))]) hx hb dX10_nextTaken_25 hl (by decide) rfl (fun ls hl => ?_)
  refine lv_iload hx hb dX10_nextTaken_27 (lv_at hl 0 rfl) ?_
  refine lv_if_eq (tgt := 55) hx hb dX10_nextTaken_29 (by decide) (fun c9 => False.elim (by revert c9; decide +kernel)) (fun _ => ?_)
  refine lv_iload_n hx hb dX10_nextTaken_32 rfl (lv_at hl 2 rfl) ?_
  refine lv_if_lt (tgt := 51) hx hb dX10_nextTaken_33 (by decide) (fun _ => ?_) (fun c9 => False.elim (by revert c9; decide +kernel))
  refine lv_iload_n hx hb dX10_nextTaken_51 rfl (lv_at hl 1 rfl) ?_
  refine lv_goto (tgt := 56) hx hb dX10_nextTaken_52 (by decide) ?_
  refine lv_istore_n (lv' := [(2, .int (nI 1)), (4, .int (nI 1)), (3, .int (nI 1)), (0, .ref (h 0)), (1, .int (nI 1))]) hx hb dX10_nextTaken_56 rfl hl (by decide) rfl (fun ls hl => ?_)
  refine lv_iinc (v := nI 2) (lv' := [(3, .int (nI 2)), (2, .int (nI 1)), (4, .int (nI 1)), (0, .ref (h 0)), (1, .int (nI 1))]) hx hb dX10_nextTaken_57 hl (k := 2) rfl (by decide +kernel) (by decide) rfl (fun ls hl => ?_)
  refine lv_goto (tgt := 4) hx hb dX10_nextTaken_60 (by decide) ?_
  refine lv_iload_n hx hb dX10_nextTaken_4 rfl (lv_at hl 0 rfl) ?_
  refine lv_aload_n hx hb dX10_nextTaken_5 rfl (lv_at hl 3 rfl) ?_
  refine va_get (D := (dC, dI)) (ci := 10) (v := .int (gI 1)) (C := RX10) (T := TX10) (N := 28) hx hb hts hinX10 hown hK hP 0 rfl rfl 1 (by decide) (hts (.fieldLink RX10 13 "MixedWordsModel" "columns" "I") (by decide +kernel)) (fun _ h9 => h9) rfl dX10_nextTaken_6 ?_
  refine xt_i (y := nI 2) (by decide +kernel) ?_
  refine lv_icmp_ge (tgt := 63) hx hb dX10_nextTaken_9 (by decide) (fun _ => ?_) (fun c9 => False.elim (by revert c9; decide +kernel))
  refine lv_iload_n hx hb dX10_nextTaken_63 rfl (lv_at hl 1 rfl) ?_
  exact xr_i (v := (nI 1)) hx hb hr hlocks hK hS dX10_nextTaken_64 (gI, gL, qA_233, gQ) ⟨rfl, rfl⟩ hP hD
set_option maxHeartbeats 4000000 in
set_option maxRecDepth 100000 in
theorem a_X10_dot_235 (l : Launch) (dC : Nat → ClassId) (dI : Nat → Nat → Nat) (h : Nat → Nat) (cs : Nat → ClassId) (sz : Nat) (I : Nat → Int32) (L : Nat → Int64) (A : Nat → Nat → Int32) (Q : Nat → Nat → Int64) : Met l yX10_dot wsX10_dot ({ frames := 0, cells := 0, slots := 0, locals := 0 }) (va_Pc [.ref (h 0), .int (nI 1), .int (nI 1)] (xPre (dC, dI) (wD_177 h cs gI gL qA_233 gQ) (tysA cs) sz)) (va_Qi (fun (r : Int32) (u : RS) => (r = nI 0) ∧ u = (gI, gL, qA_233, gQ)) (xB (dC, dI) (tysA cs) (va_A (wD_177 h cs gI gL qA_233 gQ) sz) (fun u : RS => wD_177 h cs u.1 u.2.1 u.2.2.1 u.2.2.2)) (va_A (wD_177 h cs gI gL qA_233 gQ) sz)) 0 0 (va_A (wD_177 h cs gI gL qA_233 gQ) sz) := by
  refine Met.ofW (cc := cX10_dot) (maxL := 5) (ret := (some .int)) (by decide) rfl ?_
  intro p e s m args below meth c s₁ B hml hv
  obtain ⟨rfl, hsz, hP, hK, hD0, hN⟩ := hv
  have hx := B.exec
  have hb := B.bytes
  have hr := B.returns
  have hts := atoms_spec (ws := wsX10_dot) B.pre
  have hown : s.vm.findClass RX10 = some m.cls := findClass_of_methodNamed B.named
  have hlocks := B.notSynchronized
  subst hsz
  have hD := hD0.self (sz := s.heap.size)
  generalize hAe : va_A (wD_177 h cs gI gL qA_233 gQ) s.heap.size = A0 at hD ⊢
  have hA : ∀ q : Nat, s.heap.size ≤ q → A0 q := fun q h => by rw [← hAe]; exact Or.inr h
  have hl := lv_entry ([.ref (h 0), .int (nI 1), .int (nI 1)]) (n := 5) (Nat.le_of_ble_eq_true rfl)
  rw [lg_entry_eq]
  generalize (lg_sl ([.ref (h 0), .int (nI 1), .int (nI 1)]) ++ List.replicate (5 - (lg_sl ([.ref (h 0), .int (nI 1), .int (nI 1)])).length) Slot.unset).toArray = ls at hl ⊢
  have hl : lv_has ls 5 [(0, .ref (h 0)), (1, .int (nI 1)), (2, .int (nI 1))] := hl
  generalize hH : s.heap = H at hP ⊢
  have hS : va_S A0 s.heap H [] := by rw [← hH]; exact va_S.rf
  have hinX10 : ∀ w ∈ wsX100, w ∈ wsX10_dot := by decide +kernel
  refine lv_iconst (v := nI 0) hx hb dX10_dot_0 (by decide) ?_
  refine lv_istore_n (lv' := [(3, .int (nI 0)), (0, .ref (h 0)), (1, .int (nI 1)), (2, .int (nI 1))]) hx hb dX10_dot_1 rfl hl (by decide) rfl (fun ls hl => ?_)
  refine lv_iconst (v := nI 0) hx hb dX10_dot_2 (by decide) ?_
  refine lv_istore (lv' := [(4, .int (nI 0)), (3, .int (nI 0)), (0, .ref (h 0)), (1, .int (nI 1)), (2, .int (nI 1))]) hx hb dX10_dot_3 hl (by decide) rfl (fun ls hl => ?_)
  refine lv_iload hx hb dX10_dot_5 (lv_at hl 0 rfl) ?_
  refine lv_iconst (v := nI 5) hx hb dX10_dot_7 (by decide) ?_
  refine lv_icmp_ge (tgt := 43) hx hb dX10_dot_8 (by decide) (fun c9 => False.elim (by revert c9; decide +kernel)) (fun _ => ?_)
  refine lv_iload_n hx hb dX10_dot_11 rfl (lv_at hl 1 rfl) ?_
  refine lv_aload_n hx hb dX10_dot_12 rfl (lv_at hl 2 rfl) ?_
  refine va_get (D := (dC, dI)) (ci := 10) (v := .ref (h 17)) (C := RX10) (T := TX10) (N := 28) hx hb hts hinX10 hown hK hP 0 rfl rfl 17 (by decide) (hts (.fieldLink RX10 41 "MixedWordsModel" "cols" "[I") (by decide +kernel)) (fun _ h9 => h9) rfl dX10_dot_13 ?_
  refine lv_iconst (v := nI 5) hx hb dX10_dot_16 (by decide) ?_
  refine lv_iload_n hx hb dX10_dot_17 rfl (lv_at hl 3 rfl) ?_
  refine lv_imul hx hb dX10_dot_18 ?_
  refine xt_i (y := nI 5) (by decide +kernel) ?_
  refine lv_iload hx hb dX10_dot_19 (lv_at hl 0 rfl) ?_
  refine lv_iadd hx hb dX10_dot_21 ?_
  refine xt_i (y := nI 5) (by decide +kernel) ?_
  refine xa_iald hx hb hK hP 8 0 rfl rfl (by omega) (by decide) dX10_dot_22 ?_
  refine xt_i (y := nI 0) (by decide +kernel) ?_
  refine lv_aload_n hx hb dX10_dot_23 rfl (lv_at hl 2 rfl) ?_
  refine va_get (D := (dC, dI)) (ci := 10) (v := .ref (h 17)) (C := RX10) (T := TX10) (N := 28) hx hb hts hinX10 hown hK hP 0 rfl rfl 17 (by decide) (hts (.fieldLink RX10 41 "MixedWordsModel" "cols" "[I") (by decide +kernel)) (fun _ h9 => h9) rfl dX10_dot_24 ?_
  refine lv_iconst (v := nI 5) hx hb dX10_dot_27 (by decide) ?_
  refine lv_iload_n hx hb dX10_dot_28 rfl (lv_at hl 4 rfl) ?_
  refine lv_imul hx hb dX10_dot_29 ?_
  refine xt_i (y := nI 5) (by decide +kernel) ?_
  refine lv_iload hx hb dX10_dot_30 (lv_at hl 0 rfl) ?_
  refine lv_iadd hx hb dX10_dot_32 ?_
  refine xt_i (y := nI 5) (by decide +kernel) ?_
  refine xa_iald hx hb hK hP 8 0 rfl rfl (by omega) (by decide) dX10_dot_33 ?_
  refine xt_i (y := nI 0) (by decide +kernel) ?_
  refine lv_imul hx hb dX10_dot_34 ?_
  refine xt_i (y := nI 0) (by decide +kernel) ?_
  refine lv_iadd hx hb dX10_dot_35 ?_
  refine xt_i (y := nI 0) (by decide +kernel) ?_
  refine lv_istore_n (lv' := [(3, .int (nI 0)), (4, .int (nI 0)), (0, .ref (h 0)), (1, .int (nI 1)), (2, .int (nI 1))]) hx hb dX10_dot_36 rfl hl (by decide) rfl (fun ls hl => ?_)
  refine lv_iinc (v := nI 1) (lv' := [(4, .int (nI 1)), (3, .int (nI 0)), (0, .ref (h 0)), (1, .int (nI 1)), (2, .int (nI 1))]) hx hb dX10_dot_37 hl (k := 1) rfl (by decide +kernel) (by decide) rfl (fun ls hl => ?_)
  refine lv_goto (tgt := 5) hx hb dX10_dot_40 (by decide) ?_
  refine lv_iload hx hb dX10_dot_5 (lv_at hl 0 rfl) ?_
  refine lv_iconst (v := nI 5) hx hb dX10_dot_7 (by decide) ?_
  refine lv_icmp_ge (tgt := 43) hx hb dX10_dot_8 (by decide) (fun c9 => False.elim (by revert c9; decide +kernel)) (fun _ => ?_)
  refine lv_iload_n hx hb dX10_dot_11 rfl (lv_at hl 1 rfl) ?_
  refine lv_aload_n hx hb dX10_dot_12 rfl (lv_at hl 2 rfl) ?_
  refine va_get (D := (dC, dI)) (ci := 10) (v := .ref (h 17)) (C := RX10) (T := TX10) (N := 28) hx hb hts hinX10 hown hK hP 0 rfl rfl 17 (by decide) (hts (.fieldLink RX10 41 "MixedWordsModel" "cols" "[I") (by decide +kernel)) (fun _ h9 => h9) rfl dX10_dot_13 ?_
  refine lv_iconst (v := nI 5) hx hb dX10_dot_16 (by decide) ?_
  refine lv_iload_n hx hb dX10_dot_17 rfl (lv_at hl 3 rfl) ?_
  refine lv_imul hx hb dX10_dot_18 ?_
  refine xt_i (y := nI 5) (by decide +kernel) ?_
  refine lv_iload hx hb dX10_dot_19 (lv_at hl 0 rfl) ?_
  refine lv_iadd hx hb dX10_dot_21 ?_
  refine xt_i (y := nI 6) (by decide +kernel) ?_
  refine xa_iald hx hb hK hP 8 0 rfl rfl (by omega) (by decide) dX10_dot_22 ?_
  refine xt_i (y := nI 0) (by decide +kernel) ?_
  refine lv_aload_n hx hb dX10_dot_23 rfl (lv_at hl 2 rfl) ?_
  refine va_get (D := (dC, dI)) (ci := 10) (v := .ref (h 17)) (C := RX10) (T := TX10) (N := 28) hx hb hts hinX10 hown hK hP 0 rfl rfl 17 (by decide) (hts (.fieldLink RX10 41 "MixedWordsModel" "cols" "[I") (by decide +kernel)) (fun _ h9 => h9) rfl dX10_dot_24 ?_
  refine lv_iconst (v := nI 5) hx hb dX10_dot_27 (by decide) ?_
  refine lv_iload_n hx hb dX10_dot_28 rfl (lv_at hl 4 rfl) ?_
  refine lv_imul hx hb dX10_dot_29 ?_
  refine xt_i (y := nI 5) (by decide +kernel) ?_
  refine lv_iload hx hb dX10_dot_30 (lv_at hl 0 rfl) ?_
  refine lv_iadd hx hb dX10_dot_32 ?_
  refine xt_i (y := nI 6) (by decide +kernel) ?_
  refine xa_iald hx hb hK hP 8 0 rfl rfl (by omega) (by decide) dX10_dot_33 ?_
  refine xt_i (y := nI 0) (by decide +kernel) ?_
  refine lv_imul hx hb dX10_dot_34 ?_
  refine xt_i (y := nI 0) (by decide +kernel) ?_
  refine lv_iadd hx hb dX10_dot_35 ?_
  refine xt_i (y := nI 0) (by decide +kernel) ?_
  refine lv_istore_n (lv' := [(3, .int (nI 0)), (4, .int (nI 1)), (0, .ref (h 0)), (1, .int (nI 1)), (2, .int (nI 1))]) hx hb dX10_dot_36 rfl hl (by decide) rfl (fun ls hl => ?_)
  refine lv_iinc (v := nI 2) (lv' := [(4, .int (nI 2)), (3, .int (nI 0)), (0, .ref (h 0)), (1, .int (nI 1)), (2, .int (nI 1))]) hx hb dX10_dot_37 hl (k := 1) rfl (by decide +kernel) (by decide) rfl (fun ls hl => ?_)
  refine lv_goto (tgt := 5) hx hb dX10_dot_40 (by decide) ?_
  refine lv_iload hx hb dX10_dot_5 (lv_at hl 0 rfl) ?_
  refine lv_iconst (v := nI 5) hx hb dX10_dot_7 (by decide) ?_
  refine lv_icmp_ge (tgt := 43) hx hb dX10_dot_8 (by decide) (fun c9 => False.elim (by revert c9; decide +kernel)) (fun _ => ?_)
  refine lv_iload_n hx hb dX10_dot_11 rfl (lv_at hl 1 rfl) ?_
  refine lv_aload_n hx hb dX10_dot_12 rfl (lv_at hl 2 rfl) ?_
  refine va_get (D := (dC, dI)) (ci := 10) (v := .ref (h 17)) (C := RX10) (T := TX10) (N := 28) hx hb hts hinX10 hown hK hP 0 rfl rfl 17 (by decide) (hts (.fieldLink RX10 41 "MixedWordsModel" "cols" "[I") (by decide +kernel)) (fun _ h9 => h9) rfl dX10_dot_13 ?_
  refine lv_iconst (v := nI 5) hx hb dX10_dot_16 (by decide) ?_
  refine lv_iload_n hx hb dX10_dot_17 rfl (lv_at hl 3 rfl) ?_
  refine lv_imul hx hb dX10_dot_18 ?_
  refine xt_i (y := nI 5) (by decide +kernel) ?_
  refine lv_iload hx hb dX10_dot_19 (lv_at hl 0 rfl) ?_
  refine lv_iadd hx hb dX10_dot_21 ?_
  refine xt_i (y := nI 7) (by decide +kernel) ?_
  refine xa_iald hx hb hK hP 8 0 rfl rfl (by omega) (by decide) dX10_dot_22 ?_
  refine xt_i (y := nI 0) (by decide +kernel) ?_
  refine lv_aload_n hx hb dX10_dot_23 rfl (lv_at hl 2 rfl) ?_
  refine va_get (D := (dC, dI)) (ci := 10) (v := .ref (h 17)) (C := RX10) (T := TX10) (N := 28) hx hb hts hinX10 hown hK hP 0 rfl rfl 17 (by decide) (hts (.fieldLink RX10 41 "MixedWordsModel" "cols" "[I") (by decide +kernel)) (fun _ h9 => h9) rfl dX10_dot_24 ?_
  refine lv_iconst (v := nI 5) hx hb dX10_dot_27 (by decide) ?_
  refine lv_iload_n hx hb dX10_dot_28 rfl (lv_at hl 4 rfl) ?_
  refine lv_imul hx hb dX10_dot_29 ?_
  refine xt_i (y := nI 5) (by decide +kernel) ?_
  refine lv_iload hx hb dX10_dot_30 (lv_at hl 0 rfl) ?_
  refine lv_iadd hx hb dX10_dot_32 ?_
  refine xt_i (y := nI 7) (by decide +kernel) ?_
  refine xa_iald hx hb hK hP 8 0 rfl rfl (by omega) (by decide) dX10_dot_33 ?_
  refine xt_i (y := nI 0) (by decide +kernel) ?_
  refine lv_imul hx hb dX10_dot_34 ?_
  refine xt_i (y := nI 0) (by decide +kernel) ?_
  refine lv_iadd hx hb dX10_dot_35 ?_
  refine xt_i (y := nI 0) (by decide +kernel) ?_
  refine lv_istore_n (lv' := [(3, .int (nI 0)), (4, .int (nI 2)), (0, .ref (h 0)), (1, .int (nI 1)), (2, .int (nI 1))]) hx hb dX10_dot_36 rfl hl (by decide) rfl (fun ls hl => ?_)
  refine lv_iinc (v := nI 3) (lv' := [(4, .int (nI 3)), (3, .int (nI 0)), (0, .ref (h 0)), (1, .int (nI 1)), (2, .int (nI 1))]) hx hb dX10_dot_37 hl (k := 1) rfl (by decide +kernel) (by decide) rfl (fun ls hl => ?_)
  refine lv_goto (tgt := 5) hx hb dX10_dot_40 (by decide) ?_
  refine lv_iload hx hb dX10_dot_5 (lv_at hl 0 rfl) ?_
  refine lv_iconst (v := nI 5) hx hb dX10_dot_7 (by decide) ?_
  refine lv_icmp_ge (tgt := 43) hx hb dX10_dot_8 (by decide) (fun c9 => False.elim (by revert c9; decide +kernel)) (fun _ => ?_)
  refine lv_iload_n hx hb dX10_dot_11 rfl (lv_at hl 1 rfl) ?_
  refine lv_aload_n hx hb dX10_dot_12 rfl (lv_at hl 2 rfl) ?_
  refine va_get (D := (dC, dI)) (ci := 10) (v := .ref (h 17)) (C := RX10) (T := TX10) (N := 28) hx hb hts hinX10 hown hK hP 0 rfl rfl 17 (by decide) (hts (.fieldLink RX10 41 "MixedWordsModel" "cols" "[I") (by decide +kernel)) (fun _ h9 => h9) rfl dX10_dot_13 ?_
  refine lv_iconst (v := nI 5) hx hb dX10_dot_16 (by decide) ?_
  refine lv_iload_n hx hb dX10_dot_17 rfl (lv_at hl 3 rfl) ?_
  refine lv_imul hx hb dX10_dot_18 ?_
  refine xt_i (y := nI 5) (by decide +kernel) ?_
  refine lv_iload hx hb dX10_dot_19 (lv_at hl 0 rfl) ?_
  refine lv_iadd hx hb dX10_dot_21 ?_
  refine xt_i (y := nI 8) (by decide +kernel) ?_
  refine xa_iald hx hb hK hP 8 0 rfl rfl (by omega) (by decide) dX10_dot_22 ?_
  refine xt_i (y := nI 0) (by decide +kernel) ?_
  refine lv_aload_n hx hb dX10_dot_23 rfl (lv_at hl 2 rfl) ?_
  refine va_get (D := (dC, dI)) (ci := 10) (v := .ref (h 17)) (C := RX10) (T := TX10) (N := 28) hx hb hts hinX10 hown hK hP 0 rfl rfl 17 (by decide) (hts (.fieldLink RX10 41 "MixedWordsModel" "cols" "[I") (by decide +kernel)) (fun _ h9 => h9) rfl dX10_dot_24 ?_
  refine lv_iconst (v := nI 5) hx hb dX10_dot_27 (by decide) ?_
  refine lv_iload_n hx hb dX10_dot_28 rfl (lv_at hl 4 rfl) ?_
  refine lv_imul hx hb dX10_dot_29 ?_
  refine xt_i (y := nI 5) (by decide +kernel) ?_
  refine lv_iload hx hb dX10_dot_30 (lv_at hl 0 rfl) ?_
  refine lv_iadd hx hb dX10_dot_32 ?_
  refine xt_i (y := nI 8) (by decide +kernel) ?_
  refine xa_iald hx hb hK hP 8 0 rfl rfl (by omega) (by decide) dX10_dot_33 ?_
  refine xt_i (y := nI 0) (by decide +kernel) ?_
  refine lv_imul hx hb dX10_dot_34 ?_
  refine xt_i (y := nI 0) (by decide +kernel) ?_
  refine lv_iadd hx hb dX10_dot_35 ?_
  refine xt_i (y := nI 0) (by decide +kernel) ?_
  refine lv_istore_n (lv' := [(3, .int (nI 0)), (4, .int (nI 3)), (0, .ref (h 0)), (1, .int (nI 1)), (2, .int (nI 1))]) hx hb dX10_dot_36 rfl hl (by decide) rfl (fun ls hl => ?_)
  refine lv_iinc (v := nI 4) (lv' := [(4, .int (nI 4)), (3, .int (nI 0)), (0, .ref (h 0)), (1, .int (nI 1)), (2, .int (nI 1))]) hx hb dX10_dot_37 hl (k := 1) rfl (by decide +kernel) (by decide) rfl (fun ls hl => ?_)
  refine lv_goto (tgt := 5) hx hb dX10_dot_40 (by decide) ?_
  refine lv_iload hx hb dX10_dot_5 (lv_at hl 0 rfl) ?_
  refine lv_iconst (v := nI 5) hx hb dX10_dot_7 (by decide) ?_
  refine lv_icmp_ge (tgt := 43) hx hb dX10_dot_8 (by decide) (fun c9 => False.elim (by revert c9; decide +kernel)) (fun _ => ?_)
  refine lv_iload_n hx hb dX10_dot_11 rfl (lv_at hl 1 rfl) ?_
  refine lv_aload_n hx hb dX10_dot_12 rfl (lv_at hl 2 rfl) ?_
  refine va_get (D := (dC, dI)) (ci := 10) (v := .ref (h 17)) (C := RX10) (T := TX10) (N := 28) hx hb hts hinX10 hown hK hP 0 rfl rfl 17 (by decide) (hts (.fieldLink RX10 41 "MixedWordsModel" "cols" "[I") (by decide +kernel)) (fun _ h9 => h9) rfl dX10_dot_13 ?_
  refine lv_iconst (v := nI 5) hx hb dX10_dot_16 (by decide) ?_
  refine lv_iload_n hx hb dX10_dot_17 rfl (lv_at hl 3 rfl) ?_
  refine lv_imul hx hb dX10_dot_18 ?_
  refine xt_i (y := nI 5) (by decide +kernel) ?_
  refine lv_iload hx hb dX10_dot_19 (lv_at hl 0 rfl) ?_
  refine lv_iadd hx hb dX10_dot_21 ?_
  refine xt_i (y := nI 9) (by decide +kernel) ?_
  refine xa_iald hx hb hK hP 8 0 rfl rfl (by omega) (by decide) dX10_dot_22 ?_
  refine xt_i (y := nI 0) (by decide +kernel) ?_
  refine lv_aload_n hx hb dX10_dot_23 rfl (lv_at hl 2 rfl) ?_
  refine va_get (D := (dC, dI)) (ci := 10) (v := .ref (h 17)) (C := RX10) (T := TX10) (N := 28) hx hb hts hinX10 hown hK hP 0 rfl rfl 17 (by decide) (hts (.fieldLink RX10 41 "MixedWordsModel" "cols" "[I") (by decide +kernel)) (fun _ h9 => h9) rfl dX10_dot_24 ?_
  refine lv_iconst (v := nI 5) hx hb dX10_dot_27 (by decide) ?_
  refine lv_iload_n hx hb dX10_dot_28 rfl (lv_at hl 4 rfl) ?_
  refine lv_imul hx hb dX10_dot_29 ?_
  refine xt_i (y := nI 5) (by decide +kernel) ?_
  refine lv_iload hx hb dX10_dot_30 (lv_at hl 0 rfl) ?_
  refine lv_iadd hx hb dX10_dot_32 ?_
  refine xt_i (y := nI 9) (by decide +kernel) ?_
  refine xa_iald hx hb hK hP 8 0 rfl rfl (by omega) (by decide) dX10_dot_33 ?_
  refine xt_i (y := nI 0) (by decide +kernel) ?_
  refine lv_imul hx hb dX10_dot_34 ?_
  refine xt_i (y := nI 0) (by decide +kernel) ?_
  refine lv_iadd hx hb dX10_dot_35 ?_
  refine xt_i (y := nI 0) (by decide +kernel) ?_
  refine lv_istore_n (lv' := [(3, .int (nI 0)), (4, .int (nI 4)), (0, .ref (h 0)), (1, .int (nI 1)), (2, .int (nI 1))]) hx hb dX10_dot_36 rfl hl (by decide) rfl (fun ls hl => ?_)
  refine lv_iinc (v := nI 5) (lv' := [(4, .int (nI 5)), (3, .int (nI 0)), (0, .ref (h 0)), (1, .int (nI 1)), (2, .int (nI 1))]) hx hb dX10_dot_37 hl (k := 1) rfl (by decide +kernel) (by decide) rfl (fun ls hl => ?_)
  refine lv_goto (tgt := 5) hx hb dX10_dot_40 (by decide) ?_
  refine lv_iload hx hb dX10_dot_5 (lv_at hl 0 rfl) ?_
  refine lv_iconst (v := nI 5) hx hb dX10_dot_7 (by decide) ?_
  refine lv_icmp_ge (tgt := 43) hx hb dX10_dot_8 (by decide) (fun _ => ?_) (fun c9 => False.elim (by revert c9; decide +kernel))
  refine lv_iload_n hx hb dX10_dot_43 rfl (lv_at hl 1 rfl) ?_
  exact xr_i (v := (nI 0)) hx hb hr hlocks hK hS dX10_dot_44 (gI, gL, qA_233, gQ) ⟨rfl, rfl⟩ hP hD
def qA_236 : Nat → Nat → Int32 := (va_up qA_233 23 (upd (qA_233 23) 1 (-1)))
set_option maxHeartbeats 4000000 in
set_option maxRecDepth 100000 in
theorem a_X10_numberOf_237 (l : Launch) (dC : Nat → ClassId) (dI : Nat → Nat → Nat) (h : Nat → Nat) (cs : Nat → ClassId) (sz : Nat) (I : Nat → Int32) (L : Nat → Int64) (A : Nat → Nat → Int32) (Q : Nat → Nat → Int64) : Met l yX10_numberOf wsX10_numberOf ({ frames := 0, cells := 0, slots := 0, locals := 0 }) (va_Pc [.ref (h 0), .ref (h 23)] (xPre (dC, dI) (wD_177 h cs gI gL qA_236 gQ) (tysA cs) sz)) (va_Qi (fun (r : Int32) (u : RS) => (r = nI 0) ∧ u = (gI, gL, qA_236, gQ)) (xB (dC, dI) (tysA cs) (va_A (wD_177 h cs gI gL qA_236 gQ) sz) (fun u : RS => wD_177 h cs u.1 u.2.1 u.2.2.1 u.2.2.2)) (va_A (wD_177 h cs gI gL qA_236 gQ) sz)) 0 0 (va_A (wD_177 h cs gI gL qA_236 gQ) sz) := by
  refine Met.ofW (cc := cX10_numberOf) (maxL := 4) (ret := (some .int)) (by decide) rfl ?_
  intro p e s m args below meth c s₁ B hml hv
  obtain ⟨rfl, hsz, hP, hK, hD0, hN⟩ := hv
  have hx := B.exec
  have hb := B.bytes
  have hr := B.returns
  have hts := atoms_spec (ws := wsX10_numberOf) B.pre
  have hown : s.vm.findClass RX10 = some m.cls := findClass_of_methodNamed B.named
  have hlocks := B.notSynchronized
  subst hsz
  have hD := hD0.self (sz := s.heap.size)
  generalize hAe : va_A (wD_177 h cs gI gL qA_236 gQ) s.heap.size = A0 at hD ⊢
  have hA : ∀ q : Nat, s.heap.size ≤ q → A0 q := fun q h => by rw [← hAe]; exact Or.inr h
  have hl := lv_entry ([.ref (h 0), .ref (h 23)]) (n := 4) (Nat.le_of_ble_eq_true rfl)
  rw [lg_entry_eq]
  generalize (lg_sl ([.ref (h 0), .ref (h 23)]) ++ List.replicate (4 - (lg_sl ([.ref (h 0), .ref (h 23)])).length) Slot.unset).toArray = ls at hl ⊢
  have hl : lv_has ls 4 [(0, .ref (h 0)), (1, .ref (h 23))] := hl
  generalize hH : s.heap = H at hP ⊢
  have hS : va_S A0 s.heap H [] := by rw [← hH]; exact va_S.rf
  have hinX10 : ∀ w ∈ wsX100, w ∈ wsX10_numberOf := by decide +kernel
  refine lv_iconst (v := nI 0) hx hb dX10_numberOf_0 (by decide) ?_
  refine lv_istore_n (lv' := [(2, .int (nI 0)), (0, .ref (h 0)), (1, .ref (h 23))]) hx hb dX10_numberOf_1 rfl hl (by decide) rfl (fun ls hl => ?_)
  refine lv_iconst (v := nI 0) hx hb dX10_numberOf_2 (by decide) ?_
  refine lv_istore_n (lv' := [(3, .int (nI 0)), (2, .int (nI 0)), (0, .ref (h 0)), (1, .ref (h 23))]) hx hb dX10_numberOf_3 rfl hl (by decide) rfl (fun ls hl => ?_)
  refine lv_iload_n hx hb dX10_numberOf_4 rfl (lv_at hl 0 rfl) ?_
  refine lv_aload_n hx hb dX10_numberOf_5 rfl (lv_at hl 2 rfl) ?_
  refine va_get (D := (dC, dI)) (ci := 10) (v := .int (gI 1)) (C := RX10) (T := TX10) (N := 28) hx hb hts hinX10 hown hK hP 0 rfl rfl 1 (by decide) (hts (.fieldLink RX10 13 "MixedWordsModel" "columns" "I") (by decide +kernel)) (fun _ h9 => h9) rfl dX10_numberOf_6 ?_
  refine xt_i (y := nI 2) (by decide +kernel) ?_
  refine lv_icmp_ge (tgt := 38) hx hb dX10_numberOf_9 (by decide) (fun c9 => False.elim (by revert c9; decide +kernel)) (fun _ => ?_)
  refine lv_iload_n hx hb dX10_numberOf_12 rfl (lv_at hl 1 rfl) ?_
  refine lv_aload_n hx hb dX10_numberOf_13 rfl (lv_at hl 2 rfl) ?_
  refine va_get (D := (dC, dI)) (ci := 10) (v := .int (gI 2)) (C := RX10) (T := TX10) (N := 28) hx hb hts hinX10 hown hK hP 0 rfl rfl 2 (by decide) (hts (.fieldLink RX10 16 "MixedWordsModel" "a" "I") (by decide +kernel)) (fun _ h9 => h9) rfl dX10_numberOf_14 ?_
  refine xt_i (y := nI 2) (by decide +kernel) ?_
  refine lv_imul hx hb dX10_numberOf_17 ?_
  refine xt_i (y := nI 0) (by decide +kernel) ?_
  refine lv_aload_n hx hb dX10_numberOf_18 rfl (lv_at hl 3 rfl) ?_
  refine lv_iload_n hx hb dX10_numberOf_19 rfl (lv_at hl 0 rfl) ?_
  refine xa_iald hx hb hK hP 12 0 rfl rfl (by omega) (by decide) dX10_numberOf_20 ?_
  refine xt_i (y := (-1 : Int32)) (by decide +kernel) ?_
  refine lv_aload_n hx hb dX10_numberOf_21 rfl (lv_at hl 2 rfl) ?_
  refine va_get (D := (dC, dI)) (ci := 10) (v := .int (gI 2)) (C := RX10) (T := TX10) (N := 28) hx hb hts hinX10 hown hK hP 0 rfl rfl 2 (by decide) (hts (.fieldLink RX10 16 "MixedWordsModel" "a" "I") (by decide +kernel)) (fun _ h9 => h9) rfl dX10_numberOf_22 ?_
  refine xt_i (y := nI 2) (by decide +kernel) ?_
  refine lv_iadd hx hb dX10_numberOf_25 ?_
  refine xt_i (y := nI 1) (by decide +kernel) ?_
  refine lv_iconst (v := nI 1) hx hb dX10_numberOf_26 (by decide) ?_
  refine lv_isub hx hb dX10_numberOf_27 ?_
  refine xt_i (y := nI 0) (by decide +kernel) ?_
  refine lv_iconst (v := nI 2) hx hb dX10_numberOf_28 (by decide) ?_
  refine lv_idiv hx hb dX10_numberOf_29 (by decide +kernel) ?_
  refine xt_i (y := nI 0) (by decide +kernel) ?_
  refine lv_iadd hx hb dX10_numberOf_30 ?_
  refine xt_i (y := nI 0) (by decide +kernel) ?_
  refine lv_istore_n (lv' := [(2, .int (nI 0)), (3, .int (nI 0)), (0, .ref (h 0)), (1, .ref (h 23))]) hx hb dX10_numberOf_31 rfl hl (by decide) rfl (fun ls hl => ?_)
  refine lv_iinc (v := nI 1) (lv' := [(3, .int (nI 1)), (2, .int (nI 0)), (0, .ref (h 0)), (1, .ref (h 23))]) hx hb dX10_numberOf_32 hl (k := 1) rfl (by decide +kernel) (by decide) rfl (fun ls hl => ?_)
  refine lv_goto (tgt := 4) hx hb dX10_numberOf_35 (by decide) ?_
  refine lv_iload_n hx hb dX10_numberOf_4 rfl (lv_at hl 0 rfl) ?_
  refine lv_aload_n hx hb dX10_numberOf_5 rfl (lv_at hl 2 rfl) ?_
  refine va_get (D := (dC, dI)) (ci := 10) (v := .int (gI 1)) (C := RX10) (T := TX10) (N := 28) hx hb hts hinX10 hown hK hP 0 rfl rfl 1 (by decide) (hts (.fieldLink RX10 13 "MixedWordsModel" "columns" "I") (by decide +kernel)) (fun _ h9 => h9) rfl dX10_numberOf_6 ?_
  refine xt_i (y := nI 2) (by decide +kernel) ?_
  refine lv_icmp_ge (tgt := 38) hx hb dX10_numberOf_9 (by decide) (fun c9 => False.elim (by revert c9; decide +kernel)) (fun _ => ?_)
  refine lv_iload_n hx hb dX10_numberOf_12 rfl (lv_at hl 1 rfl) ?_
  refine lv_aload_n hx hb dX10_numberOf_13 rfl (lv_at hl 2 rfl) ?_
  refine va_get (D := (dC, dI)) (ci := 10) (v := .int (gI 2)) (C := RX10) (T := TX10) (N := 28) hx hb hts hinX10 hown hK hP 0 rfl rfl 2 (by decide) (hts (.fieldLink RX10 16 "MixedWordsModel" "a" "I") (by decide +kernel)) (fun _ h9 => h9) rfl dX10_numberOf_14 ?_
  refine xt_i (y := nI 2) (by decide +kernel) ?_
  refine lv_imul hx hb dX10_numberOf_17 ?_
  refine xt_i (y := nI 0) (by decide +kernel) ?_
  refine lv_aload_n hx hb dX10_numberOf_18 rfl (lv_at hl 3 rfl) ?_
  refine lv_iload_n hx hb dX10_numberOf_19 rfl (lv_at hl 0 rfl) ?_
  refine xa_iald hx hb hK hP 12 0 rfl rfl (by omega) (by decide) dX10_numberOf_20 ?_
  refine xt_i (y := (-1 : Int32)) (by decide +kernel) ?_
  refine lv_aload_n hx hb dX10_numberOf_21 rfl (lv_at hl 2 rfl) ?_
  refine va_get (D := (dC, dI)) (ci := 10) (v := .int (gI 2)) (C := RX10) (T := TX10) (N := 28) hx hb hts hinX10 hown hK hP 0 rfl rfl 2 (by decide) (hts (.fieldLink RX10 16 "MixedWordsModel" "a" "I") (by decide +kernel)) (fun _ h9 => h9) rfl dX10_numberOf_22 ?_
  refine xt_i (y := nI 2) (by decide +kernel) ?_
  refine lv_iadd hx hb dX10_numberOf_25 ?_
  refine xt_i (y := nI 1) (by decide +kernel) ?_
  refine lv_iconst (v := nI 1) hx hb dX10_numberOf_26 (by decide) ?_
  refine lv_isub hx hb dX10_numberOf_27 ?_
  refine xt_i (y := nI 0) (by decide +kernel) ?_
  refine lv_iconst (v := nI 2) hx hb dX10_numberOf_28 (by decide) ?_
  refine lv_idiv hx hb dX10_numberOf_29 (by decide +kernel) ?_
  refine xt_i (y := nI 0) (by decide +kernel) ?_
  refine lv_iadd hx hb dX10_numberOf_30 ?_
  refine xt_i (y := nI 0) (by decide +kernel) ?_
  refine lv_istore_n (lv' := [(2, .int (nI 0)), (3, .int (nI 1)), (0, .ref (h 0)), (1, .ref (h 23))]) hx hb dX10_numberOf_31 rfl hl (by decide) rfl (fun ls hl => ?_)
  refine lv_iinc (v := nI 2) (lv' := [(3, .int (nI 2)), (2, .int (nI 0)), (0, .ref (h 0)), (1, .ref (h 23))]) hx hb dX10_numberOf_32 hl (k := 1) rfl (by decide +kernel) (by decide) rfl (fun ls hl => ?_)
  refine lv_goto (tgt := 4) hx hb dX10_numberOf_35 (by decide) ?_
  refine lv_iload_n hx hb dX10_numberOf_4 rfl (lv_at hl 0 rfl) ?_
  refine lv_aload_n hx hb dX10_numberOf_5 rfl (lv_at hl 2 rfl) ?_
  refine va_get (D := (dC, dI)) (ci := 10) (v := .int (gI 1)) (C := RX10) (T := TX10) (N := 28) hx hb hts hinX10 hown hK hP 0 rfl rfl 1 (by decide) (hts (.fieldLink RX10 13 "MixedWordsModel" "columns" "I") (by decide +kernel)) (fun _ h9 => h9) rfl dX10_numberOf_6 ?_
  refine xt_i (y := nI 2) (by decide +kernel) ?_
  refine lv_icmp_ge (tgt := 38) hx hb dX10_numberOf_9 (by decide) (fun _ => ?_) (fun c9 => False.elim (by revert c9; decide +kernel))
  refine lv_iload_n hx hb dX10_numberOf_38 rfl (lv_at hl 1 rfl) ?_
  exact xr_i (v := (nI 0)) hx hb hr hlocks hK hS dX10_numberOf_39 (gI, gL, qA_236, gQ) ⟨rfl, rfl⟩ hP hD
set_option maxHeartbeats 4000000 in
set_option maxRecDepth 100000 in
theorem f_X10_taken (l : Launch) (dC : Nat → ClassId) (dI : Nat → Nat → Nat) (h : Nat → Nat) (cs : Nat → ClassId) (sz : Nat) (I : Nat → Int32) (L : Nat → Int64) (A : Nat → Nat → Int32) (Q : Nat → Nat → Int64) : Met l yX10_taken wsX10_taken ({ frames := 2, cells := 0, slots := 0, locals := 48 }) (va_Pc [.ref (h 0)] (xPre (dC, dI) (rW h cs gI gL gA gQ) (tysA cs) sz)) (va_Qi (fun (r : Int32) (u : RS) => (r = nI 0) ∧ u = (gI, gL, qA_236, gQ)) (xB (dC, dI) (tysA cs) (va_A (rW h cs gI gL gA gQ) sz) (fun u : RS => rW h cs u.1 u.2.1 u.2.2.1 u.2.2.2)) (va_A (rW h cs gI gL gA gQ) sz)) 0 0 (va_A (rW h cs gI gL gA gQ) sz) := by
  refine Met.ofW (cc := cX10_taken) (maxL := 7) (ret := (some .int)) (by decide) rfl ?_
  intro p e s m args below meth c s₁ B hml hv
  obtain ⟨rfl, hsz, hP, hK, hD0, hN⟩ := hv
  have hx := B.exec
  have hb := B.bytes
  have hr := B.returns
  have hts := atoms_spec (ws := wsX10_taken) B.pre
  have hown : s.vm.findClass RX10 = some m.cls := findClass_of_methodNamed B.named
  have hlocks := B.notSynchronized
  subst hsz
  have hD := hD0.self (sz := s.heap.size)
  generalize hAe : va_A (rW h cs gI gL gA gQ) s.heap.size = A0 at hD ⊢
  have hA : ∀ q : Nat, s.heap.size ≤ q → A0 q := fun q h => by rw [← hAe]; exact Or.inr h
  have hl := lv_entry ([.ref (h 0)]) (n := 7) (Nat.le_of_ble_eq_true rfl)
  rw [lg_entry_eq]
  generalize (lg_sl ([.ref (h 0)]) ++ List.replicate (7 - (lg_sl ([.ref (h 0)])).length) Slot.unset).toArray = ls at hl ⊢
  have hl : lv_has ls 7 [(0, .ref (h 0))] := hl
  generalize hH : s.heap = H at hP ⊢
  have hS : va_S A0 s.heap H [] := by rw [← hH]; exact va_S.rf
  have hinX10 : ∀ w ∈ wsX100, w ∈ wsX10_taken := by decide +kernel
  refine lv_aload_n hx hb dX10_taken_0 rfl (lv_at hl 0 rfl) ?_
  refine xj_v (wc := (wD_177 h cs gI gL gA gQ)) (wr := ([] : va_W)) hP hD hS hA [0, 1, 2, 3, 4, 5, 6, 7, 8, 9, 10, 11, 12, 13, 14, 15, 16] [] rfl rfl (by decide) (by decide) (va_runV (As := []) (rest := []) ⟨hx, hb, hml, hown, hts⟩ (a_X10_lay_209 l dC dI h cs H.size gI gL gA gQ ) (cwV 0 hts gX10_taken_X10_lay rfl rfl rfl (by decide +kernel) ⟨Nat.le_of_ble_eq_true rfl, Nat.le_of_ble_eq_true rfl⟩) (xpV (wc := (wD_177 h cs gI gL gA gQ)) hP hD hK hN [0, 1, 2, 3, 4, 5, 6, 7, 8, 9, 10, 11, 12, 13, 14, 15, 16] rfl (by decide) 0 (ci := 10) rfl rfl _) rfl rfl hl.1 rfl (lv_room (Nat.le_of_ble_eq_true rfl)) dX10_taken_1 ⟨Nat.zero_le _, Nat.zero_le _⟩) (fun u_1 H locs hw hP hD hS => ?_)
  obtain ⟨hf_3, rfl⟩ := hw
  have hP : va_P (dC, dI) vwCl (rW h cs gI gL qA_210 gQ) H := hP
  have hD : va_D A0 (rW h cs gI gL qA_210 gQ) := hD
  refine lv_aload_n hx hb dX10_taken_4 rfl (lv_at hl 0 rfl) ?_
  refine xj_v (wc := (wD_177 h cs gI gL qA_210 gQ)) (wr := ([] : va_W)) hP hD hS hA [0, 1, 2, 3, 4, 5, 6, 7, 8, 9, 10, 11, 12, 13, 14, 15, 16] [] rfl rfl (by decide) (by decide) (va_runV (As := []) (rest := []) ⟨hx, hb, hml, hown, hts⟩ (a_X10_meetHeard_232 l dC dI h cs H.size gI gL qA_210 gQ ) (cwV 0 hts gX10_taken_X10_meetHeard rfl rfl rfl (by decide +kernel) ⟨Nat.le_of_ble_eq_true rfl, Nat.le_of_ble_eq_true rfl⟩) (xpV (wc := (wD_177 h cs gI gL qA_210 gQ)) hP hD hK hN [0, 1, 2, 3, 4, 5, 6, 7, 8, 9, 10, 11, 12, 13, 14, 15, 16] rfl (by decide) 0 (ci := 10) rfl rfl _) rfl rfl hl.1 rfl (lv_room (Nat.le_of_ble_eq_true rfl)) dX10_taken_5 ⟨Nat.zero_le _, Nat.zero_le _⟩) (fun u_4 H locs hw hP hD hS => ?_)
  obtain ⟨hf_6, rfl⟩ := hw
  have hP : va_P (dC, dI) vwCl (rW h cs gI gL qA_210 gQ) H := hP
  have hD : va_D A0 (rW h cs gI gL qA_210 gQ) := hD
  refine lv_iconst (v := nI 0) hx hb dX10_taken_8 (by decide) ?_
  refine lv_istore_n (lv' := [(1, .int (nI 0)), (0, .ref (h 0))]) hx hb dX10_taken_9 rfl hl (by decide) rfl (fun ls hl => ?_)
  refine lv_iconst (v := nI 0) hx hb dX10_taken_10 (by decide) ?_
  refine lv_istore_n (lv' := [(2, .int (nI 0)), (1, .int (nI 0)), (0, .ref (h 0))]) hx hb dX10_taken_11 rfl hl (by decide) rfl (fun ls hl => ?_)
  refine lv_iload_n hx hb dX10_taken_12 rfl (lv_at hl 0 rfl) ?_
  refine lv_aload_n hx hb dX10_taken_13 rfl (lv_at hl 2 rfl) ?_
  refine va_get (D := (dC, dI)) (ci := 10) (v := .int (gI 1)) (C := RX10) (T := TX10) (N := 28) hx hb hts hinX10 hown hK hP 0 rfl rfl 1 (by decide) (hts (.fieldLink RX10 13 "MixedWordsModel" "columns" "I") (by decide +kernel)) (fun _ h9 => h9) rfl dX10_taken_14 ?_
  refine xt_i (y := nI 2) (by decide +kernel) ?_
  refine lv_icmp_ge (tgt := 156) hx hb dX10_taken_17 (by decide) (fun c9 => False.elim (by revert c9; decide +kernel)) (fun _ => ?_)
  refine lv_aload_n hx hb dX10_taken_20 rfl (lv_at hl 2 rfl) ?_
  refine lv_iload_n hx hb dX10_taken_21 rfl (lv_at hl 1 rfl) ?_
  refine xj_i (wc := (wD_177 h cs gI gL qA_210 gQ)) (wr := ([] : va_W)) hP hD hS hA [0, 1, 2, 3, 4, 5, 6, 7, 8, 9, 10, 11, 12, 13, 14, 15, 16] [] rfl rfl (by decide) (by decide) (va_runV (As := [.int (nI 0)]) (rest := []) ⟨hx, hb, hml, hown, hts⟩ (a_X10_nextTaken_223 l dC dI h cs H.size gI gL qA_210 gQ ) (cwV 1 hts gX10_taken_X10_nextTaken rfl rfl rfl (by decide +kernel) ⟨Nat.le_of_ble_eq_true rfl, Nat.le_of_ble_eq_true rfl⟩) (xpV (wc := (wD_177 h cs gI gL qA_210 gQ)) hP hD hK hN [0, 1, 2, 3, 4, 5, 6, 7, 8, 9, 10, 11, 12, 13, 14, 15, 16] rfl (by decide) 0 (ci := 10) rfl rfl _) rfl rfl hl.1 rfl (lv_room (Nat.le_of_ble_eq_true rfl)) dX10_taken_22 ⟨Nat.zero_le _, Nat.zero_le _⟩) (fun r_8 u_7 H locs hw hP hD hS => ?_)
  obtain ⟨hf_9, rfl⟩ := hw
  have hP : va_P (dC, dI) vwCl (rW h cs gI gL qA_210 gQ) H := hP
  have hD : va_D A0 (rW h cs gI gL qA_210 gQ) := hD
  obtain rfl := hf_9
  refine lv_istore_n (lv' := [(3, .int (nI 0)), (2, .int (nI 0)), (1, .int (nI 0)), (0, .ref (h 0))]) hx hb dX10_taken_25 rfl hl (by decide) rfl (fun ls hl => ?_)
  refine lv_iconst (v := nI 0) hx hb dX10_taken_26 (by decide) ?_
  refine lv_istore (lv' := [(4, .int (nI 0)), (3, .int (nI 0)), (2, .int (nI 0)), (1, .int (nI 0)), (0, .ref (h 0))]) hx hb dX10_taken_27 hl (by decide) rfl (fun ls hl => ?_)
  refine lv_iconst (v := nI 0) hx hb dX10_taken_29 (by decide) ?_
  refine lv_istore (lv' := [(5, .int (nI 0)), (4, .int (nI 0)), (3, .int (nI 0)), (2, .int (nI 0)), (1, .int (nI 0)), (0, .ref (h 0))]) hx hb dX10_taken_30 hl (by decide) rfl (fun ls hl => ?_)
  refine lv_iload hx hb dX10_taken_32 (lv_at hl 0 rfl) ?_
  refine lv_iconst (v := nI 5) hx hb dX10_taken_34 (by decide) ?_
  refine lv_icmp_ge (tgt := 68) hx hb dX10_taken_35 (by decide) (fun c9 => False.elim (by revert c9; decide +kernel)) (fun _ => ?_)
  refine lv_iload hx hb dX10_taken_38 (lv_at hl 1 rfl) ?_
  refine lv_aload_n hx hb dX10_taken_40 rfl (lv_at hl 5 rfl) ?_
  refine va_get (D := (dC, dI)) (ci := 10) (v := .ref (h 17)) (C := RX10) (T := TX10) (N := 28) hx hb hts hinX10 hown hK hP 0 rfl rfl 17 (by decide) (hts (.fieldLink RX10 41 "MixedWordsModel" "cols" "[I") (by decide +kernel)) (fun _ h9 => h9) rfl dX10_taken_41 ?_
  refine lv_iconst (v := nI 5) hx hb dX10_taken_44 (by decide) ?_
  refine lv_iload_n hx hb dX10_taken_45 rfl (lv_at hl 2 rfl) ?_
  refine lv_imul hx hb dX10_taken_46 ?_
  refine xt_i (y := nI 0) (by decide +kernel) ?_
  refine lv_iload hx hb dX10_taken_47 (lv_at hl 0 rfl) ?_
  refine lv_iadd hx hb dX10_taken_49 ?_
  refine xt_i (y := nI 0) (by decide +kernel) ?_
  refine xa_iald hx hb hK hP 8 0 rfl rfl (by omega) (by decide) dX10_taken_50 ?_
  refine xt_i (y := nI 0) (by decide +kernel) ?_
  refine lv_aload_n hx hb dX10_taken_51 rfl (lv_at hl 5 rfl) ?_
  refine va_get (D := (dC, dI)) (ci := 10) (v := .ref (h 20)) (C := RX10) (T := TX10) (N := 28) hx hb hts hinX10 hown hK hP 0 rfl rfl 20 (by decide) (hts (.fieldLink RX10 51 "MixedWordsModel" "met" "[I") (by decide +kernel)) (fun _ h9 => h9) rfl dX10_taken_52 ?_
  refine lv_iload hx hb dX10_taken_55 (lv_at hl 0 rfl) ?_
  refine xa_iald hx hb hK hP 11 0 rfl rfl (by omega) (by decide) dX10_taken_57 ?_
  refine xt_i (y := nI 0) (by decide +kernel) ?_
  refine lv_imul hx hb dX10_taken_58 ?_
  refine xt_i (y := nI 0) (by decide +kernel) ?_
  refine lv_iadd hx hb dX10_taken_59 ?_
  refine xt_i (y := nI 0) (by decide +kernel) ?_
  refine lv_istore (lv' := [(4, .int (nI 0)), (5, .int (nI 0)), (3, .int (nI 0)), (2, .int (nI 0)), (1, .int (nI 0)), (0, .ref (h 0))]) hx hb dX10_taken_60 hl (by decide) rfl (fun ls hl => ?_)
  refine lv_iinc (v := nI 1) (lv' := [(5, .int (nI 1)), (4, .int (nI 0)), (3, .int (nI 0)), (2, .int (nI 0)), (1, .int (nI 0)), (0, .ref (h 0))]) hx hb dX10_taken_62 hl (k := 1) rfl (by decide +kernel) (by decide) rfl (fun ls hl => ?_)
  refine lv_goto (tgt := 32) hx hb dX10_taken_65 (by decide) ?_
  refine lv_iload hx hb dX10_taken_32 (lv_at hl 0 rfl) ?_
  refine lv_iconst (v := nI 5) hx hb dX10_taken_34 (by decide) ?_
  refine lv_icmp_ge (tgt := 68) hx hb dX10_taken_35 (by decide) (fun c9 => False.elim (by revert c9; decide +kernel)) (fun _ => ?_)
  refine lv_iload hx hb dX10_taken_38 (lv_at hl 1 rfl) ?_
  refine lv_aload_n hx hb dX10_taken_40 rfl (lv_at hl 5 rfl) ?_
  refine va_get (D := (dC, dI)) (ci := 10) (v := .ref (h 17)) (C := RX10) (T := TX10) (N := 28) hx hb hts hinX10 hown hK hP 0 rfl rfl 17 (by decide) (hts (.fieldLink RX10 41 "MixedWordsModel" "cols" "[I") (by decide +kernel)) (fun _ h9 => h9) rfl dX10_taken_41 ?_
  refine lv_iconst (v := nI 5) hx hb dX10_taken_44 (by decide) ?_
  refine lv_iload_n hx hb dX10_taken_45 rfl (lv_at hl 2 rfl) ?_
  refine lv_imul hx hb dX10_taken_46 ?_
  refine xt_i (y := nI 0) (by decide +kernel) ?_
  refine lv_iload hx hb dX10_taken_47 (lv_at hl 0 rfl) ?_
  refine lv_iadd hx hb dX10_taken_49 ?_
  refine xt_i (y := nI 1) (by decide +kernel) ?_
  refine xa_iald hx hb hK hP 8 0 rfl rfl (by omega) (by decide) dX10_taken_50 ?_
  refine xt_i (y := nI 0) (by decide +kernel) ?_
  refine lv_aload_n hx hb dX10_taken_51 rfl (lv_at hl 5 rfl) ?_
  refine va_get (D := (dC, dI)) (ci := 10) (v := .ref (h 20)) (C := RX10) (T := TX10) (N := 28) hx hb hts hinX10 hown hK hP 0 rfl rfl 20 (by decide) (hts (.fieldLink RX10 51 "MixedWordsModel" "met" "[I") (by decide +kernel)) (fun _ h9 => h9) rfl dX10_taken_52 ?_
  refine lv_iload hx hb dX10_taken_55 (lv_at hl 0 rfl) ?_
  refine xa_iald hx hb hK hP 11 0 rfl rfl (by omega) (by decide) dX10_taken_57 ?_
  refine xt_i (y := nI 0) (by decide +kernel) ?_
  refine lv_imul hx hb dX10_taken_58 ?_
  refine xt_i (y := nI 0) (by decide +kernel) ?_
  refine lv_iadd hx hb dX10_taken_59 ?_
  refine xt_i (y := nI 0) (by decide +kernel) ?_
  refine lv_istore (lv' := [(4, .int (nI 0)), (5, .int (nI 1)), (3, .int (nI 0)), (2, .int (nI 0)), (1, .int (nI 0)), (0, .ref (h 0))]) hx hb dX10_taken_60 hl (by decide) rfl (fun ls hl => ?_)
  refine lv_iinc (v := nI 2) (lv' := [(5, .int (nI 2)), (4, .int (nI 0)), (3, .int (nI 0)), (2, .int (nI 0)), (1, .int (nI 0)), (0, .ref (h 0))]) hx hb dX10_taken_62 hl (k := 1) rfl (by decide +kernel) (by decide) rfl (fun ls hl => ?_)
  refine lv_goto (tgt := 32) hx hb dX10_taken_65 (by decide) ?_
  refine lv_iload hx hb dX10_taken_32 (lv_at hl 0 rfl) ?_
  refine lv_iconst (v := nI 5) hx hb dX10_taken_34 (by decide) ?_
  refine lv_icmp_ge (tgt := 68) hx hb dX10_taken_35 (by decide) (fun c9 => False.elim (by revert c9; decide +kernel)) (fun _ => ?_)
  refine lv_iload hx hb dX10_taken_38 (lv_at hl 1 rfl) ?_
  refine lv_aload_n hx hb dX10_taken_40 rfl (lv_at hl 5 rfl) ?_
  refine va_get (D := (dC, dI)) (ci := 10) (v := .ref (h 17)) (C := RX10) (T := TX10) (N := 28) hx hb hts hinX10 hown hK hP 0 rfl rfl 17 (by decide) (hts (.fieldLink RX10 41 "MixedWordsModel" "cols" "[I") (by decide +kernel)) (fun _ h9 => h9) rfl dX10_taken_41 ?_
  refine lv_iconst (v := nI 5) hx hb dX10_taken_44 (by decide) ?_
  refine lv_iload_n hx hb dX10_taken_45 rfl (lv_at hl 2 rfl) ?_
  refine lv_imul hx hb dX10_taken_46 ?_
  refine xt_i (y := nI 0) (by decide +kernel) ?_
  refine lv_iload hx hb dX10_taken_47 (lv_at hl 0 rfl) ?_
  refine lv_iadd hx hb dX10_taken_49 ?_
  refine xt_i (y := nI 2) (by decide +kernel) ?_
  refine xa_iald hx hb hK hP 8 0 rfl rfl (by omega) (by decide) dX10_taken_50 ?_
  refine xt_i (y := nI 0) (by decide +kernel) ?_
  refine lv_aload_n hx hb dX10_taken_51 rfl (lv_at hl 5 rfl) ?_
  refine va_get (D := (dC, dI)) (ci := 10) (v := .ref (h 20)) (C := RX10) (T := TX10) (N := 28) hx hb hts hinX10 hown hK hP 0 rfl rfl 20 (by decide) (hts (.fieldLink RX10 51 "MixedWordsModel" "met" "[I") (by decide +kernel)) (fun _ h9 => h9) rfl dX10_taken_52 ?_
  refine lv_iload hx hb dX10_taken_55 (lv_at hl 0 rfl) ?_
  refine xa_iald hx hb hK hP 11 0 rfl rfl (by omega) (by decide) dX10_taken_57 ?_
  refine xt_i (y := nI 0) (by decide +kernel) ?_
  refine lv_imul hx hb dX10_taken_58 ?_
  refine xt_i (y := nI 0) (by decide +kernel) ?_
  refine lv_iadd hx hb dX10_taken_59 ?_
  refine xt_i (y := nI 0) (by decide +kernel) ?_
  refine lv_istore (lv' := [(4, .int (nI 0)), (5, .int (nI 2)), (3, .int (nI 0)), (2, .int (nI 0)), (1, .int (nI 0)), (0, .ref (h 0))]) hx hb dX10_taken_60 hl (by decide) rfl (fun ls hl => ?_)
  refine lv_iinc (v := nI 3) (lv' := [(5, .int (nI 3)), (4, .int (nI 0)), (3, .int (nI 0)), (2, .int (nI 0)), (1, .int (nI 0)), (0, .ref (h 0))]) hx hb dX10_taken_62 hl (k := 1) rfl (by decide +kernel) (by decide) rfl (fun ls hl => ?_)
  refine lv_goto (tgt := 32) hx hb dX10_taken_65 (by decide) ?_
  refine lv_iload hx hb dX10_taken_32 (lv_at hl 0 rfl) ?_
  refine lv_iconst (v := nI 5) hx hb dX10_taken_34 (by decide) ?_
  refine lv_icmp_ge (tgt := 68) hx hb dX10_taken_35 (by decide) (fun c9 => False.elim (by revert c9; decide +kernel)) (fun _ => ?_)
  refine lv_iload hx hb dX10_taken_38 (lv_at hl 1 rfl) ?_
  refine lv_aload_n hx hb dX10_taken_40 rfl (lv_at hl 5 rfl) ?_
  refine va_get (D := (dC, dI)) (ci := 10) (v := .ref (h 17)) (C := RX10) (T := TX10) (N := 28) hx hb hts hinX10 hown hK hP 0 rfl rfl 17 (by decide) (hts (.fieldLink RX10 41 "MixedWordsModel" "cols" "[I") (by decide +kernel)) (fun _ h9 => h9) rfl dX10_taken_41 ?_
  refine lv_iconst (v := nI 5) hx hb dX10_taken_44 (by decide) ?_
  refine lv_iload_n hx hb dX10_taken_45 rfl (lv_at hl 2 rfl) ?_
  refine lv_imul hx hb dX10_taken_46 ?_
  refine xt_i (y := nI 0) (by decide +kernel) ?_
  refine lv_iload hx hb dX10_taken_47 (lv_at hl 0 rfl) ?_
  refine lv_iadd hx hb dX10_taken_49 ?_
  refine xt_i (y := nI 3) (by decide +kernel) ?_
  refine xa_iald hx hb hK hP 8 0 rfl rfl (by omega) (by decide) dX10_taken_50 ?_
  refine xt_i (y := nI 0) (by decide +kernel) ?_
  refine lv_aload_n hx hb dX10_taken_51 rfl (lv_at hl 5 rfl) ?_
  refine va_get (D := (dC, dI)) (ci := 10) (v := .ref (h 20)) (C := RX10) (T := TX10) (N := 28) hx hb hts hinX10 hown hK hP 0 rfl rfl 20 (by decide) (hts (.fieldLink RX10 51 "MixedWordsModel" "met" "[I") (by decide +kernel)) (fun _ h9 => h9) rfl dX10_taken_52 ?_
  refine lv_iload hx hb dX10_taken_55 (lv_at hl 0 rfl) ?_
  refine xa_iald hx hb hK hP 11 0 rfl rfl (by omega) (by decide) dX10_taken_57 ?_
  refine xt_i (y := nI 0) (by decide +kernel) ?_
  refine lv_imul hx hb dX10_taken_58 ?_
  refine xt_i (y := nI 0) (by decide +kernel) ?_
  refine lv_iadd hx hb dX10_taken_59 ?_
  refine xt_i (y := nI 0) (by decide +kernel) ?_
  refine lv_istore (lv' := [(4, .int (nI 0)), (5, .int (nI 3)), (3, .int (nI 0)), (2, .int (nI 0)), (1, .int (nI 0)), (0, .ref (h 0))]) hx hb dX10_taken_60 hl (by decide) rfl (fun ls hl => ?_)
  refine lv_iinc (v := nI 4) (lv' := [(5, .int (nI 4)), (4, .int (nI 0)), (3, .int (nI 0)), (2, .int (nI 0)), (1, .int (nI 0)), (0, .ref (h 0))]) hx hb dX10_taken_62 hl (k := 1) rfl (by decide +kernel) (by decide) rfl (fun ls hl => ?_)
  refine lv_goto (tgt := 32) hx hb dX10_taken_65 (by decide) ?_
  refine lv_iload hx hb dX10_taken_32 (lv_at hl 0 rfl) ?_
  refine lv_iconst (v := nI 5) hx hb dX10_taken_34 (by decide) ?_
  refine lv_icmp_ge (tgt := 68) hx hb dX10_taken_35 (by decide) (fun c9 => False.elim (by revert c9; decide +kernel)) (fun _ => ?_)
  refine lv_iload hx hb dX10_taken_38 (lv_at hl 1 rfl) ?_
  refine lv_aload_n hx hb dX10_taken_40 rfl (lv_at hl 5 rfl) ?_
  refine va_get (D := (dC, dI)) (ci := 10) (v := .ref (h 17)) (C := RX10) (T := TX10) (N := 28) hx hb hts hinX10 hown hK hP 0 rfl rfl 17 (by decide) (hts (.fieldLink RX10 41 "MixedWordsModel" "cols" "[I") (by decide +kernel)) (fun _ h9 => h9) rfl dX10_taken_41 ?_
  refine lv_iconst (v := nI 5) hx hb dX10_taken_44 (by decide) ?_
  refine lv_iload_n hx hb dX10_taken_45 rfl (lv_at hl 2 rfl) ?_
  refine lv_imul hx hb dX10_taken_46 ?_
  refine xt_i (y := nI 0) (by decide +kernel) ?_
  refine lv_iload hx hb dX10_taken_47 (lv_at hl 0 rfl) ?_
  refine lv_iadd hx hb dX10_taken_49 ?_
  refine xt_i (y := nI 4) (by decide +kernel) ?_
  refine xa_iald hx hb hK hP 8 0 rfl rfl (by omega) (by decide) dX10_taken_50 ?_
  refine xt_i (y := nI 0) (by decide +kernel) ?_
  refine lv_aload_n hx hb dX10_taken_51 rfl (lv_at hl 5 rfl) ?_
  refine va_get (D := (dC, dI)) (ci := 10) (v := .ref (h 20)) (C := RX10) (T := TX10) (N := 28) hx hb hts hinX10 hown hK hP 0 rfl rfl 20 (by decide) (hts (.fieldLink RX10 51 "MixedWordsModel" "met" "[I") (by decide +kernel)) (fun _ h9 => h9) rfl dX10_taken_52 ?_
  refine lv_iload hx hb dX10_taken_55 (lv_at hl 0 rfl) ?_
  refine xa_iald hx hb hK hP 11 0 rfl rfl (by omega) (by decide) dX10_taken_57 ?_
  refine xt_i (y := nI 0) (by decide +kernel) ?_
  refine lv_imul hx hb dX10_taken_58 ?_
  refine xt_i (y := nI 0) (by decide +kernel) ?_
  refine lv_iadd hx hb dX10_taken_59 ?_
  refine xt_i (y := nI 0) (by decide +kernel) ?_
  refine lv_istore (lv' := [(4, .int (nI 0)), (5, .int (nI 4)), (3, .int (nI 0)), (2, .int (nI 0)), (1, .int (nI 0)), (0, .ref (h 0))]) hx hb dX10_taken_60 hl (by decide) rfl (fun ls hl => ?_)
  refine lv_iinc (v := nI 5) (lv' := [(5, .int (nI 5)), (4, .int (nI 0)), (3, .int (nI 0)), (2, .int (nI 0)), (1, .int (nI 0)), (0, .ref (h 0))]) hx hb dX10_taken_62 hl (k := 1) rfl (by decide +kernel) (by decide) rfl (fun ls hl => ?_)
  refine lv_goto (tgt := 32) hx hb dX10_taken_65 (by decide) ?_
  refine lv_iload hx hb dX10_taken_32 (lv_at hl 0 rfl) ?_
  refine lv_iconst (v := nI 5) hx hb dX10_taken_34 (by decide) ?_
  refine lv_icmp_ge (tgt := 68) hx hb dX10_taken_35 (by decide) (fun _ => ?_) (fun c9 => False.elim (by revert c9; decide +kernel))
  refine lv_aload_n hx hb dX10_taken_68 rfl (lv_at hl 5 rfl) ?_
  refine lv_iload_n hx hb dX10_taken_69 rfl (lv_at hl 2 rfl) ?_
  refine lv_iload_n hx hb dX10_taken_70 rfl (lv_at hl 2 rfl) ?_
  refine xj_i (wc := (wD_177 h cs gI gL qA_210 gQ)) (wr := ([] : va_W)) hP hD hS hA [0, 1, 2, 3, 4, 5, 6, 7, 8, 9, 10, 11, 12, 13, 14, 15, 16] [] rfl rfl (by decide) (by decide) (va_runV (As := [.int (nI 0), .int (nI 0)]) (rest := []) ⟨hx, hb, hml, hown, hts⟩ (a_X10_dot_212 l dC dI h cs H.size gI gL qA_210 gQ ) (cwV 2 hts gX10_taken_X10_dot rfl rfl rfl (by decide +kernel) ⟨Nat.le_of_ble_eq_true rfl, Nat.le_of_ble_eq_true rfl⟩) (xpV (wc := (wD_177 h cs gI gL qA_210 gQ)) hP hD hK hN [0, 1, 2, 3, 4, 5, 6, 7, 8, 9, 10, 11, 12, 13, 14, 15, 16] rfl (by decide) 0 (ci := 10) rfl rfl _) rfl rfl hl.1 rfl (lv_room (Nat.le_of_ble_eq_true rfl)) dX10_taken_71 ⟨Nat.zero_le _, Nat.zero_le _⟩) (fun r_11 u_10 H locs hw hP hD hS => ?_)
  obtain ⟨hf_12, rfl⟩ := hw
  have hP : va_P (dC, dI) vwCl (rW h cs gI gL qA_210 gQ) H := hP
  have hD : va_D A0 (rW h cs gI gL qA_210 gQ) := hD
  obtain rfl := hf_12
  refine lv_istore (lv' := [(5, .int (nI 0)), (4, .int (nI 0)), (3, .int (nI 0)), (2, .int (nI 0)), (1, .int (nI 0)), (0, .ref (h 0))]) hx hb dX10_taken_74 hl (by decide) rfl (fun ls hl => ?_)
  refine lv_aload_n hx hb dX10_taken_76 rfl (lv_at hl 5 rfl) ?_
  refine va_get (D := (dC, dI)) (ci := 10) (v := .ref (h 23)) (C := RX10) (T := TX10) (N := 28) hx hb hts hinX10 hown hK hP 0 rfl rfl 23 (by decide) (hts (.fieldLink RX10 54 "MixedWordsModel" "letters" "[I") (by decide +kernel)) (fun _ h9 => h9) rfl dX10_taken_77 ?_
  refine lv_iload_n hx hb dX10_taken_80 rfl (lv_at hl 2 rfl) ?_
  refine lv_iload hx hb dX10_taken_81 (lv_at hl 0 rfl) ?_
  refine lv_if_ne (tgt := 90) hx hb dX10_taken_83 (by decide) (fun c9 => False.elim (by revert c9; decide +kernel)) (fun _ => ?_)
  refine lv_iconst (v := (-1)) hx hb dX10_taken_86 (by decide) ?_
  refine lv_goto (tgt := 100) hx hb dX10_taken_87 (by decide) ?_
  refine xa_iast hx hb hK hP hD hS 12 0 rfl rfl (by omega) (by decide) dX10_taken_100 (fun H locs hP hD hS => ?_)
  have hP : va_P (dC, dI) vwCl (rW h cs gI gL (va_up qA_210 23 (upd (qA_210 23) 0 (-1))) gQ) H := hP
  have hD : va_D A0 (rW h cs gI gL (va_up qA_210 23 (upd (qA_210 23) 0 (-1))) gQ) := hD
  refine lv_iconst (v := nI 0) hx hb dX10_taken_101 (by decide) ?_
  refine lv_istore (lv' := [(6, .int (nI 0)), (5, .int (nI 0)), (4, .int (nI 0)), (3, .int (nI 0)), (2, .int (nI 0)), (1, .int (nI 0)), (0, .ref (h 0))]) hx hb dX10_taken_102 hl (by decide) rfl (fun ls hl => ?_)
  refine lv_iload hx hb dX10_taken_104 (lv_at hl 0 rfl) ?_
  refine lv_iconst (v := nI 5) hx hb dX10_taken_106 (by decide) ?_
  refine lv_icmp_ge (tgt := 144) hx hb dX10_taken_107 (by decide) (fun c9 => False.elim (by revert c9; decide +kernel)) (fun _ => ?_)
  refine lv_aload_n hx hb dX10_taken_110 rfl (lv_at hl 6 rfl) ?_
  refine va_get (D := (dC, dI)) (ci := 10) (v := .ref (h 20)) (C := RX10) (T := TX10) (N := 28) hx hb hts hinX10 hown hK hP 0 rfl rfl 20 (by decide) (hts (.fieldLink RX10 51 "MixedWordsModel" "met" "[I") (by decide +kernel)) (fun _ h9 => h9) rfl dX10_taken_111 ?_
  refine lv_iload hx hb dX10_taken_114 (lv_at hl 0 rfl) ?_
  refine lv_dup2_11 hx hb dX10_taken_116 rfl rfl ?_
  refine xa_iald hx hb hK hP 11 0 rfl rfl (by omega) (by decide) dX10_taken_117 ?_
  refine xt_i (y := nI 0) (by decide +kernel) ?_
  refine lv_aload_n hx hb dX10_taken_118 rfl (lv_at hl 6 rfl) ?_
  refine va_get (D := (dC, dI)) (ci := 10) (v := .ref (h 23)) (C := RX10) (T := TX10) (N := 28) hx hb hts hinX10 hown hK hP 0 rfl rfl 23 (by decide) (hts (.fieldLink RX10 54 "MixedWordsModel" "letters" "[I") (by decide +kernel)) (fun _ h9 => h9) rfl dX10_taken_119 ?_
  refine lv_iload_n hx hb dX10_taken_122 rfl (lv_at hl 3 rfl) ?_
  refine xa_iald hx hb hK hP 12 0 rfl rfl (by omega) (by decide) dX10_taken_123 ?_
  refine xt_i (y := (-1 : Int32)) (by decide +kernel) ?_
  refine lv_aload_n hx hb dX10_taken_124 rfl (lv_at hl 6 rfl) ?_
  refine va_get (D := (dC, dI)) (ci := 10) (v := .ref (h 17)) (C := RX10) (T := TX10) (N := 28) hx hb hts hinX10 hown hK hP 0 rfl rfl 17 (by decide) (hts (.fieldLink RX10 41 "MixedWordsModel" "cols" "[I") (by decide +kernel)) (fun _ h9 => h9) rfl dX10_taken_125 ?_
  refine lv_iconst (v := nI 5) hx hb dX10_taken_128 (by decide) ?_
  refine lv_iload_n hx hb dX10_taken_129 rfl (lv_at hl 3 rfl) ?_
  refine lv_imul hx hb dX10_taken_130 ?_
  refine xt_i (y := nI 0) (by decide +kernel) ?_
  refine lv_iload hx hb dX10_taken_131 (lv_at hl 0 rfl) ?_
  refine lv_iadd hx hb dX10_taken_133 ?_
  refine xt_i (y := nI 0) (by decide +kernel) ?_
  refine xa_iald hx hb hK hP 8 0 rfl rfl (by omega) (by decide) dX10_taken_134 ?_
  refine xt_i (y := nI 0) (by decide +kernel) ?_
  refine lv_imul hx hb dX10_taken_135 ?_
  refine xt_i (y := nI 0) (by decide +kernel) ?_
  refine lv_isub hx hb dX10_taken_136 ?_
  refine xt_i (y := nI 0) (by decide +kernel) ?_
  refine xa_iastS hx hb hK hP hD hS 11 0 rfl rfl (by omega) (by decide) (by decide +kernel) dX10_taken_137 (fun H locs hP hD hS => ?_)
  refine lv_iinc (v := nI 1) (lv' := [(6, .int (nI 1)), (5, .int (nI 0)), (4, .int (nI 0)), (3, .int (nI 0)), (2, .int (nI 0)), (1, .int (nI 0)), (0, .ref (h 0))]) hx hb dX10_taken_138 hl (k := 0) rfl (by decide +kernel) (by decide) rfl (fun ls hl => ?_)
  refine lv_goto (tgt := 104) hx hb dX10_taken_141 (by decide) ?_
  refine lv_iload hx hb dX10_taken_104 (lv_at hl 0 rfl) ?_
  refine lv_iconst (v := nI 5) hx hb dX10_taken_106 (by decide) ?_
  refine lv_icmp_ge (tgt := 144) hx hb dX10_taken_107 (by decide) (fun c9 => False.elim (by revert c9; decide +kernel)) (fun _ => ?_)
  refine lv_aload_n hx hb dX10_taken_110 rfl (lv_at hl 6 rfl) ?_
  refine va_get (D := (dC, dI)) (ci := 10) (v := .ref (h 20)) (C := RX10) (T := TX10) (N := 28) hx hb hts hinX10 hown hK hP 0 rfl rfl 20 (by decide) (hts (.fieldLink RX10 51 "MixedWordsModel" "met" "[I") (by decide +kernel)) (fun _ h9 => h9) rfl dX10_taken_111 ?_
  refine lv_iload hx hb dX10_taken_114 (lv_at hl 0 rfl) ?_
  refine lv_dup2_11 hx hb dX10_taken_116 rfl rfl ?_
  refine xa_iald hx hb hK hP 11 0 rfl rfl (by omega) (by decide) dX10_taken_117 ?_
  refine xt_i (y := nI 0) (by decide +kernel) ?_
  refine lv_aload_n hx hb dX10_taken_118 rfl (lv_at hl 6 rfl) ?_
  refine va_get (D := (dC, dI)) (ci := 10) (v := .ref (h 23)) (C := RX10) (T := TX10) (N := 28) hx hb hts hinX10 hown hK hP 0 rfl rfl 23 (by decide) (hts (.fieldLink RX10 54 "MixedWordsModel" "letters" "[I") (by decide +kernel)) (fun _ h9 => h9) rfl dX10_taken_119 ?_
  refine lv_iload_n hx hb dX10_taken_122 rfl (lv_at hl 3 rfl) ?_
  refine xa_iald hx hb hK hP 12 0 rfl rfl (by omega) (by decide) dX10_taken_123 ?_
  refine xt_i (y := (-1 : Int32)) (by decide +kernel) ?_
  refine lv_aload_n hx hb dX10_taken_124 rfl (lv_at hl 6 rfl) ?_
  refine va_get (D := (dC, dI)) (ci := 10) (v := .ref (h 17)) (C := RX10) (T := TX10) (N := 28) hx hb hts hinX10 hown hK hP 0 rfl rfl 17 (by decide) (hts (.fieldLink RX10 41 "MixedWordsModel" "cols" "[I") (by decide +kernel)) (fun _ h9 => h9) rfl dX10_taken_125 ?_
  refine lv_iconst (v := nI 5) hx hb dX10_taken_128 (by decide) ?_
  refine lv_iload_n hx hb dX10_taken_129 rfl (lv_at hl 3 rfl) ?_
  refine lv_imul hx hb dX10_taken_130 ?_
  refine xt_i (y := nI 0) (by decide +kernel) ?_
  refine lv_iload hx hb dX10_taken_131 (lv_at hl 0 rfl) ?_
  refine lv_iadd hx hb dX10_taken_133 ?_
  refine xt_i (y := nI 1) (by decide +kernel) ?_
  refine xa_iald hx hb hK hP 8 0 rfl rfl (by omega) (by decide) dX10_taken_134 ?_
  refine xt_i (y := nI 0) (by decide +kernel) ?_
  refine lv_imul hx hb dX10_taken_135 ?_
  refine xt_i (y := nI 0) (by decide +kernel) ?_
  refine lv_isub hx hb dX10_taken_136 ?_
  refine xt_i (y := nI 0) (by decide +kernel) ?_
  refine xa_iastS hx hb hK hP hD hS 11 0 rfl rfl (by omega) (by decide) (by decide +kernel) dX10_taken_137 (fun H locs hP hD hS => ?_)
  refine lv_iinc (v := nI 2) (lv' := [(6, .int (nI 2)), (5, .int (nI 0)), (4, .int (nI 0)), (3, .int (nI 0)), (2, .int (nI 0)), (1, .int (nI 0)), (0, .ref (h 0))]) hx hb dX10_taken_138 hl (k := 0) rfl (by decide +kernel) (by decide) rfl (fun ls hl => ?_)
  refine lv_goto (tgt := 104) hx hb dX10_taken_141 (by decide) ?_
  refine lv_iload hx hb dX10_taken_104 (lv_at hl 0 rfl) ?_
  refine lv_iconst (v := nI 5) hx hb dX10_taken_106 (by decide) ?_
  refine lv_icmp_ge (tgt := 144) hx hb dX10_taken_107 (by decide) (fun c9 => False.elim (by revert c9; decide +kernel)) (fun _ => ?_)
  refine lv_aload_n hx hb dX10_taken_110 rfl (lv_at hl 6 rfl) ?_
  refine va_get (D := (dC, dI)) (ci := 10) (v := .ref (h 20)) (C := RX10) (T := TX10) (N := 28) hx hb hts hinX10 hown hK hP 0 rfl rfl 20 (by decide) (hts (.fieldLink RX10 51 "MixedWordsModel" "met" "[I") (by decide +kernel)) (fun _ h9 => h9) rfl dX10_taken_111 ?_
  refine lv_iload hx hb dX10_taken_114 (lv_at hl 0 rfl) ?_
  refine lv_dup2_11 hx hb dX10_taken_116 rfl rfl ?_
  refine xa_iald hx hb hK hP 11 0 rfl rfl (by omega) (by decide) dX10_taken_117 ?_
  refine xt_i (y := nI 0) (by decide +kernel) ?_
  refine lv_aload_n hx hb dX10_taken_118 rfl (lv_at hl 6 rfl) ?_
  refine va_get (D := (dC, dI)) (ci := 10) (v := .ref (h 23)) (C := RX10) (T := TX10) (N := 28) hx hb hts hinX10 hown hK hP 0 rfl rfl 23 (by decide) (hts (.fieldLink RX10 54 "MixedWordsModel" "letters" "[I") (by decide +kernel)) (fun _ h9 => h9) rfl dX10_taken_119 ?_
  refine lv_iload_n hx hb dX10_taken_122 rfl (lv_at hl 3 rfl) ?_
  refine xa_iald hx hb hK hP 12 0 rfl rfl (by omega) (by decide) dX10_taken_123 ?_
  refine xt_i (y := (-1 : Int32)) (by decide +kernel) ?_
  refine lv_aload_n hx hb dX10_taken_124 rfl (lv_at hl 6 rfl) ?_
  refine va_get (D := (dC, dI)) (ci := 10) (v := .ref (h 17)) (C := RX10) (T := TX10) (N := 28) hx hb hts hinX10 hown hK hP 0 rfl rfl 17 (by decide) (hts (.fieldLink RX10 41 "MixedWordsModel" "cols" "[I") (by decide +kernel)) (fun _ h9 => h9) rfl dX10_taken_125 ?_
  refine lv_iconst (v := nI 5) hx hb dX10_taken_128 (by decide) ?_
  refine lv_iload_n hx hb dX10_taken_129 rfl (lv_at hl 3 rfl) ?_
  refine lv_imul hx hb dX10_taken_130 ?_
  refine xt_i (y := nI 0) (by decide +kernel) ?_
  refine lv_iload hx hb dX10_taken_131 (lv_at hl 0 rfl) ?_
  refine lv_iadd hx hb dX10_taken_133 ?_
  refine xt_i (y := nI 2) (by decide +kernel) ?_
  refine xa_iald hx hb hK hP 8 0 rfl rfl (by omega) (by decide) dX10_taken_134 ?_
  refine xt_i (y := nI 0) (by decide +kernel) ?_
  refine lv_imul hx hb dX10_taken_135 ?_
  refine xt_i (y := nI 0) (by decide +kernel) ?_
  refine lv_isub hx hb dX10_taken_136 ?_
  refine xt_i (y := nI 0) (by decide +kernel) ?_
  refine xa_iastS hx hb hK hP hD hS 11 0 rfl rfl (by omega) (by decide) (by decide +kernel) dX10_taken_137 (fun H locs hP hD hS => ?_)
  refine lv_iinc (v := nI 3) (lv' := [(6, .int (nI 3)), (5, .int (nI 0)), (4, .int (nI 0)), (3, .int (nI 0)), (2, .int (nI 0)), (1, .int (nI 0)), (0, .ref (h 0))]) hx hb dX10_taken_138 hl (k := 0) rfl (by decide +kernel) (by decide) rfl (fun ls hl => ?_)
  refine lv_goto (tgt := 104) hx hb dX10_taken_141 (by decide) ?_
  refine lv_iload hx hb dX10_taken_104 (lv_at hl 0 rfl) ?_
  refine lv_iconst (v := nI 5) hx hb dX10_taken_106 (by decide) ?_
  refine lv_icmp_ge (tgt := 144) hx hb dX10_taken_107 (by decide) (fun c9 => False.elim (by revert c9; decide +kernel)) (fun _ => ?_)
  refine lv_aload_n hx hb dX10_taken_110 rfl (lv_at hl 6 rfl) ?_
  refine va_get (D := (dC, dI)) (ci := 10) (v := .ref (h 20)) (C := RX10) (T := TX10) (N := 28) hx hb hts hinX10 hown hK hP 0 rfl rfl 20 (by decide) (hts (.fieldLink RX10 51 "MixedWordsModel" "met" "[I") (by decide +kernel)) (fun _ h9 => h9) rfl dX10_taken_111 ?_
  refine lv_iload hx hb dX10_taken_114 (lv_at hl 0 rfl) ?_
  refine lv_dup2_11 hx hb dX10_taken_116 rfl rfl ?_
  refine xa_iald hx hb hK hP 11 0 rfl rfl (by omega) (by decide) dX10_taken_117 ?_
  refine xt_i (y := nI 0) (by decide +kernel) ?_
  refine lv_aload_n hx hb dX10_taken_118 rfl (lv_at hl 6 rfl) ?_
  refine va_get (D := (dC, dI)) (ci := 10) (v := .ref (h 23)) (C := RX10) (T := TX10) (N := 28) hx hb hts hinX10 hown hK hP 0 rfl rfl 23 (by decide) (hts (.fieldLink RX10 54 "MixedWordsModel" "letters" "[I") (by decide +kernel)) (fun _ h9 => h9) rfl dX10_taken_119 ?_
  refine lv_iload_n hx hb dX10_taken_122 rfl (lv_at hl 3 rfl) ?_
  refine xa_iald hx hb hK hP 12 0 rfl rfl (by omega) (by decide) dX10_taken_123 ?_
  refine xt_i (y := (-1 : Int32)) (by decide +kernel) ?_
  refine lv_aload_n hx hb dX10_taken_124 rfl (lv_at hl 6 rfl) ?_
  refine va_get (D := (dC, dI)) (ci := 10) (v := .ref (h 17)) (C := RX10) (T := TX10) (N := 28) hx hb hts hinX10 hown hK hP 0 rfl rfl 17 (by decide) (hts (.fieldLink RX10 41 "MixedWordsModel" "cols" "[I") (by decide +kernel)) (fun _ h9 => h9) rfl dX10_taken_125 ?_
  refine lv_iconst (v := nI 5) hx hb dX10_taken_128 (by decide) ?_
  refine lv_iload_n hx hb dX10_taken_129 rfl (lv_at hl 3 rfl) ?_
  refine lv_imul hx hb dX10_taken_130 ?_
  refine xt_i (y := nI 0) (by decide +kernel) ?_
  refine lv_iload hx hb dX10_taken_131 (lv_at hl 0 rfl) ?_
  refine lv_iadd hx hb dX10_taken_133 ?_
  refine xt_i (y := nI 3) (by decide +kernel) ?_
  refine xa_iald hx hb hK hP 8 0 rfl rfl (by omega) (by decide) dX10_taken_134 ?_
  refine xt_i (y := nI 0) (by decide +kernel) ?_
  refine lv_imul hx hb dX10_taken_135 ?_
  refine xt_i (y := nI 0) (by decide +kernel) ?_
  refine lv_isub hx hb dX10_taken_136 ?_
  refine xt_i (y := nI 0) (by decide +kernel) ?_
  refine xa_iastS hx hb hK hP hD hS 11 0 rfl rfl (by omega) (by decide) (by decide +kernel) dX10_taken_137 (fun H locs hP hD hS => ?_)
  refine lv_iinc (v := nI 4) (lv' := [(6, .int (nI 4)), (5, .int (nI 0)), (4, .int (nI 0)), (3, .int (nI 0)), (2, .int (nI 0)), (1, .int (nI 0)), (0, .ref (h 0))]) hx hb dX10_taken_138 hl (k := 0) rfl (by decide +kernel) (by decide) rfl (fun ls hl => ?_)
  refine lv_goto (tgt := 104) hx hb dX10_taken_141 (by decide) ?_
  refine lv_iload hx hb dX10_taken_104 (lv_at hl 0 rfl) ?_
  refine lv_iconst (v := nI 5) hx hb dX10_taken_106 (by decide) ?_
  refine lv_icmp_ge (tgt := 144) hx hb dX10_taken_107 (by decide) (fun c9 => False.elim (by revert c9; decide +kernel)) (fun _ => ?_)
  refine lv_aload_n hx hb dX10_taken_110 rfl (lv_at hl 6 rfl) ?_
  refine va_get (D := (dC, dI)) (ci := 10) (v := .ref (h 20)) (C := RX10) (T := TX10) (N := 28) hx hb hts hinX10 hown hK hP 0 rfl rfl 20 (by decide) (hts (.fieldLink RX10 51 "MixedWordsModel" "met" "[I") (by decide +kernel)) (fun _ h9 => h9) rfl dX10_taken_111 ?_
  refine lv_iload hx hb dX10_taken_114 (lv_at hl 0 rfl) ?_
  refine lv_dup2_11 hx hb dX10_taken_116 rfl rfl ?_
  refine xa_iald hx hb hK hP 11 0 rfl rfl (by omega) (by decide) dX10_taken_117 ?_
  refine xt_i (y := nI 0) (by decide +kernel) ?_
  refine lv_aload_n hx hb dX10_taken_118 rfl (lv_at hl 6 rfl) ?_
  refine va_get (D := (dC, dI)) (ci := 10) (v := .ref (h 23)) (C := RX10) (T := TX10) (N := 28) hx hb hts hinX10 hown hK hP 0 rfl rfl 23 (by decide) (hts (.fieldLink RX10 54 "MixedWordsModel" "letters" "[I") (by decide +kernel)) (fun _ h9 => h9) rfl dX10_taken_119 ?_
  refine lv_iload_n hx hb dX10_taken_122 rfl (lv_at hl 3 rfl) ?_
  refine xa_iald hx hb hK hP 12 0 rfl rfl (by omega) (by decide) dX10_taken_123 ?_
  refine xt_i (y := (-1 : Int32)) (by decide +kernel) ?_
  refine lv_aload_n hx hb dX10_taken_124 rfl (lv_at hl 6 rfl) ?_
  refine va_get (D := (dC, dI)) (ci := 10) (v := .ref (h 17)) (C := RX10) (T := TX10) (N := 28) hx hb hts hinX10 hown hK hP 0 rfl rfl 17 (by decide) (hts (.fieldLink RX10 41 "MixedWordsModel" "cols" "[I") (by decide +kernel)) (fun _ h9 => h9) rfl dX10_taken_125 ?_
  refine lv_iconst (v := nI 5) hx hb dX10_taken_128 (by decide) ?_
  refine lv_iload_n hx hb dX10_taken_129 rfl (lv_at hl 3 rfl) ?_
  refine lv_imul hx hb dX10_taken_130 ?_
  refine xt_i (y := nI 0) (by decide +kernel) ?_
  refine lv_iload hx hb dX10_taken_131 (lv_at hl 0 rfl) ?_
  refine lv_iadd hx hb dX10_taken_133 ?_
  refine xt_i (y := nI 4) (by decide +kernel) ?_
  refine xa_iald hx hb hK hP 8 0 rfl rfl (by omega) (by decide) dX10_taken_134 ?_
  refine xt_i (y := nI 0) (by decide +kernel) ?_
  refine lv_imul hx hb dX10_taken_135 ?_
  refine xt_i (y := nI 0) (by decide +kernel) ?_
  refine lv_isub hx hb dX10_taken_136 ?_
  refine xt_i (y := nI 0) (by decide +kernel) ?_
  refine xa_iastS hx hb hK hP hD hS 11 0 rfl rfl (by omega) (by decide) (by decide +kernel) dX10_taken_137 (fun H locs hP hD hS => ?_)
  refine lv_iinc (v := nI 5) (lv' := [(6, .int (nI 5)), (5, .int (nI 0)), (4, .int (nI 0)), (3, .int (nI 0)), (2, .int (nI 0)), (1, .int (nI 0)), (0, .ref (h 0))]) hx hb dX10_taken_138 hl (k := 0) rfl (by decide +kernel) (by decide) rfl (fun ls hl => ?_)
  refine lv_goto (tgt := 104) hx hb dX10_taken_141 (by decide) ?_
  refine lv_iload hx hb dX10_taken_104 (lv_at hl 0 rfl) ?_
  refine lv_iconst (v := nI 5) hx hb dX10_taken_106 (by decide) ?_
  refine lv_icmp_ge (tgt := 144) hx hb dX10_taken_107 (by decide) (fun _ => ?_) (fun c9 => False.elim (by revert c9; decide +kernel))
  refine lv_iload_n hx hb dX10_taken_144 rfl (lv_at hl 5 rfl) ?_
  refine lv_iconst (v := nI 1) hx hb dX10_taken_145 (by decide) ?_
  refine lv_iload_n hx hb dX10_taken_146 rfl (lv_at hl 3 rfl) ?_
  refine lv_ishl hx hb dX10_taken_147 ?_
  refine xt_i (y := nI 1) (by decide +kernel) ?_
  refine lv_ior hx hb dX10_taken_148 ?_
  refine xt_i (y := nI 1) (by decide +kernel) ?_
  refine lv_istore_n (lv' := [(1, .int (nI 1)), (6, .int (nI 5)), (5, .int (nI 0)), (4, .int (nI 0)), (3, .int (nI 0)), (2, .int (nI 0)), (0, .ref (h 0))]) hx hb dX10_taken_149 rfl hl (by decide) rfl (fun ls hl => ?_)
  refine lv_iinc (v := nI 1) (lv' := [(2, .int (nI 1)), (1, .int (nI 1)), (6, .int (nI 5)), (5, .int (nI 0)), (4, .int (nI 0)), (3, .int (nI 0)), (0, .ref (h 0))]) hx hb dX10_taken_150 hl (k := 5) rfl (by decide +kernel) (by decide) rfl (fun ls hl => ?_)
  refine lv_goto (tgt := 12) hx hb dX10_taken_153 (by decide) ?_
  refine lv_iload_n hx hb dX10_taken_12 rfl (lv_at hl 0 rfl) ?_
  refine lv_aload_n hx hb dX10_taken_13 rfl (lv_at hl 6 rfl) ?_
  refine va_get (D := (dC, dI)) (ci := 10) (v := .int (gI 1)) (C := RX10) (T := TX10) (N := 28) hx hb hts hinX10 hown hK hP 0 rfl rfl 1 (by decide) (hts (.fieldLink RX10 13 "MixedWordsModel" "columns" "I") (by decide +kernel)) (fun _ h9 => h9) rfl dX10_taken_14 ?_
  refine xt_i (y := nI 2) (by decide +kernel) ?_
  refine lv_icmp_ge (tgt := 156) hx hb dX10_taken_17 (by decide) (fun c9 => False.elim (by revert c9; decide +kernel)) (fun _ => ?_)
  refine lv_aload_n hx hb dX10_taken_20 rfl (lv_at hl 6 rfl) ?_
  refine lv_iload_n hx hb dX10_taken_21 rfl (lv_at hl 1 rfl) ?_
  have hP : va_P (dC, dI) vwCl (rW h cs gI gL qA_233 gQ) H := hP
  have hD : va_D A0 (rW h cs gI gL qA_233 gQ) := hD
  refine xj_i (wc := (wD_177 h cs gI gL qA_233 gQ)) (wr := ([] : va_W)) hP hD hS hA [0, 1, 2, 3, 4, 5, 6, 7, 8, 9, 10, 11, 12, 13, 14, 15, 16] [] rfl rfl (by decide) (by decide) (va_runV (As := [.int (nI 1)]) (rest := []) ⟨hx, hb, hml, hown, hts⟩ (a_X10_nextTaken_234 l dC dI h cs H.size gI gL qA_233 gQ ) (cwV 1 hts gX10_taken_X10_nextTaken rfl rfl rfl (by decide +kernel) ⟨Nat.le_of_ble_eq_true rfl, Nat.le_of_ble_eq_true rfl⟩) (xpV (wc := (wD_177 h cs gI gL qA_233 gQ)) hP hD hK hN [0, 1, 2, 3, 4, 5, 6, 7, 8, 9, 10, 11, 12, 13, 14, 15, 16] rfl (by decide) 0 (ci := 10) rfl rfl _) rfl rfl hl.1 rfl (lv_room (Nat.le_of_ble_eq_true rfl)) dX10_taken_22 ⟨Nat.zero_le _, Nat.zero_le _⟩) (fun r_14 u_13 H locs hw hP hD hS => ?_)
  obtain ⟨hf_15, rfl⟩ := hw
  have hP : va_P (dC, dI) vwCl (rW h cs gI gL qA_233 gQ) H := hP
  have hD : va_D A0 (rW h cs gI gL qA_233 gQ) := hD
  obtain rfl := hf_15
  refine lv_istore_n (lv' := [(3, .int (nI 1)), (2, .int (nI 1)), (1, .int (nI 1)), (6, .int (nI 5)), (5, .int (nI 0)), (4, .int (nI 0)), (0, .ref (h 0))]) hx hb dX10_taken_25 rfl hl (by decide) rfl (fun ls hl => ?_)
  refine lv_iconst (v := nI 0) hx hb dX10_taken_26 (by decide) ?_
  refine lv_istore (lv' := [(4, .int (nI 0)), (3, .int (nI 1)), (2, .int (nI 1)), (1, .int (nI 1)), (6, .int (nI 5)), (5, .int (nI 0)), (0, .ref (h 0))]) hx hb dX10_taken_27 hl (by decide) rfl (fun ls hl => ?_)
  refine lv_iconst (v := nI 0) hx hb dX10_taken_29 (by decide) ?_
  refine lv_istore (lv' := [(5, .int (nI 0)), (4, .int (nI 0)), (3, .int (nI 1)), (2, .int (nI 1)), (1, .int (nI 1)), (6, .int (nI 5)), (0, .ref (h 0))]) hx hb dX10_taken_30 hl (by decide) rfl (fun ls hl => ?_)
  refine lv_iload hx hb dX10_taken_32 (lv_at hl 0 rfl) ?_
  refine lv_iconst (v := nI 5) hx hb dX10_taken_34 (by decide) ?_
  refine lv_icmp_ge (tgt := 68) hx hb dX10_taken_35 (by decide) (fun c9 => False.elim (by revert c9; decide +kernel)) (fun _ => ?_)
  refine lv_iload hx hb dX10_taken_38 (lv_at hl 1 rfl) ?_
  refine lv_aload_n hx hb dX10_taken_40 rfl (lv_at hl 6 rfl) ?_
  refine va_get (D := (dC, dI)) (ci := 10) (v := .ref (h 17)) (C := RX10) (T := TX10) (N := 28) hx hb hts hinX10 hown hK hP 0 rfl rfl 17 (by decide) (hts (.fieldLink RX10 41 "MixedWordsModel" "cols" "[I") (by decide +kernel)) (fun _ h9 => h9) rfl dX10_taken_41 ?_
  refine lv_iconst (v := nI 5) hx hb dX10_taken_44 (by decide) ?_
  refine lv_iload_n hx hb dX10_taken_45 rfl (lv_at hl 2 rfl) ?_
  refine lv_imul hx hb dX10_taken_46 ?_
  refine xt_i (y := nI 5) (by decide +kernel) ?_
  refine lv_iload hx hb dX10_taken_47 (lv_at hl 0 rfl) ?_
  refine lv_iadd hx hb dX10_taken_49 ?_
  refine xt_i (y := nI 5) (by decide +kernel) ?_
  refine xa_iald hx hb hK hP 8 0 rfl rfl (by omega) (by decide) dX10_taken_50 ?_
  refine xt_i (y := nI 0) (by decide +kernel) ?_
  refine lv_aload_n hx hb dX10_taken_51 rfl (lv_at hl 6 rfl) ?_
  refine va_get (D := (dC, dI)) (ci := 10) (v := .ref (h 20)) (C := RX10) (T := TX10) (N := 28) hx hb hts hinX10 hown hK hP 0 rfl rfl 20 (by decide) (hts (.fieldLink RX10 51 "MixedWordsModel" "met" "[I") (by decide +kernel)) (fun _ h9 => h9) rfl dX10_taken_52 ?_
  refine lv_iload hx hb dX10_taken_55 (lv_at hl 0 rfl) ?_
  refine xa_iald hx hb hK hP 11 0 rfl rfl (by omega) (by decide) dX10_taken_57 ?_
  refine xt_i (y := nI 0) (by decide +kernel) ?_
  refine lv_imul hx hb dX10_taken_58 ?_
  refine xt_i (y := nI 0) (by decide +kernel) ?_
  refine lv_iadd hx hb dX10_taken_59 ?_
  refine xt_i (y := nI 0) (by decide +kernel) ?_
  refine lv_istore (lv' := [(4, .int (nI 0)), (5, .int (nI 0)), (3, .int (nI 1)), (2, .int (nI 1)), (1, .int (nI 1)), (6, .int (nI 5)), (0, .ref (h 0))]) hx hb dX10_taken_60 hl (by decide) rfl (fun ls hl => ?_)
  refine lv_iinc (v := nI 1) (lv' := [(5, .int (nI 1)), (4, .int (nI 0)), (3, .int (nI 1)), (2, .int (nI 1)), (1, .int (nI 1)), (6, .int (nI 5)), (0, .ref (h 0))]) hx hb dX10_taken_62 hl (k := 1) rfl (by decide +kernel) (by decide) rfl (fun ls hl => ?_)
  refine lv_goto (tgt := 32) hx hb dX10_taken_65 (by decide) ?_
  refine lv_iload hx hb dX10_taken_32 (lv_at hl 0 rfl) ?_
  refine lv_iconst (v := nI 5) hx hb dX10_taken_34 (by decide) ?_
  refine lv_icmp_ge (tgt := 68) hx hb dX10_taken_35 (by decide) (fun c9 => False.elim (by revert c9; decide +kernel)) (fun _ => ?_)
  refine lv_iload hx hb dX10_taken_38 (lv_at hl 1 rfl) ?_
  refine lv_aload_n hx hb dX10_taken_40 rfl (lv_at hl 6 rfl) ?_
  refine va_get (D := (dC, dI)) (ci := 10) (v := .ref (h 17)) (C := RX10) (T := TX10) (N := 28) hx hb hts hinX10 hown hK hP 0 rfl rfl 17 (by decide) (hts (.fieldLink RX10 41 "MixedWordsModel" "cols" "[I") (by decide +kernel)) (fun _ h9 => h9) rfl dX10_taken_41 ?_
  refine lv_iconst (v := nI 5) hx hb dX10_taken_44 (by decide) ?_
  refine lv_iload_n hx hb dX10_taken_45 rfl (lv_at hl 2 rfl) ?_
  refine lv_imul hx hb dX10_taken_46 ?_
  refine xt_i (y := nI 5) (by decide +kernel) ?_
  refine lv_iload hx hb dX10_taken_47 (lv_at hl 0 rfl) ?_
  refine lv_iadd hx hb dX10_taken_49 ?_
  refine xt_i (y := nI 6) (by decide +kernel) ?_
  refine xa_iald hx hb hK hP 8 0 rfl rfl (by omega) (by decide) dX10_taken_50 ?_
  refine xt_i (y := nI 0) (by decide +kernel) ?_
  refine lv_aload_n hx hb dX10_taken_51 rfl (lv_at hl 6 rfl) ?_
  refine va_get (D := (dC, dI)) (ci := 10) (v := .ref (h 20)) (C := RX10) (T := TX10) (N := 28) hx hb hts hinX10 hown hK hP 0 rfl rfl 20 (by decide) (hts (.fieldLink RX10 51 "MixedWordsModel" "met" "[I") (by decide +kernel)) (fun _ h9 => h9) rfl dX10_taken_52 ?_
  refine lv_iload hx hb dX10_taken_55 (lv_at hl 0 rfl) ?_
  refine xa_iald hx hb hK hP 11 0 rfl rfl (by omega) (by decide) dX10_taken_57 ?_
  refine xt_i (y := nI 0) (by decide +kernel) ?_
  refine lv_imul hx hb dX10_taken_58 ?_
  refine xt_i (y := nI 0) (by decide +kernel) ?_
  refine lv_iadd hx hb dX10_taken_59 ?_
  refine xt_i (y := nI 0) (by decide +kernel) ?_
  refine lv_istore (lv' := [(4, .int (nI 0)), (5, .int (nI 1)), (3, .int (nI 1)), (2, .int (nI 1)), (1, .int (nI 1)), (6, .int (nI 5)), (0, .ref (h 0))]) hx hb dX10_taken_60 hl (by decide) rfl (fun ls hl => ?_)
  refine lv_iinc (v := nI 2) (lv' := [(5, .int (nI 2)), (4, .int (nI 0)), (3, .int (nI 1)), (2, .int (nI 1)), (1, .int (nI 1)), (6, .int (nI 5)), (0, .ref (h 0))]) hx hb dX10_taken_62 hl (k := 1) rfl (by decide +kernel) (by decide) rfl (fun ls hl => ?_)
  refine lv_goto (tgt := 32) hx hb dX10_taken_65 (by decide) ?_
  refine lv_iload hx hb dX10_taken_32 (lv_at hl 0 rfl) ?_
  refine lv_iconst (v := nI 5) hx hb dX10_taken_34 (by decide) ?_
  refine lv_icmp_ge (tgt := 68) hx hb dX10_taken_35 (by decide) (fun c9 => False.elim (by revert c9; decide +kernel)) (fun _ => ?_)
  refine lv_iload hx hb dX10_taken_38 (lv_at hl 1 rfl) ?_
  refine lv_aload_n hx hb dX10_taken_40 rfl (lv_at hl 6 rfl) ?_
  refine va_get (D := (dC, dI)) (ci := 10) (v := .ref (h 17)) (C := RX10) (T := TX10) (N := 28) hx hb hts hinX10 hown hK hP 0 rfl rfl 17 (by decide) (hts (.fieldLink RX10 41 "MixedWordsModel" "cols" "[I") (by decide +kernel)) (fun _ h9 => h9) rfl dX10_taken_41 ?_
  refine lv_iconst (v := nI 5) hx hb dX10_taken_44 (by decide) ?_
  refine lv_iload_n hx hb dX10_taken_45 rfl (lv_at hl 2 rfl) ?_
  refine lv_imul hx hb dX10_taken_46 ?_
  refine xt_i (y := nI 5) (by decide +kernel) ?_
  refine lv_iload hx hb dX10_taken_47 (lv_at hl 0 rfl) ?_
  refine lv_iadd hx hb dX10_taken_49 ?_
  refine xt_i (y := nI 7) (by decide +kernel) ?_
  refine xa_iald hx hb hK hP 8 0 rfl rfl (by omega) (by decide) dX10_taken_50 ?_
  refine xt_i (y := nI 0) (by decide +kernel) ?_
  refine lv_aload_n hx hb dX10_taken_51 rfl (lv_at hl 6 rfl) ?_
  refine va_get (D := (dC, dI)) (ci := 10) (v := .ref (h 20)) (C := RX10) (T := TX10) (N := 28) hx hb hts hinX10 hown hK hP 0 rfl rfl 20 (by decide) (hts (.fieldLink RX10 51 "MixedWordsModel" "met" "[I") (by decide +kernel)) (fun _ h9 => h9) rfl dX10_taken_52 ?_
  refine lv_iload hx hb dX10_taken_55 (lv_at hl 0 rfl) ?_
  refine xa_iald hx hb hK hP 11 0 rfl rfl (by omega) (by decide) dX10_taken_57 ?_
  refine xt_i (y := nI 0) (by decide +kernel) ?_
  refine lv_imul hx hb dX10_taken_58 ?_
  refine xt_i (y := nI 0) (by decide +kernel) ?_
  refine lv_iadd hx hb dX10_taken_59 ?_
  refine xt_i (y := nI 0) (by decide +kernel) ?_
  refine lv_istore (lv' := [(4, .int (nI 0)), (5, .int (nI 2)), (3, .int (nI 1)), (2, .int (nI 1)), (1, .int (nI 1)), (6, .int (nI 5)), (0, .ref (h 0))]) hx hb dX10_taken_60 hl (by decide) rfl (fun ls hl => ?_)
  refine lv_iinc (v := nI 3) (lv' := [(5, .int (nI 3)), (4, .int (nI 0)), (3, .int (nI 1)), (2, .int (nI 1)), (1, .int (nI 1)), (6, .int (nI 5)), (0, .ref (h 0))]) hx hb dX10_taken_62 hl (k := 1) rfl (by decide +kernel) (by decide) rfl (fun ls hl => ?_)
  refine lv_goto (tgt := 32) hx hb dX10_taken_65 (by decide) ?_
  refine lv_iload hx hb dX10_taken_32 (lv_at hl 0 rfl) ?_
  refine lv_iconst (v := nI 5) hx hb dX10_taken_34 (by decide) ?_
  refine lv_icmp_ge (tgt := 68) hx hb dX10_taken_35 (by decide) (fun c9 => False.elim (by revert c9; decide +kernel)) (fun _ => ?_)
  refine lv_iload hx hb dX10_taken_38 (lv_at hl 1 rfl) ?_
  refine lv_aload_n hx hb dX10_taken_40 rfl (lv_at hl 6 rfl) ?_
  refine va_get (D := (dC, dI)) (ci := 10) (v := .ref (h 17)) (C := RX10) (T := TX10) (N := 28) hx hb hts hinX10 hown hK hP 0 rfl rfl 17 (by decide) (hts (.fieldLink RX10 41 "MixedWordsModel" "cols" "[I") (by decide +kernel)) (fun _ h9 => h9) rfl dX10_taken_41 ?_
  refine lv_iconst (v := nI 5) hx hb dX10_taken_44 (by decide) ?_
  refine lv_iload_n hx hb dX10_taken_45 rfl (lv_at hl 2 rfl) ?_
  refine lv_imul hx hb dX10_taken_46 ?_
  refine xt_i (y := nI 5) (by decide +kernel) ?_
  refine lv_iload hx hb dX10_taken_47 (lv_at hl 0 rfl) ?_
  refine lv_iadd hx hb dX10_taken_49 ?_
  refine xt_i (y := nI 8) (by decide +kernel) ?_
  refine xa_iald hx hb hK hP 8 0 rfl rfl (by omega) (by decide) dX10_taken_50 ?_
  refine xt_i (y := nI 0) (by decide +kernel) ?_
  refine lv_aload_n hx hb dX10_taken_51 rfl (lv_at hl 6 rfl) ?_
  refine va_get (D := (dC, dI)) (ci := 10) (v := .ref (h 20)) (C := RX10) (T := TX10) (N := 28) hx hb hts hinX10 hown hK hP 0 rfl rfl 20 (by decide) (hts (.fieldLink RX10 51 "MixedWordsModel" "met" "[I") (by decide +kernel)) (fun _ h9 => h9) rfl dX10_taken_52 ?_
  refine lv_iload hx hb dX10_taken_55 (lv_at hl 0 rfl) ?_
  refine xa_iald hx hb hK hP 11 0 rfl rfl (by omega) (by decide) dX10_taken_57 ?_
  refine xt_i (y := nI 0) (by decide +kernel) ?_
  refine lv_imul hx hb dX10_taken_58 ?_
  refine xt_i (y := nI 0) (by decide +kernel) ?_
  refine lv_iadd hx hb dX10_taken_59 ?_
  refine xt_i (y := nI 0) (by decide +kernel) ?_
  refine lv_istore (lv' := [(4, .int (nI 0)), (5, .int (nI 3)), (3, .int (nI 1)), (2, .int (nI 1)), (1, .int (nI 1)), (6, .int (nI 5)), (0, .ref (h 0))]) hx hb dX10_taken_60 hl (by decide) rfl (fun ls hl => ?_)
  refine lv_iinc (v := nI 4) (lv' := [(5, .int (nI 4)), (4, .int (nI 0)), (3, .int (nI 1)), (2, .int (nI 1)), (1, .int (nI 1)), (6, .int (nI 5)), (0, .ref (h 0))]) hx hb dX10_taken_62 hl (k := 1) rfl (by decide +kernel) (by decide) rfl (fun ls hl => ?_)
  refine lv_goto (tgt := 32) hx hb dX10_taken_65 (by decide) ?_
  refine lv_iload hx hb dX10_taken_32 (lv_at hl 0 rfl) ?_
  refine lv_iconst (v := nI 5) hx hb dX10_taken_34 (by decide) ?_
  refine lv_icmp_ge (tgt := 68) hx hb dX10_taken_35 (by decide) (fun c9 => False.elim (by revert c9; decide +kernel)) (fun _ => ?_)
  refine lv_iload hx hb dX10_taken_38 (lv_at hl 1 rfl) ?_
  refine lv_aload_n hx hb dX10_taken_40 rfl (lv_at hl 6 rfl) ?_
  refine va_get (D := (dC, dI)) (ci := 10) (v := .ref (h 17)) (C := RX10) (T := TX10) (N := 28) hx hb hts hinX10 hown hK hP 0 rfl rfl 17 (by decide) (hts (.fieldLink RX10 41 "MixedWordsModel" "cols" "[I") (by decide +kernel)) (fun _ h9 => h9) rfl dX10_taken_41 ?_
  refine lv_iconst (v := nI 5) hx hb dX10_taken_44 (by decide) ?_
  refine lv_iload_n hx hb dX10_taken_45 rfl (lv_at hl 2 rfl) ?_
  refine lv_imul hx hb dX10_taken_46 ?_
  refine xt_i (y := nI 5) (by decide +kernel) ?_
  refine lv_iload hx hb dX10_taken_47 (lv_at hl 0 rfl) ?_
  refine lv_iadd hx hb dX10_taken_49 ?_
  refine xt_i (y := nI 9) (by decide +kernel) ?_
  refine xa_iald hx hb hK hP 8 0 rfl rfl (by omega) (by decide) dX10_taken_50 ?_
  refine xt_i (y := nI 0) (by decide +kernel) ?_
  refine lv_aload_n hx hb dX10_taken_51 rfl (lv_at hl 6 rfl) ?_
  refine va_get (D := (dC, dI)) (ci := 10) (v := .ref (h 20)) (C := RX10) (T := TX10) (N := 28) hx hb hts hinX10 hown hK hP 0 rfl rfl 20 (by decide) (hts (.fieldLink RX10 51 "MixedWordsModel" "met" "[I") (by decide +kernel)) (fun _ h9 => h9) rfl dX10_taken_52 ?_
  refine lv_iload hx hb dX10_taken_55 (lv_at hl 0 rfl) ?_
  refine xa_iald hx hb hK hP 11 0 rfl rfl (by omega) (by decide) dX10_taken_57 ?_
  refine xt_i (y := nI 0) (by decide +kernel) ?_
  refine lv_imul hx hb dX10_taken_58 ?_
  refine xt_i (y := nI 0) (by decide +kernel) ?_
  refine lv_iadd hx hb dX10_taken_59 ?_
  refine xt_i (y := nI 0) (by decide +kernel) ?_
  refine lv_istore (lv' := [(4, .int (nI 0)), (5, .int (nI 4)), (3, .int (nI 1)), (2, .int (nI 1)), (1, .int (nI 1)), (6, .int (nI 5)), (0, .ref (h 0))]) hx hb dX10_taken_60 hl (by decide) rfl (fun ls hl => ?_)
  refine lv_iinc (v := nI 5) (lv' := [(5, .int (nI 5)), (4, .int (nI 0)), (3, .int (nI 1)), (2, .int (nI 1)), (1, .int (nI 1)), (6, .int (nI 5)), (0, .ref (h 0))]) hx hb dX10_taken_62 hl (k := 1) rfl (by decide +kernel) (by decide) rfl (fun ls hl => ?_)
  refine lv_goto (tgt := 32) hx hb dX10_taken_65 (by decide) ?_
  refine lv_iload hx hb dX10_taken_32 (lv_at hl 0 rfl) ?_
  refine lv_iconst (v := nI 5) hx hb dX10_taken_34 (by decide) ?_
  refine lv_icmp_ge (tgt := 68) hx hb dX10_taken_35 (by decide) (fun _ => ?_) (fun c9 => False.elim (by revert c9; decide +kernel))
  refine lv_aload_n hx hb dX10_taken_68 rfl (lv_at hl 6 rfl) ?_
  refine lv_iload_n hx hb dX10_taken_69 rfl (lv_at hl 2 rfl) ?_
  refine lv_iload_n hx hb dX10_taken_70 rfl (lv_at hl 2 rfl) ?_
  refine xj_i (wc := (wD_177 h cs gI gL qA_233 gQ)) (wr := ([] : va_W)) hP hD hS hA [0, 1, 2, 3, 4, 5, 6, 7, 8, 9, 10, 11, 12, 13, 14, 15, 16] [] rfl rfl (by decide) (by decide) (va_runV (As := [.int (nI 1), .int (nI 1)]) (rest := []) ⟨hx, hb, hml, hown, hts⟩ (a_X10_dot_235 l dC dI h cs H.size gI gL qA_233 gQ ) (cwV 2 hts gX10_taken_X10_dot rfl rfl rfl (by decide +kernel) ⟨Nat.le_of_ble_eq_true rfl, Nat.le_of_ble_eq_true rfl⟩) (xpV (wc := (wD_177 h cs gI gL qA_233 gQ)) hP hD hK hN [0, 1, 2, 3, 4, 5, 6, 7, 8, 9, 10, 11, 12, 13, 14, 15, 16] rfl (by decide) 0 (ci := 10) rfl rfl _) rfl rfl hl.1 rfl (lv_room (Nat.le_of_ble_eq_true rfl)) dX10_taken_71 ⟨Nat.zero_le _, Nat.zero_le _⟩) (fun r_17 u_16 H locs hw hP hD hS => ?_)
  obtain ⟨hf_18, rfl⟩ := hw
  have hP : va_P (dC, dI) vwCl (rW h cs gI gL qA_233 gQ) H := hP
  have hD : va_D A0 (rW h cs gI gL qA_233 gQ) := hD
  obtain rfl := hf_18
  refine lv_istore (lv' := [(5, .int (nI 0)), (4, .int (nI 0)), (3, .int (nI 1)), (2, .int (nI 1)), (1, .int (nI 1)), (6, .int (nI 5)), (0, .ref (h 0))]) hx hb dX10_taken_74 hl (by decide) rfl (fun ls hl => ?_)
  refine lv_aload_n hx hb dX10_taken_76 rfl (lv_at hl 6 rfl) ?_
  refine va_get (D := (dC, dI)) (ci := 10) (v := .ref (h 23)) (C := RX10) (T := TX10) (N := 28) hx hb hts hinX10 hown hK hP 0 rfl rfl 23 (by decide) (hts (.fieldLink RX10 54 "MixedWordsModel" "letters" "[I") (by decide +kernel)) (fun _ h9 => h9) rfl dX10_taken_77 ?_
  refine lv_iload_n hx hb dX10_taken_80 rfl (lv_at hl 2 rfl) ?_
  refine lv_iload hx hb dX10_taken_81 (lv_at hl 0 rfl) ?_
  refine lv_if_ne (tgt := 90) hx hb dX10_taken_83 (by decide) (fun c9 => False.elim (by revert c9; decide +kernel)) (fun _ => ?_)
  refine lv_iconst (v := (-1)) hx hb dX10_taken_86 (by decide) ?_
  refine lv_goto (tgt := 100) hx hb dX10_taken_87 (by decide) ?_
  refine xa_iast hx hb hK hP hD hS 12 0 rfl rfl (by omega) (by decide) dX10_taken_100 (fun H locs hP hD hS => ?_)
  have hP : va_P (dC, dI) vwCl (rW h cs gI gL (va_up qA_233 23 (upd (qA_233 23) 1 (-1))) gQ) H := hP
  have hD : va_D A0 (rW h cs gI gL (va_up qA_233 23 (upd (qA_233 23) 1 (-1))) gQ) := hD
  refine lv_iconst (v := nI 0) hx hb dX10_taken_101 (by decide) ?_
  refine lv_istore (lv' := [(6, .int (nI 0)), (5, .int (nI 0)), (4, .int (nI 0)), (3, .int (nI 1)), (2, .int (nI 1)), (1, .int (nI 1)), (0, .ref (h 0))]) hx hb dX10_taken_102 hl (by decide) rfl (fun ls hl => ?_)
  refine lv_iload hx hb dX10_taken_104 (lv_at hl 0 rfl) ?_
  refine lv_iconst (v := nI 5) hx hb dX10_taken_106 (by decide) ?_
  refine lv_icmp_ge (tgt := 144) hx hb dX10_taken_107 (by decide) (fun c9 => False.elim (by revert c9; decide +kernel)) (fun _ => ?_)
  refine lv_aload_n hx hb dX10_taken_110 rfl (lv_at hl 6 rfl) ?_
  refine va_get (D := (dC, dI)) (ci := 10) (v := .ref (h 20)) (C := RX10) (T := TX10) (N := 28) hx hb hts hinX10 hown hK hP 0 rfl rfl 20 (by decide) (hts (.fieldLink RX10 51 "MixedWordsModel" "met" "[I") (by decide +kernel)) (fun _ h9 => h9) rfl dX10_taken_111 ?_
  refine lv_iload hx hb dX10_taken_114 (lv_at hl 0 rfl) ?_
  refine lv_dup2_11 hx hb dX10_taken_116 rfl rfl ?_
  refine xa_iald hx hb hK hP 11 0 rfl rfl (by omega) (by decide) dX10_taken_117 ?_
  refine xt_i (y := nI 0) (by decide +kernel) ?_
  refine lv_aload_n hx hb dX10_taken_118 rfl (lv_at hl 6 rfl) ?_
  refine va_get (D := (dC, dI)) (ci := 10) (v := .ref (h 23)) (C := RX10) (T := TX10) (N := 28) hx hb hts hinX10 hown hK hP 0 rfl rfl 23 (by decide) (hts (.fieldLink RX10 54 "MixedWordsModel" "letters" "[I") (by decide +kernel)) (fun _ h9 => h9) rfl dX10_taken_119 ?_
  refine lv_iload_n hx hb dX10_taken_122 rfl (lv_at hl 3 rfl) ?_
  refine xa_iald hx hb hK hP 12 0 rfl rfl (by omega) (by decide) dX10_taken_123 ?_
  refine xt_i (y := (-1 : Int32)) (by decide +kernel) ?_
  refine lv_aload_n hx hb dX10_taken_124 rfl (lv_at hl 6 rfl) ?_
  refine va_get (D := (dC, dI)) (ci := 10) (v := .ref (h 17)) (C := RX10) (T := TX10) (N := 28) hx hb hts hinX10 hown hK hP 0 rfl rfl 17 (by decide) (hts (.fieldLink RX10 41 "MixedWordsModel" "cols" "[I") (by decide +kernel)) (fun _ h9 => h9) rfl dX10_taken_125 ?_
  refine lv_iconst (v := nI 5) hx hb dX10_taken_128 (by decide) ?_
  refine lv_iload_n hx hb dX10_taken_129 rfl (lv_at hl 3 rfl) ?_
  refine lv_imul hx hb dX10_taken_130 ?_
  refine xt_i (y := nI 5) (by decide +kernel) ?_
  refine lv_iload hx hb dX10_taken_131 (lv_at hl 0 rfl) ?_
  refine lv_iadd hx hb dX10_taken_133 ?_
  refine xt_i (y := nI 5) (by decide +kernel) ?_
  refine xa_iald hx hb hK hP 8 0 rfl rfl (by omega) (by decide) dX10_taken_134 ?_
  refine xt_i (y := nI 0) (by decide +kernel) ?_
  refine lv_imul hx hb dX10_taken_135 ?_
  refine xt_i (y := nI 0) (by decide +kernel) ?_
  refine lv_isub hx hb dX10_taken_136 ?_
  refine xt_i (y := nI 0) (by decide +kernel) ?_
  refine xa_iastS hx hb hK hP hD hS 11 0 rfl rfl (by omega) (by decide) (by decide +kernel) dX10_taken_137 (fun H locs hP hD hS => ?_)
  refine lv_iinc (v := nI 1) (lv' := [(6, .int (nI 1)), (5, .int (nI 0)), (4, .int (nI 0)), (3, .int (nI 1)), (2, .int (nI 1)), (1, .int (nI 1)), (0, .ref (h 0))]) hx hb dX10_taken_138 hl (k := 0) rfl (by decide +kernel) (by decide) rfl (fun ls hl => ?_)
  refine lv_goto (tgt := 104) hx hb dX10_taken_141 (by decide) ?_
  refine lv_iload hx hb dX10_taken_104 (lv_at hl 0 rfl) ?_
  refine lv_iconst (v := nI 5) hx hb dX10_taken_106 (by decide) ?_
  refine lv_icmp_ge (tgt := 144) hx hb dX10_taken_107 (by decide) (fun c9 => False.elim (by revert c9; decide +kernel)) (fun _ => ?_)
  refine lv_aload_n hx hb dX10_taken_110 rfl (lv_at hl 6 rfl) ?_
  refine va_get (D := (dC, dI)) (ci := 10) (v := .ref (h 20)) (C := RX10) (T := TX10) (N := 28) hx hb hts hinX10 hown hK hP 0 rfl rfl 20 (by decide) (hts (.fieldLink RX10 51 "MixedWordsModel" "met" "[I") (by decide +kernel)) (fun _ h9 => h9) rfl dX10_taken_111 ?_
  refine lv_iload hx hb dX10_taken_114 (lv_at hl 0 rfl) ?_
  refine lv_dup2_11 hx hb dX10_taken_116 rfl rfl ?_
  refine xa_iald hx hb hK hP 11 0 rfl rfl (by omega) (by decide) dX10_taken_117 ?_
  refine xt_i (y := nI 0) (by decide +kernel) ?_
  refine lv_aload_n hx hb dX10_taken_118 rfl (lv_at hl 6 rfl) ?_
  refine va_get (D := (dC, dI)) (ci := 10) (v := .ref (h 23)) (C := RX10) (T := TX10) (N := 28) hx hb hts hinX10 hown hK hP 0 rfl rfl 23 (by decide) (hts (.fieldLink RX10 54 "MixedWordsModel" "letters" "[I") (by decide +kernel)) (fun _ h9 => h9) rfl dX10_taken_119 ?_
  refine lv_iload_n hx hb dX10_taken_122 rfl (lv_at hl 3 rfl) ?_
  refine xa_iald hx hb hK hP 12 0 rfl rfl (by omega) (by decide) dX10_taken_123 ?_
  refine xt_i (y := (-1 : Int32)) (by decide +kernel) ?_
  refine lv_aload_n hx hb dX10_taken_124 rfl (lv_at hl 6 rfl) ?_
  refine va_get (D := (dC, dI)) (ci := 10) (v := .ref (h 17)) (C := RX10) (T := TX10) (N := 28) hx hb hts hinX10 hown hK hP 0 rfl rfl 17 (by decide) (hts (.fieldLink RX10 41 "MixedWordsModel" "cols" "[I") (by decide +kernel)) (fun _ h9 => h9) rfl dX10_taken_125 ?_
  refine lv_iconst (v := nI 5) hx hb dX10_taken_128 (by decide) ?_
  refine lv_iload_n hx hb dX10_taken_129 rfl (lv_at hl 3 rfl) ?_
  refine lv_imul hx hb dX10_taken_130 ?_
  refine xt_i (y := nI 5) (by decide +kernel) ?_
  refine lv_iload hx hb dX10_taken_131 (lv_at hl 0 rfl) ?_
  refine lv_iadd hx hb dX10_taken_133 ?_
  refine xt_i (y := nI 6) (by decide +kernel) ?_
  refine xa_iald hx hb hK hP 8 0 rfl rfl (by omega) (by decide) dX10_taken_134 ?_
  refine xt_i (y := nI 0) (by decide +kernel) ?_
  refine lv_imul hx hb dX10_taken_135 ?_
  refine xt_i (y := nI 0) (by decide +kernel) ?_
  refine lv_isub hx hb dX10_taken_136 ?_
  refine xt_i (y := nI 0) (by decide +kernel) ?_
  refine xa_iastS hx hb hK hP hD hS 11 0 rfl rfl (by omega) (by decide) (by decide +kernel) dX10_taken_137 (fun H locs hP hD hS => ?_)
  refine lv_iinc (v := nI 2) (lv' := [(6, .int (nI 2)), (5, .int (nI 0)), (4, .int (nI 0)), (3, .int (nI 1)), (2, .int (nI 1)), (1, .int (nI 1)), (0, .ref (h 0))]) hx hb dX10_taken_138 hl (k := 0) rfl (by decide +kernel) (by decide) rfl (fun ls hl => ?_)
  refine lv_goto (tgt := 104) hx hb dX10_taken_141 (by decide) ?_
  refine lv_iload hx hb dX10_taken_104 (lv_at hl 0 rfl) ?_
  refine lv_iconst (v := nI 5) hx hb dX10_taken_106 (by decide) ?_
  refine lv_icmp_ge (tgt := 144) hx hb dX10_taken_107 (by decide) (fun c9 => False.elim (by revert c9; decide +kernel)) (fun _ => ?_)
  refine lv_aload_n hx hb dX10_taken_110 rfl (lv_at hl 6 rfl) ?_
  refine va_get (D := (dC, dI)) (ci := 10) (v := .ref (h 20)) (C := RX10) (T := TX10) (N := 28) hx hb hts hinX10 hown hK hP 0 rfl rfl 20 (by decide) (hts (.fieldLink RX10 51 "MixedWordsModel" "met" "[I") (by decide +kernel)) (fun _ h9 => h9) rfl dX10_taken_111 ?_
  refine lv_iload hx hb dX10_taken_114 (lv_at hl 0 rfl) ?_
  refine lv_dup2_11 hx hb dX10_taken_116 rfl rfl ?_
  refine xa_iald hx hb hK hP 11 0 rfl rfl (by omega) (by decide) dX10_taken_117 ?_
  refine xt_i (y := nI 0) (by decide +kernel) ?_
  refine lv_aload_n hx hb dX10_taken_118 rfl (lv_at hl 6 rfl) ?_
  refine va_get (D := (dC, dI)) (ci := 10) (v := .ref (h 23)) (C := RX10) (T := TX10) (N := 28) hx hb hts hinX10 hown hK hP 0 rfl rfl 23 (by decide) (hts (.fieldLink RX10 54 "MixedWordsModel" "letters" "[I") (by decide +kernel)) (fun _ h9 => h9) rfl dX10_taken_119 ?_
  refine lv_iload_n hx hb dX10_taken_122 rfl (lv_at hl 3 rfl) ?_
  refine xa_iald hx hb hK hP 12 0 rfl rfl (by omega) (by decide) dX10_taken_123 ?_
  refine xt_i (y := (-1 : Int32)) (by decide +kernel) ?_
  refine lv_aload_n hx hb dX10_taken_124 rfl (lv_at hl 6 rfl) ?_
  refine va_get (D := (dC, dI)) (ci := 10) (v := .ref (h 17)) (C := RX10) (T := TX10) (N := 28) hx hb hts hinX10 hown hK hP 0 rfl rfl 17 (by decide) (hts (.fieldLink RX10 41 "MixedWordsModel" "cols" "[I") (by decide +kernel)) (fun _ h9 => h9) rfl dX10_taken_125 ?_
  refine lv_iconst (v := nI 5) hx hb dX10_taken_128 (by decide) ?_
  refine lv_iload_n hx hb dX10_taken_129 rfl (lv_at hl 3 rfl) ?_
  refine lv_imul hx hb dX10_taken_130 ?_
  refine xt_i (y := nI 5) (by decide +kernel) ?_
  refine lv_iload hx hb dX10_taken_131 (lv_at hl 0 rfl) ?_
  refine lv_iadd hx hb dX10_taken_133 ?_
  refine xt_i (y := nI 7) (by decide +kernel) ?_
  refine xa_iald hx hb hK hP 8 0 rfl rfl (by omega) (by decide) dX10_taken_134 ?_
  refine xt_i (y := nI 0) (by decide +kernel) ?_
  refine lv_imul hx hb dX10_taken_135 ?_
  refine xt_i (y := nI 0) (by decide +kernel) ?_
  refine lv_isub hx hb dX10_taken_136 ?_
  refine xt_i (y := nI 0) (by decide +kernel) ?_
  refine xa_iastS hx hb hK hP hD hS 11 0 rfl rfl (by omega) (by decide) (by decide +kernel) dX10_taken_137 (fun H locs hP hD hS => ?_)
  refine lv_iinc (v := nI 3) (lv' := [(6, .int (nI 3)), (5, .int (nI 0)), (4, .int (nI 0)), (3, .int (nI 1)), (2, .int (nI 1)), (1, .int (nI 1)), (0, .ref (h 0))]) hx hb dX10_taken_138 hl (k := 0) rfl (by decide +kernel) (by decide) rfl (fun ls hl => ?_)
  refine lv_goto (tgt := 104) hx hb dX10_taken_141 (by decide) ?_
  refine lv_iload hx hb dX10_taken_104 (lv_at hl 0 rfl) ?_
  refine lv_iconst (v := nI 5) hx hb dX10_taken_106 (by decide) ?_
  refine lv_icmp_ge (tgt := 144) hx hb dX10_taken_107 (by decide) (fun c9 => False.elim (by revert c9; decide +kernel)) (fun _ => ?_)
  refine lv_aload_n hx hb dX10_taken_110 rfl (lv_at hl 6 rfl) ?_
  refine va_get (D := (dC, dI)) (ci := 10) (v := .ref (h 20)) (C := RX10) (T := TX10) (N := 28) hx hb hts hinX10 hown hK hP 0 rfl rfl 20 (by decide) (hts (.fieldLink RX10 51 "MixedWordsModel" "met" "[I") (by decide +kernel)) (fun _ h9 => h9) rfl dX10_taken_111 ?_
  refine lv_iload hx hb dX10_taken_114 (lv_at hl 0 rfl) ?_
  refine lv_dup2_11 hx hb dX10_taken_116 rfl rfl ?_
  refine xa_iald hx hb hK hP 11 0 rfl rfl (by omega) (by decide) dX10_taken_117 ?_
  refine xt_i (y := nI 0) (by decide +kernel) ?_
  refine lv_aload_n hx hb dX10_taken_118 rfl (lv_at hl 6 rfl) ?_
  refine va_get (D := (dC, dI)) (ci := 10) (v := .ref (h 23)) (C := RX10) (T := TX10) (N := 28) hx hb hts hinX10 hown hK hP 0 rfl rfl 23 (by decide) (hts (.fieldLink RX10 54 "MixedWordsModel" "letters" "[I") (by decide +kernel)) (fun _ h9 => h9) rfl dX10_taken_119 ?_
  refine lv_iload_n hx hb dX10_taken_122 rfl (lv_at hl 3 rfl) ?_
  refine xa_iald hx hb hK hP 12 0 rfl rfl (by omega) (by decide) dX10_taken_123 ?_
  refine xt_i (y := (-1 : Int32)) (by decide +kernel) ?_
  refine lv_aload_n hx hb dX10_taken_124 rfl (lv_at hl 6 rfl) ?_
  refine va_get (D := (dC, dI)) (ci := 10) (v := .ref (h 17)) (C := RX10) (T := TX10) (N := 28) hx hb hts hinX10 hown hK hP 0 rfl rfl 17 (by decide) (hts (.fieldLink RX10 41 "MixedWordsModel" "cols" "[I") (by decide +kernel)) (fun _ h9 => h9) rfl dX10_taken_125 ?_
  refine lv_iconst (v := nI 5) hx hb dX10_taken_128 (by decide) ?_
  refine lv_iload_n hx hb dX10_taken_129 rfl (lv_at hl 3 rfl) ?_
  refine lv_imul hx hb dX10_taken_130 ?_
  refine xt_i (y := nI 5) (by decide +kernel) ?_
  refine lv_iload hx hb dX10_taken_131 (lv_at hl 0 rfl) ?_
  refine lv_iadd hx hb dX10_taken_133 ?_
  refine xt_i (y := nI 8) (by decide +kernel) ?_
  refine xa_iald hx hb hK hP 8 0 rfl rfl (by omega) (by decide) dX10_taken_134 ?_
  refine xt_i (y := nI 0) (by decide +kernel) ?_
  refine lv_imul hx hb dX10_taken_135 ?_
  refine xt_i (y := nI 0) (by decide +kernel) ?_
  refine lv_isub hx hb dX10_taken_136 ?_
  refine xt_i (y := nI 0) (by decide +kernel) ?_
  refine xa_iastS hx hb hK hP hD hS 11 0 rfl rfl (by omega) (by decide) (by decide +kernel) dX10_taken_137 (fun H locs hP hD hS => ?_)
  refine lv_iinc (v := nI 4) (lv' := [(6, .int (nI 4)), (5, .int (nI 0)), (4, .int (nI 0)), (3, .int (nI 1)), (2, .int (nI 1)), (1, .int (nI 1)), (0, .ref (h 0))]) hx hb dX10_taken_138 hl (k := 0) rfl (by decide +kernel) (by decide) rfl (fun ls hl => ?_)
  refine lv_goto (tgt := 104) hx hb dX10_taken_141 (by decide) ?_
  refine lv_iload hx hb dX10_taken_104 (lv_at hl 0 rfl) ?_
  refine lv_iconst (v := nI 5) hx hb dX10_taken_106 (by decide) ?_
  refine lv_icmp_ge (tgt := 144) hx hb dX10_taken_107 (by decide) (fun c9 => False.elim (by revert c9; decide +kernel)) (fun _ => ?_)
  refine lv_aload_n hx hb dX10_taken_110 rfl (lv_at hl 6 rfl) ?_
  refine va_get (D := (dC, dI)) (ci := 10) (v := .ref (h 20)) (C := RX10) (T := TX10) (N := 28) hx hb hts hinX10 hown hK hP 0 rfl rfl 20 (by decide) (hts (.fieldLink RX10 51 "MixedWordsModel" "met" "[I") (by decide +kernel)) (fun _ h9 => h9) rfl dX10_taken_111 ?_
  refine lv_iload hx hb dX10_taken_114 (lv_at hl 0 rfl) ?_
  refine lv_dup2_11 hx hb dX10_taken_116 rfl rfl ?_
  refine xa_iald hx hb hK hP 11 0 rfl rfl (by omega) (by decide) dX10_taken_117 ?_
  refine xt_i (y := nI 0) (by decide +kernel) ?_
  refine lv_aload_n hx hb dX10_taken_118 rfl (lv_at hl 6 rfl) ?_
  refine va_get (D := (dC, dI)) (ci := 10) (v := .ref (h 23)) (C := RX10) (T := TX10) (N := 28) hx hb hts hinX10 hown hK hP 0 rfl rfl 23 (by decide) (hts (.fieldLink RX10 54 "MixedWordsModel" "letters" "[I") (by decide +kernel)) (fun _ h9 => h9) rfl dX10_taken_119 ?_
  refine lv_iload_n hx hb dX10_taken_122 rfl (lv_at hl 3 rfl) ?_
  refine xa_iald hx hb hK hP 12 0 rfl rfl (by omega) (by decide) dX10_taken_123 ?_
  refine xt_i (y := (-1 : Int32)) (by decide +kernel) ?_
  refine lv_aload_n hx hb dX10_taken_124 rfl (lv_at hl 6 rfl) ?_
  refine va_get (D := (dC, dI)) (ci := 10) (v := .ref (h 17)) (C := RX10) (T := TX10) (N := 28) hx hb hts hinX10 hown hK hP 0 rfl rfl 17 (by decide) (hts (.fieldLink RX10 41 "MixedWordsModel" "cols" "[I") (by decide +kernel)) (fun _ h9 => h9) rfl dX10_taken_125 ?_
  refine lv_iconst (v := nI 5) hx hb dX10_taken_128 (by decide) ?_
  refine lv_iload_n hx hb dX10_taken_129 rfl (lv_at hl 3 rfl) ?_
  refine lv_imul hx hb dX10_taken_130 ?_
  refine xt_i (y := nI 5) (by decide +kernel) ?_
  refine lv_iload hx hb dX10_taken_131 (lv_at hl 0 rfl) ?_
  refine lv_iadd hx hb dX10_taken_133 ?_
  refine xt_i (y := nI 9) (by decide +kernel) ?_
  refine xa_iald hx hb hK hP 8 0 rfl rfl (by omega) (by decide) dX10_taken_134 ?_
  refine xt_i (y := nI 0) (by decide +kernel) ?_
  refine lv_imul hx hb dX10_taken_135 ?_
  refine xt_i (y := nI 0) (by decide +kernel) ?_
  refine lv_isub hx hb dX10_taken_136 ?_
  refine xt_i (y := nI 0) (by decide +kernel) ?_
  refine xa_iastS hx hb hK hP hD hS 11 0 rfl rfl (by omega) (by decide) (by decide +kernel) dX10_taken_137 (fun H locs hP hD hS => ?_)
  refine lv_iinc (v := nI 5) (lv' := [(6, .int (nI 5)), (5, .int (nI 0)), (4, .int (nI 0)), (3, .int (nI 1)), (2, .int (nI 1)), (1, .int (nI 1)), (0, .ref (h 0))]) hx hb dX10_taken_138 hl (k := 0) rfl (by decide +kernel) (by decide) rfl (fun ls hl => ?_)
  refine lv_goto (tgt := 104) hx hb dX10_taken_141 (by decide) ?_
  refine lv_iload hx hb dX10_taken_104 (lv_at hl 0 rfl) ?_
  refine lv_iconst (v := nI 5) hx hb dX10_taken_106 (by decide) ?_
  refine lv_icmp_ge (tgt := 144) hx hb dX10_taken_107 (by decide) (fun _ => ?_) (fun c9 => False.elim (by revert c9; decide +kernel))
  refine lv_iload_n hx hb dX10_taken_144 rfl (lv_at hl 5 rfl) ?_
  refine lv_iconst (v := nI 1) hx hb dX10_taken_145 (by decide) ?_
  refine lv_iload_n hx hb dX10_taken_146 rfl (lv_at hl 3 rfl) ?_
  refine lv_ishl hx hb dX10_taken_147 ?_
  refine xt_i (y := nI 2) (by decide +kernel) ?_
  refine lv_ior hx hb dX10_taken_148 ?_
  refine xt_i (y := nI 3) (by decide +kernel) ?_
  refine lv_istore_n (lv' := [(1, .int (nI 3)), (6, .int (nI 5)), (5, .int (nI 0)), (4, .int (nI 0)), (3, .int (nI 1)), (2, .int (nI 1)), (0, .ref (h 0))]) hx hb dX10_taken_149 rfl hl (by decide) rfl (fun ls hl => ?_)
  refine lv_iinc (v := nI 2) (lv' := [(2, .int (nI 2)), (1, .int (nI 3)), (6, .int (nI 5)), (5, .int (nI 0)), (4, .int (nI 0)), (3, .int (nI 1)), (0, .ref (h 0))]) hx hb dX10_taken_150 hl (k := 5) rfl (by decide +kernel) (by decide) rfl (fun ls hl => ?_)
  refine lv_goto (tgt := 12) hx hb dX10_taken_153 (by decide) ?_
  refine lv_iload_n hx hb dX10_taken_12 rfl (lv_at hl 0 rfl) ?_
  refine lv_aload_n hx hb dX10_taken_13 rfl (lv_at hl 6 rfl) ?_
  refine va_get (D := (dC, dI)) (ci := 10) (v := .int (gI 1)) (C := RX10) (T := TX10) (N := 28) hx hb hts hinX10 hown hK hP 0 rfl rfl 1 (by decide) (hts (.fieldLink RX10 13 "MixedWordsModel" "columns" "I") (by decide +kernel)) (fun _ h9 => h9) rfl dX10_taken_14 ?_
  refine xt_i (y := nI 2) (by decide +kernel) ?_
  refine lv_icmp_ge (tgt := 156) hx hb dX10_taken_17 (by decide) (fun _ => ?_) (fun c9 => False.elim (by revert c9; decide +kernel))
  refine lv_aload_n hx hb dX10_taken_156 rfl (lv_at hl 6 rfl) ?_
  refine lv_aload_n hx hb dX10_taken_157 rfl (lv_at hl 6 rfl) ?_
  refine va_get (D := (dC, dI)) (ci := 10) (v := .ref (h 23)) (C := RX10) (T := TX10) (N := 28) hx hb hts hinX10 hown hK hP 0 rfl rfl 23 (by decide) (hts (.fieldLink RX10 54 "MixedWordsModel" "letters" "[I") (by decide +kernel)) (fun _ h9 => h9) rfl dX10_taken_158 ?_
  have hP : va_P (dC, dI) vwCl (rW h cs gI gL qA_236 gQ) H := hP
  have hD : va_D A0 (rW h cs gI gL qA_236 gQ) := hD
  refine xj_i (wc := (wD_177 h cs gI gL qA_236 gQ)) (wr := ([] : va_W)) hP hD hS hA [0, 1, 2, 3, 4, 5, 6, 7, 8, 9, 10, 11, 12, 13, 14, 15, 16] [] rfl rfl (by decide) (by decide) (va_runV (As := [.ref (h 23)]) (rest := []) ⟨hx, hb, hml, hown, hts⟩ (a_X10_numberOf_237 l dC dI h cs H.size gI gL qA_236 gQ ) (cwV 1 hts gX10_taken_X10_numberOf rfl rfl rfl (by decide +kernel) ⟨Nat.le_of_ble_eq_true rfl, Nat.le_of_ble_eq_true rfl⟩) (xpV (wc := (wD_177 h cs gI gL qA_236 gQ)) hP hD hK hN [0, 1, 2, 3, 4, 5, 6, 7, 8, 9, 10, 11, 12, 13, 14, 15, 16] rfl (by decide) 0 (ci := 10) rfl rfl _) rfl rfl hl.1 rfl (lv_room (Nat.le_of_ble_eq_true rfl)) dX10_taken_161 ⟨Nat.zero_le _, Nat.zero_le _⟩) (fun r_20 u_19 H locs hw hP hD hS => ?_)
  obtain ⟨hf_21, rfl⟩ := hw
  have hP : va_P (dC, dI) vwCl (rW h cs gI gL qA_236 gQ) H := hP
  have hD : va_D A0 (rW h cs gI gL qA_236 gQ) := hD
  obtain rfl := hf_21
  exact xr_i (v := (nI 0)) hx hb hr hlocks hK hS dX10_taken_164 (gI, gL, qA_236, gQ) ⟨rfl, rfl⟩ hP hD
