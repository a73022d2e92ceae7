def qI_238 : Nat → Int32 := (va_up gI 12 (-1))
set_option maxHeartbeats 4000000 in
set_option maxRecDepth 100000 in
theorem a_X10_next_241 (l : Launch) (dC : Nat → ClassId) (dI : Nat → Nat → Nat) (h : Nat → Nat) (cs : Nat → ClassId) (sz : Nat) (I : Nat → Int32) (L : Nat → Int64) (A : Nat → Nat → Int32) (Q : Nat → Nat → Int64) : Met l yX10_next wsX10_next ({ frames := 0, cells := 0, slots := 0, locals := 0 }) (va_Pc [.ref (h 0)] (xPre (dC, dI) (wD_177 h cs qI_238 gL gA gQ) (tysA cs) sz)) (va_Qi (fun (r : Int32) (u : RS) => (r = nI 0) ∧ u = (qI_238, gL, gA, gQ)) (xB (dC, dI) (tysA cs) (va_A (wD_177 h cs qI_238 gL gA gQ) sz) (fun u : RS => wD_177 h cs u.1 u.2.1 u.2.2.1 u.2.2.2)) (va_A (wD_177 h cs qI_238 gL gA gQ) sz)) 0 0 (va_A (wD_177 h cs qI_238 gL gA gQ) sz) := by
  refine Met.ofW (cc := cX10_next) (maxL := 1) (ret := (some .int)) (by decide) rfl ?_
  intro p e s m args below meth c s₁ B hml hv
  obtain ⟨rfl, hsz, hP, hK, hD0, hN⟩ := hv
  have hx := B.exec
  have hb := B.bytes
  have hr := B.returns
  have hts := atoms_spec (ws := wsX10_next) B.pre
  have hown : s.vm.findClass RX10 = some m.cls := findClass_of_methodNamed B.named
  have hlocks := B.notSynchronized
  subst hsz
  have hD := hD0.self (sz := s.heap.size)
  generalize hAe : va_A (wD_177 h cs qI_238 gL gA gQ) s.heap.size = A0 at hD ⊢
  have hA : ∀ q : Nat, s.heap.size ≤ q → A0 q := fun q h => by rw [← hAe]; exact Or.inr h
  have hl := lv_entry ([.ref (h 0)]) (n := 1) (Nat.le_of_ble_eq_true rfl)
  rw [lg_entry_eq]
  generalize (lg_sl ([.ref (h 0)]) ++ List.replicate (1 - (lg_sl ([.ref (h 0)])).length) Slot.unset).toArray = ls at hl ⊢
  have hl : lv_has ls 1 [(0, .ref (h 0))] := hl
  generalize hH : s.heap = H at hP ⊢
  have hS : va_S A0 s.heap H [] := by rw [← hH]; exact va_S.rf
  have hinX10 : ∀ w ∈ wsX100, w ∈ wsX10_next := by decide +kernel
  refine lv_aload_n hx hb dX10_next_0 rfl (lv_at hl 0 rfl) ?_
  refine va_get (D := (dC, dI)) (ci := 10) (v := .int (qI_238 11)) (C := RX10) (T := TX10) (N := 28) hx hb hts hinX10 hown hK hP 0 rfl rfl 11 (by decide) (hts (.fieldLink RX10 119 "MixedWordsModel" "at" "I") (by decide +kernel)) (fun _ h9 => h9) rfl dX10_next_1 ?_
  refine xt_i (y := nI 0) (by decide +kernel) ?_
  refine lv_aload_n hx hb dX10_next_4 rfl (lv_at hl 0 rfl) ?_
  refine va_get (D := (dC, dI)) (ci := 10) (v := .int (qI_238 10)) (C := RX10) (T := TX10) (N := 28) hx hb hts hinX10 hown hK hP 0 rfl rfl 10 (by decide) (hts (.fieldLink RX10 116 "MixedWordsModel" "taped" "I") (by decide +kernel)) (fun _ h9 => h9) rfl dX10_next_5 ?_
  refine xt_i (y := nI 0) (by decide +kernel) ?_
  refine lv_icmp_ge (tgt := 38) hx hb dX10_next_8 (by decide) (fun _ => ?_) (fun c9 => False.elim (by revert c9; decide +kernel))
  refine lv_aload_n hx hb dX10_next_38 rfl (lv_at hl 0 rfl) ?_
  refine va_get (D := (dC, dI)) (ci := 10) (v := .int (qI_238 11)) (C := RX10) (T := TX10) (N := 28) hx hb hts hinX10 hown hK hP 0 rfl rfl 11 (by decide) (hts (.fieldLink RX10 119 "MixedWordsModel" "at" "I") (by decide +kernel)) (fun _ h9 => h9) rfl dX10_next_39 ?_
  refine xt_i (y := nI 0) (by decide +kernel) ?_
  refine lv_aload_n hx hb dX10_next_42 rfl (lv_at hl 0 rfl) ?_
  refine va_get (D := (dC, dI)) (ci := 10) (v := .int (qI_238 10)) (C := RX10) (T := TX10) (N := 28) hx hb hts hinX10 hown hK hP 0 rfl rfl 10 (by decide) (hts (.fieldLink RX10 116 "MixedWordsModel" "taped" "I") (by decide +kernel)) (fun _ h9 => h9) rfl dX10_next_43 ?_
  refine xt_i (y := nI 0) (by decide +kernel) ?_
  refine lv_icmp_ge (tgt := 61) hx hb dX10_next_46 (by decide) (fun _ => ?_) (fun c9 => False.elim (by revert c9; decide +kernel))
  refine lv_iconst (v := nI 0) hx hb dX10_next_61 (by decide) ?_
  exact xr_i (v := (nI 0)) hx hb hr hlocks hK hS dX10_next_62 (qI_238, gL, gA, gQ) ⟨rfl, rfl⟩ hP hD
set_option maxHeartbeats 4000000 in
set_option maxRecDepth 100000 in
theorem a_X10_in_242 (l : Launch) (dC : Nat → ClassId) (dI : Nat → Nat → Nat) (h : Nat → Nat) (cs : Nat → ClassId) (sz : Nat) (I : Nat → Int32) (L : Nat → Int64) (A : Nat → Nat → Int32) (Q : Nat → Nat → Int64) : Met l yX10_in wsX10_in ({ frames := 0, cells := 0, slots := 0, locals := 0 }) (va_Pc [.long (0 : Int64), .long (48 : Int64), .long (57 : Int64)] (xPre (dC, dI) ([] : va_W) (tysA cs) sz)) (va_Qi (fun (r : Int32) (u : RS) => (r = nI 0) ∧ u = (I, L, A, Q)) (xB (dC, dI) (tysA cs) (va_A ([] : va_W) sz) (fun _ : RS => ([] : va_W))) (va_A ([] : va_W) sz)) 0 0 (va_A ([] : va_W) sz) := by
  refine Met.ofW (cc := cX10_in) (maxL := 6) (ret := (some .boolean)) (by decide) rfl ?_
  intro p e s m args below meth c s₁ B hml hv
  obtain ⟨rfl, hsz, hP, hK, hD0, hN⟩ := hv
  have hx := B.exec
  have hb := B.bytes
  have hr := B.returns
  have hts := atoms_spec (ws := wsX10_in) B.pre
  have hown : s.vm.findClass RX10 = some m.cls := findClass_of_methodNamed B.named
  have hlocks := B.notSynchronized
  subst hsz
  have hD := hD0.self (sz := s.heap.size)
  generalize hAe : va_A ([] : va_W) s.heap.size = A0 at hD ⊢
  have hA : ∀ q : Nat, s.heap.size ≤ q → A0 q := fun q h => by rw [← hAe]; exact Or.inr h
  have hl := lv_entry ([.long (0 : Int64), .long (48 : Int64), .long (57 : Int64)]) (n := 6) (Nat.le_of_ble_eq_true rfl)
  rw [lg_entry_eq]
  generalize (lg_sl ([.long (0 : Int64), .long (48 : Int64), .long (57 : Int64)]) ++ List.replicate (6 - (lg_sl ([.long (0 : Int64), .long (48 : Int64), .long (57 : Int64)])).length) Slot.unset).toArray = ls at hl ⊢
  have hl : lv_has ls 6 [(0, .long (0 : Int64)), (2, .long (48 : Int64)), (4, .long (57 : Int64))] := hl
  generalize hH : s.heap = H at hP ⊢
  have hS : va_S A0 s.heap H [] := by rw [← hH]; exact va_S.rf
  refine lv_lload_n hx hb dX10_in_0 rfl (lv_at hl 0 rfl) ?_
  refine lv_lload_n hx hb dX10_in_1 rfl (lv_at hl 1 rfl) ?_
  refine xl_lt (tgt := 17) hx hb dX10_in_2 dX10_in_3 (by decide) (fun _ => ?_) (fun c9 => False.elim (by revert c9; decide +kernel))
  refine lv_iconst (v := nI 0) hx hb dX10_in_17 (by decide) ?_
  exact xr_z (v := (nI 0)) hx hb hr hlocks hK hS dX10_in_18 (rfl) (I, L, A, Q) ⟨rfl, rfl⟩ hP hD
def qI_244 : Nat → Int32 := (va_up qI_238 12 (nI 0))
set_option maxHeartbeats 4000000 in
set_option maxRecDepth 100000 in
theorem a_X10_fails_243 (l : Launch) (dC : Nat → ClassId) (dI : Nat → Nat → Nat) (h : Nat → Nat) (cs : Nat → ClassId) (sz : Nat) (I : Nat → Int32) (L : Nat → Int64) (A : Nat → Nat → Int32) (Q : Nat → Nat → Int64) : Met l yX10_fails wsX10_fails ({ frames := 0, cells := 0, slots := 0, locals := 0 }) (va_Pc [.ref (h 0), .int (nI 0)] (xPre (dC, dI) (wD_177 h cs qI_238 gL gA gQ) (tysA cs) sz)) (va_Qv (fun (u : RS) => (True) ∧ u = (qI_244, gL, gA, gQ)) (xB (dC, dI) (tysA cs) (va_A (wD_177 h cs qI_238 gL gA gQ) sz) (fun u : RS => wD_177 h cs u.1 u.2.1 u.2.2.1 u.2.2.2)) (va_A (wD_177 h cs qI_238 gL gA gQ) sz)) 0 0 (va_A (wD_177 h cs qI_238 gL gA gQ) sz) := by
  refine Met.ofW (cc := cX10_fails) (maxL := 2) (ret := none) (by decide) rfl ?_
  intro p e s m args below meth c s₁ B hml hv
  obtain ⟨rfl, hsz, hP, hK, hD0, hN⟩ := hv
  have hx := B.exec
  have hb := B.bytes
  have hr := B.returns
  have hts := atoms_spec (ws := wsX10_fails) B.pre
  have hown : s.vm.findClass RX10 = some m.cls := findClass_of_methodNamed B.named
  have hlocks := B.notSynchronized
  subst hsz
  have hD := hD0.self (sz := s.heap.size)
  generalize hAe : va_A (wD_177 h cs qI_238 gL gA gQ) s.heap.size = A0 at hD ⊢
  have hA : ∀ q : Nat, s.heap.size ≤ q → A0 q := fun q h => by rw [← hAe]; exact Or.inr h
  have hl := lv_entry ([.ref (h 0), .int (nI 0)]) (n := 2) (Nat.le_of_ble_eq_true rfl)
  rw [lg_entry_eq]
  generalize (lg_sl ([.ref (h 0), .int (nI 0)]) ++ List.replicate (2 - (lg_sl ([.ref (h 0), .int (nI 0)])).length) Slot.unset).toArray = ls at hl ⊢
  have hl : lv_has ls 2 [(0, .ref (h 0)), (1, .int (nI 0))] := hl
  generalize hH : s.heap = H at hP ⊢
  have hS : va_S A0 s.heap H [] := by rw [← hH]; exact va_S.rf
  have hinX10 : ∀ w ∈ wsX100, w ∈ wsX10_fails := by decide +kernel
  refine lv_aload_n hx hb dX10_fails_0 rfl (lv_at hl 0 rfl) ?_
  refine lv_aload_n hx hb dX10_fails_1 rfl (lv_at hl 0 rfl) ?_
  refine va_get (D := (dC, dI)) (ci := 10) (v := .int (qI_238 12)) (C := RX10) (T := TX10) (N := 28) hx hb hts hinX10 hown hK hP 0 rfl rfl 12 (by decide) (hts (.fieldLink RX10 122 "MixedWordsModel" "wrong" "I") (by decide +kernel)) (fun _ h9 => h9) rfl dX10_fails_2 ?_
  refine xt_i (y := (-1 : Int32)) (by decide +kernel) ?_
  refine lv_if_ge (tgt := 12) hx hb dX10_fails_5 (by decide) (fun c9 => False.elim (by revert c9; decide +kernel)) (fun _ => ?_)
  refine lv_iload_n hx hb dX10_fails_8 rfl (lv_at hl 1 rfl) ?_
  refine lv_goto (tgt := 16) hx hb dX10_fails_9 (by decide) ?_
  refine va_put (D := (dC, dI)) (ci := 10) (v := .int (nI 0)) (ty := .int) (C := RX10) (T := TX10) (N := 28) hx hb hts hinX10 tyX10 tyX10_ok nmX10 hown hK hP hD hS 0 rfl rfl 12 (by decide) (hts (.fieldLink RX10 122 "MixedWordsModel" "wrong" "I") (by decide +kernel)) (fun _ h9 => h9) rfl (by decide +kernel) rfl rfl (Nat.le_of_ble_eq_true rfl) dX10_fails_16 (fun H locs hP hD hS => ?_)
  have hP : va_P (dC, dI) vwCl (wD_177 h cs (va_up qI_238 12 (nI 0)) gL gA gQ) H := hP
  have hD : va_D A0 (wD_177 h cs (va_up qI_238 12 (nI 0)) gL gA gQ) := hD
  have hP : va_P (dC, dI) vwCl (wD_177 h cs qI_244 gL gA gQ) H := hP
  have hD : va_D A0 (wD_177 h cs qI_244 gL gA gQ) := hD
  exact xr_v hx hb hr hlocks hK hS dX10_fails_19 (qI_244, gL, gA, gQ) ⟨trivial, rfl⟩ hP hD
set_option maxHeartbeats 4000000 in
set_option maxRecDepth 100000 in
theorem a_X10_number_240 (l : Launch) (dC : Nat → ClassId) (dI : Nat → Nat → Nat) (h : Nat → Nat) (cs : Nat → ClassId) (sz : Nat) (I : Nat → Int32) (L : Nat → Int64) (A : Nat → Nat → Int32) (Q : Nat → Nat → Int64) : Met l yX10_number wsX10_number ({ frames := 1, cells := 0, slots := 0, locals := 25 }) (va_Pc [.ref (h 0)] (xPre (dC, dI) (wD_177 h cs qI_238 gL gA gQ) (tysA cs) sz)) (va_Qi (fun (r : Int32) (u : RS) => (r = nI 0) ∧ u = (qI_244, gL, gA, gQ)) (xB (dC, dI) (tysA cs) (va_A (wD_177 h cs qI_238 gL gA gQ) sz) (fun u : RS => wD_177 h cs u.1 u.2.1 u.2.2.1 u.2.2.2)) (va_A (wD_177 h cs qI_238 gL gA gQ) sz)) 0 0 (va_A (wD_177 h cs qI_238 gL gA gQ) sz) := by
  refine Met.ofW (cc := cX10_number) (maxL := 4) (ret := (some .int)) (by decide) rfl ?_
  intro p e s m args below meth c s₁ B hml hv
  obtain ⟨rfl, hsz, hP, hK, hD0, hN⟩ := hv
  have hx := B.exec
  have hb := B.bytes
  have hr := B.returns
  have hts := atoms_spec (ws := wsX10_number) B.pre
  have hown : s.vm.findClass RX10 = some m.cls := findClass_of_methodNamed B.named
  have hlocks := B.notSynchronized
  subst hsz
  have hD := hD0.self (sz := s.heap.size)
  generalize hAe : va_A (wD_177 h cs qI_238 gL gA gQ) s.heap.size = A0 at hD ⊢
  have hA : ∀ q : Nat, s.heap.size ≤ q → A0 q := fun q h => by rw [← hAe]; exact Or.inr h
  have hl := lv_entry ([.ref (h 0)]) (n := 4) (Nat.le_of_ble_eq_true rfl)
  rw [lg_entry_eq]
  generalize (lg_sl ([.ref (h 0)]) ++ List.replicate (4 - (lg_sl ([.ref (h 0)])).length) Slot.unset).toArray = ls at hl ⊢
  have hl : lv_has ls 4 [(0, .ref (h 0))] := hl
  generalize hH : s.heap = H at hP ⊢
  have hS : va_S A0 s.heap H [] := by rw [← hH]; exact va_S.rf
  have hinX10 : ∀ w ∈ wsX100, w ∈ wsX10_number := by decide +kernel
  refine lv_aload_n hx hb dX10_number_0 rfl (lv_at hl 0 rfl) ?_
  refine xj_i (wc := (wD_177 h cs qI_238 gL gA gQ)) (wr := ([] : va_W)) hP hD hS hA [0, 1, 2, 3, 4, 5, 6, 7, 8, 9, 10, 11, 12, 13, 14, 15, 16] [] rfl rfl (by decide) (by decide) (va_runV (As := []) (rest := []) ⟨hx, hb, hml, hown, hts⟩ (a_X10_next_241 l dC dI h cs H.size qI_238 gL gA gQ ) (cwV 0 hts gX10_number_X10_next rfl rfl rfl (by decide +kernel) ⟨Nat.le_of_ble_eq_true rfl, Nat.le_of_ble_eq_true rfl⟩) (xpV (wc := (wD_177 h cs qI_238 gL gA gQ)) hP hD hK hN [0, 1, 2, 3, 4, 5, 6, 7, 8, 9, 10, 11, 12, 13, 14, 15, 16] rfl (by decide) 0 (ci := 10) rfl rfl _) rfl rfl hl.1 rfl (lv_room (Nat.le_of_ble_eq_true rfl)) dX10_number_1 ⟨Nat.zero_le _, Nat.zero_le _⟩) (fun r_2 u_1 H locs hw hP hD hS => ?_)
  obtain ⟨hf_3, rfl⟩ := hw
  have hP : va_P (dC, dI) vwCl (wD_177 h cs qI_238 gL gA gQ) H := hP
  have hD : va_D A0 (wD_177 h cs qI_238 gL gA gQ) := hD
  obtain rfl := hf_3
  refine lv_bipush (v := nI 45) hx hb dX10_number_4 (by decide) ?_
  refine lv_icmp_ne (tgt := 13) hx hb dX10_number_6 (by decide) (fun _ => ?_) (fun c9 => False.elim (by revert c9; decide +kernel))
  refine lv_iconst (v := nI 0) hx hb dX10_number_13 (by decide) ?_
  refine lv_istore_n (lv' := [(1, .int (nI 0)), (0, .ref (h 0))]) hx hb dX10_number_14 rfl hl (by decide) rfl (fun ls hl => ?_)
  refine lv_aload_n hx hb dX10_number_15 rfl (lv_at hl 1 rfl) ?_
  refine lv_dup hx hb dX10_number_16 rfl ?_
  refine va_get (D := (dC, dI)) (ci := 10) (v := .int (qI_238 11)) (C := RX10) (T := TX10) (N := 28) hx hb hts hinX10 hown hK hP 0 rfl rfl 11 (by decide) (hts (.fieldLink RX10 119 "MixedWordsModel" "at" "I") (by decide +kernel)) (fun _ h9 => h9) rfl dX10_number_17 ?_
  refine xt_i (y := nI 0) (by decide +kernel) ?_
  refine lv_iload_n hx hb dX10_number_20 rfl (lv_at hl 0 rfl) ?_
  refine lv_if_eq (tgt := 28) hx hb dX10_number_21 (by decide) (fun _ => ?_) (fun c9 => False.elim (by revert c9; decide +kernel))
  refine lv_iconst (v := nI 0) hx hb dX10_number_28 (by decide) ?_
  refine lv_iadd hx hb dX10_number_29 ?_
  refine xt_i (y := nI 0) (by decide +kernel) ?_
  refine va_put (D := (dC, dI)) (ci := 10) (v := .int (nI 0)) (ty := .int) (C := RX10) (T := TX10) (N := 28) hx hb hts hinX10 tyX10 tyX10_ok nmX10 hown hK hP hD hS 0 rfl rfl 11 (by decide) (hts (.fieldLink RX10 119 "MixedWordsModel" "at" "I") (by decide +kernel)) (fun _ h9 => h9) rfl (by decide +kernel) rfl rfl (Nat.le_of_ble_eq_true rfl) dX10_number_30 (fun H locs hP hD hS => ?_)
  have hP : va_P (dC, dI) vwCl (wD_177 h cs qI_238 gL gA gQ) H := hP
  have hD : va_D A0 (wD_177 h cs qI_238 gL gA gQ) := hD
  refine lv_aload_n hx hb dX10_number_33 rfl (lv_at hl 1 rfl) ?_
  refine xj_i (wc := (wD_177 h cs qI_238 gL gA gQ)) (wr := ([] : va_W)) hP hD hS hA [0, 1, 2, 3, 4, 5, 6, 7, 8, 9, 10, 11, 12, 13, 14, 15, 16] [] rfl rfl (by decide) (by decide) (va_runV (As := []) (rest := []) ⟨hx, hb, hml, hown, hts⟩ (a_X10_next_241 l dC dI h cs H.size qI_238 gL gA gQ ) (cwV 0 hts gX10_number_X10_next rfl rfl rfl (by decide +kernel) ⟨Nat.le_of_ble_eq_true rfl, Nat.le_of_ble_eq_true rfl⟩) (xpV (wc := (wD_177 h cs qI_238 gL gA gQ)) hP hD hK hN [0, 1, 2, 3, 4, 5, 6, 7, 8, 9, 10, 11, 12, 13, 14, 15, 16] rfl (by decide) 0 (ci := 10) rfl rfl _) rfl rfl hl.1 rfl (lv_room (Nat.le_of_ble_eq_true rfl)) dX10_number_34 ⟨Nat.zero_le _, Nat.zero_le _⟩) (fun r_5 u_4 H locs hw hP hD hS => ?_)
  obtain ⟨hf_6, rfl⟩ := hw
  have hP : va_P (dC, dI) vwCl (wD_177 h cs qI_238 gL gA gQ) H := hP
  have hD : va_D A0 (wD_177 h cs qI_238 gL gA gQ) := hD
  obtain rfl := hf_6
  refine lv_i2l (v := (0 : Int64)) hx hb dX10_number_37 (by decide +kernel) ?_
  refine lv_ldc2 (v := 48) hx hb hown (hts (.constantLong RX10 129 (48)) (by decide +kernel)) dX10_number_38 ?_
  refine lv_ldc2 (v := 57) hx hb hown (hts (.constantLong RX10 131 (57)) (by decide +kernel)) dX10_number_41 ?_
  refine xj_i (wc := ([] : va_W)) (wr := (wD_177 h cs qI_238 gL gA gQ)) hP hD hS hA [] [0, 1, 2, 3, 4, 5, 6, 7, 8, 9, 10, 11, 12, 13, 14, 15, 16] rfl rfl (by decide) (by decide) (va_runS (As := [.long (0 : Int64), .long (48 : Int64), .long (57 : Int64)]) (rest := []) ⟨hx, hb, hml, hown, hts⟩ (a_X10_in_242 l dC dI h cs H.size I L A Q ) (va_cwS 3 hts gX10_number_X10_in rfl rfl rfl (by decide +kernel) ⟨Nat.le_of_ble_eq_true rfl, Nat.le_of_ble_eq_true rfl⟩) (xpS (wc := ([] : va_W)) hP hD hK hN [] rfl (by decide) _) rfl rfl hl.1 rfl (lv_room (Nat.le_of_ble_eq_true rfl)) dX10_number_44 ⟨Nat.zero_le _, Nat.zero_le _⟩) (fun r_8 u_7 H locs hw hP hD hS => ?_)
  obtain ⟨hf_9, rfl⟩ := hw
  have hP : va_P (dC, dI) vwCl (wD_177 h cs qI_238 gL gA gQ) H := hP
  have hD : va_D A0 (wD_177 h cs qI_238 gL gA gQ) := hD
  obtain rfl := hf_9
  refine lv_if_ne (tgt := 60) hx hb dX10_number_47 (by decide) (fun c9 => False.elim (by revert c9; decide +kernel)) (fun _ => ?_)
  refine lv_aload_n hx hb dX10_number_50 rfl (lv_at hl 1 rfl) ?_
  refine lv_aload_n hx hb dX10_number_51 rfl (lv_at hl 1 rfl) ?_
  refine va_get (D := (dC, dI)) (ci := 10) (v := .int (qI_238 11)) (C := RX10) (T := TX10) (N := 28) hx hb hts hinX10 hown hK hP 0 rfl rfl 11 (by decide) (hts (.fieldLink RX10 119 "MixedWordsModel" "at" "I") (by decide +kernel)) (fun _ h9 => h9) rfl dX10_number_52 ?_
  refine xt_i (y := nI 0) (by decide +kernel) ?_
  refine xj_v (wc := (wD_177 h cs qI_238 gL gA gQ)) (wr := ([] : va_W)) hP hD hS hA [0, 1, 2, 3, 4, 5, 6, 7, 8, 9, 10, 11, 12, 13, 14, 15, 16] [] rfl rfl (by decide) (by decide) (va_runV (As := [.int (nI 0)]) (rest := []) ⟨hx, hb, hml, hown, hts⟩ (a_X10_fails_243 l dC dI h cs H.size qI_238 gL gA gQ ) (cwV 1 hts gX10_number_X10_fails rfl rfl rfl (by decide +kernel) ⟨Nat.le_of_ble_eq_true rfl, Nat.le_of_ble_eq_true rfl⟩) (xpV (wc := (wD_177 h cs qI_238 gL gA gQ)) hP hD hK hN [0, 1, 2, 3, 4, 5, 6, 7, 8, 9, 10, 11, 12, 13, 14, 15, 16] rfl (by decide) 0 (ci := 10) rfl rfl _) rfl rfl hl.1 rfl (lv_room (Nat.le_of_ble_eq_true rfl)) dX10_number_55 ⟨Nat.zero_le _, Nat.zero_le _⟩) (fun u_10 H locs hw hP hD hS => ?_)
  obtain ⟨hf_12, rfl⟩ := hw
  have hP : va_P (dC, dI) vwCl (wD_177 h cs qI_244 gL gA gQ) H := hP
  have hD : va_D A0 (wD_177 h cs qI_244 gL gA gQ) := hD
  refine lv_iconst (v := nI 0) hx hb dX10_number_58 (by decide) ?_
  exact xr_i (v := (nI 0)) hx hb hr hlocks hK hS dX10_number_59 (qI_244, gL, gA, gQ) ⟨rfl, rfl⟩ hP hD
set_option maxHeartbeats 4000000 in
set_option maxRecDepth 100000 in
theorem a_X10_row_239 (l : Launch) (dC : Nat → ClassId) (dI : Nat → Nat → Nat) (h : Nat → Nat) (cs : Nat → ClassId) (sz : Nat) (I : Nat → Int32) (L : Nat → Int64) (A : Nat → Nat → Int32) (Q : Nat → Nat → Int64) : Met l yX10_row wsX10_row ({ frames := 2, cells := 0, slots := 0, locals := 48 }) (va_Pc [.ref (h 0), .int (nI 4)] (xPre (dC, dI) (wD_177 h cs qI_238 gL gA gQ) (tysA cs) sz)) (va_Qi (fun (r : Int32) (u : RS) => (r = nI 1) ∧ u = (qI_244, gL, gA, gQ)) (xB (dC, dI) (tysA cs) (va_A (wD_177 h cs qI_238 gL gA gQ) sz) (fun u : RS => wD_177 h cs u.1 u.2.1 u.2.2.1 u.2.2.2)) (va_A (wD_177 h cs qI_238 gL gA gQ) sz)) 0 0 (va_A (wD_177 h cs qI_238 gL gA gQ) sz) := by
  refine Met.ofW (cc := cX10_row) (maxL := 4) (ret := (some .int)) (by decide) rfl ?_
  intro p e s m args below meth c s₁ B hml hv
  obtain ⟨rfl, hsz, hP, hK, hD0, hN⟩ := hv
  have hx := B.exec
  have hb := B.bytes
  have hr := B.returns
  have hts := atoms_spec (ws := wsX10_row) B.pre
  have hown : s.vm.findClass RX10 = some m.cls := findClass_of_methodNamed B.named
  have hlocks := B.notSynchronized
  subst hsz
  have hD := hD0.self (sz := s.heap.size)
  generalize hAe : va_A (wD_177 h cs qI_238 gL gA gQ) s.heap.size = A0 at hD ⊢
  have hA : ∀ q : Nat, s.heap.size ≤ q → A0 q := fun q h => by rw [← hAe]; exact Or.inr h
  have hl := lv_entry ([.ref (h 0), .int (nI 4)]) (n := 4) (Nat.le_of_ble_eq_true rfl)
  rw [lg_entry_eq]
  generalize (lg_sl ([.ref (h 0), .int (nI 4)]) ++ List.replicate (4 - (lg_sl ([.ref (h 0), .int (nI 4)])).length) Slot.unset).toArray = ls at hl ⊢
  have hl : lv_has ls 4 [(0, .ref (h 0)), (1, .int (nI 4))] := hl
  generalize hH : s.heap = H at hP ⊢
  have hS : va_S A0 s.heap H [] := by rw [← hH]; exact va_S.rf
  have hinX10 : ∀ w ∈ wsX100, w ∈ wsX10_row := by decide +kernel
  refine lv_iconst (v := nI 0) hx hb dX10_row_0 (by decide) ?_
  refine lv_istore_n (lv' := [(2, .int (nI 0)), (0, .ref (h 0)), (1, .int (nI 4))]) hx hb dX10_row_1 rfl hl (by decide) rfl (fun ls hl => ?_)
  refine lv_iconst (v := nI 1) hx hb dX10_row_2 (by decide) ?_
  refine lv_istore_n (lv' := [(3, .int (nI 1)), (2, .int (nI 0)), (0, .ref (h 0)), (1, .int (nI 4))]) hx hb dX10_row_3 rfl hl (by decide) rfl (fun ls hl => ?_)
  refine lv_iload_n hx hb dX10_row_4 rfl (lv_at hl 0 rfl) ?_
  refine lv_if_eq (tgt := 76) hx hb dX10_row_5 (by decide) (fun c9 => False.elim (by revert c9; decide +kernel)) (fun _ => ?_)
  refine lv_aload_n hx hb dX10_row_8 rfl (lv_at hl 2 rfl) ?_
  refine va_get (D := (dC, dI)) (ci := 10) (v := .ref (h 13)) (C := RX10) (T := TX10) (N := 28) hx hb hts hinX10 hown hK hP 0 rfl rfl 13 (by decide) (hts (.fieldLink RX10 35 "MixedWordsModel" "readAt" "[I") (by decide +kernel)) (fun _ h9 => h9) rfl dX10_row_9 ?_
  refine lv_iconst (v := nI 4) hx hb dX10_row_12 (by decide) ?_
  refine lv_aload_n hx hb dX10_row_13 rfl (lv_at hl 2 rfl) ?_
  refine va_get (D := (dC, dI)) (ci := 10) (v := .int (qI_238 14)) (C := RX10) (T := TX10) (N := 28) hx hb hts hinX10 hown hK hP 0 rfl rfl 14 (by decide) (hts (.fieldLink RX10 137 "MixedWordsModel" "readRows" "I") (by decide +kernel)) (fun _ h9 => h9) rfl dX10_row_14 ?_
  refine xt_i (y := nI 0) (by decide +kernel) ?_
  refine lv_imul hx hb dX10_row_17 ?_
  refine xt_i (y := nI 0) (by decide +kernel) ?_
  refine lv_iload_n hx hb dX10_row_18 rfl (lv_at hl 1 rfl) ?_
  refine lv_iadd hx hb dX10_row_19 ?_
  refine xt_i (y := nI 0) (by decide +kernel) ?_
  refine lv_aload_n hx hb dX10_row_20 rfl (lv_at hl 2 rfl) ?_
  refine xj_i (wc := (wD_177 h cs qI_238 gL gA gQ)) (wr := ([] : va_W)) hP hD hS hA [0, 1, 2, 3, 4, 5, 6, 7, 8, 9, 10, 11, 12, 13, 14, 15, 16] [] rfl rfl (by decide) (by decide) (va_runV (As := []) (rest := [.int (nI 0), .ref (h 13)]) ⟨hx, hb, hml, hown, hts⟩ (a_X10_number_240 l dC dI h cs H.size qI_238 gL gA gQ ) (cwV 0 hts gX10_row_X10_number rfl rfl rfl (by decide +kernel) ⟨Nat.le_of_ble_eq_true rfl, Nat.le_of_ble_eq_true rfl⟩) (xpV (wc := (wD_177 h cs qI_238 gL gA gQ)) hP hD hK hN [0, 1, 2, 3, 4, 5, 6, 7, 8, 9, 10, 11, 12, 13, 14, 15, 16] rfl (by decide) 0 (ci := 10) rfl rfl _) rfl rfl hl.1 rfl (lv_room (Nat.le_of_ble_eq_true rfl)) dX10_row_21 ⟨Nat.zero_le _, Nat.zero_le _⟩) (fun r_2 u_1 H locs hw hP hD hS => ?_)
  obtain ⟨hf_3, rfl⟩ := hw
  have hP : va_P (dC, dI) vwCl (wD_177 h cs qI_244 gL gA gQ) H := hP
  have hD : va_D A0 (wD_177 h cs qI_244 gL gA gQ) := hD
  obtain rfl := hf_3
  refine xa_iastS hx hb hK hP hD hS 6 0 rfl rfl (by omega) (by decide) (by decide +kernel) dX10_row_24 (fun H locs hP hD hS => ?_)
  refine lv_iinc (v := nI 1) (lv' := [(2, .int (nI 1)), (3, .int (nI 1)), (0, .ref (h 0)), (1, .int (nI 4))]) hx hb dX10_row_25 hl (k := 1) rfl (by decide +kernel) (by decide) rfl (fun ls hl => ?_)
  refine lv_aload_n hx hb dX10_row_28 rfl (lv_at hl 2 rfl) ?_
  refine va_get (D := (dC, dI)) (ci := 10) (v := .int (qI_244 12)) (C := RX10) (T := TX10) (N := 28) hx hb hts hinX10 hown hK hP 0 rfl rfl 12 (by decide) (hts (.fieldLink RX10 122 "MixedWordsModel" "wrong" "I") (by decide +kernel)) (fun _ h9 => h9) rfl dX10_row_29 ?_
  refine xt_i (y := nI 0) (by decide +kernel) ?_
  refine lv_if_ge (tgt := 53) hx hb dX10_row_32 (by decide) (fun _ => ?_) (fun c9 => False.elim (by revert c9; decide +kernel))
  refine lv_iconst (v := nI 0) hx hb dX10_row_53 (by decide) ?_
  refine lv_istore_n (lv' := [(3, .int (nI 0)), (2, .int (nI 1)), (0, .ref (h 0)), (1, .int (nI 4))]) hx hb dX10_row_54 rfl hl (by decide) rfl (fun ls hl => ?_)
  refine lv_aload_n hx hb dX10_row_55 rfl (lv_at hl 2 rfl) ?_
  refine lv_dup hx hb dX10_row_56 rfl ?_
  refine va_get (D := (dC, dI)) (ci := 10) (v := .int (qI_244 11)) (C := RX10) (T := TX10) (N := 28) hx hb hts hinX10 hown hK hP 0 rfl rfl 11 (by decide) (hts (.fieldLink RX10 119 "MixedWordsModel" "at" "I") (by decide +kernel)) (fun _ h9 => h9) rfl dX10_row_57 ?_
  refine xt_i (y := nI 0) (by decide +kernel) ?_
  refine lv_iload_n hx hb dX10_row_60 rfl (lv_at hl 0 rfl) ?_
  refine lv_if_eq (tgt := 68) hx hb dX10_row_61 (by decide) (fun _ => ?_) (fun c9 => False.elim (by revert c9; decide +kernel))
  refine lv_iconst (v := nI 0) hx hb dX10_row_68 (by decide) ?_
  refine lv_iadd hx hb dX10_row_69 ?_
  refine xt_i (y := nI 0) (by decide +kernel) ?_
  refine va_put (D := (dC, dI)) (ci := 10) (v := .int (nI 0)) (ty := .int) (C := RX10) (T := TX10) (N := 28) hx hb hts hinX10 tyX10 tyX10_ok nmX10 hown hK hP hD hS 0 rfl rfl 11 (by decide) (hts (.fieldLink RX10 119 "MixedWordsModel" "at" "I") (by decide +kernel)) (fun _ h9 => h9) rfl (by decide +kernel) rfl rfl (Nat.le_of_ble_eq_true rfl) dX10_row_70 (fun H locs hP hD hS => ?_)
  have hP : va_P (dC, dI) vwCl (wD_177 h cs qI_244 gL gA gQ) H := hP
  have hD : va_D A0 (wD_177 h cs qI_244 gL gA gQ) := hD
  refine lv_goto (tgt := 4) hx hb dX10_row_73 (by decide) ?_
  refine lv_iload_n hx hb dX10_row_4 rfl (lv_at hl 0 rfl) ?_
  refine lv_if_eq (tgt := 76) hx hb dX10_row_5 (by decide) (fun _ => ?_) (fun c9 => False.elim (by revert c9; decide +kernel))
  refine lv_iload_n hx hb dX10_row_76 rfl (lv_at hl 1 rfl) ?_
  exact xr_i (v := (nI 1)) hx hb hr hlocks hK hS dX10_row_77 (qI_244, gL, gA, gQ) ⟨rfl, rfl⟩ hP hD
def qI_245 : Nat → Int32 := (va_up (va_up qI_244 15 (nI 1)) 14 (nI 1))
set_option maxRecDepth 20000 in
theorem ggX10_read_X10_row : GoodIn wsX10_read wsX10_row := goodIn_r _ [14, 9, 3, 2, 1, 15, 16, 17, 13, 18, 19, 20, 5, 21, 22, 23, 24, 25, 26, 27, 28, 29, 30, 31, 32, 49, 50, 51, 52, 53, 54, 55, 56, 57, 58, 59, 60, 61, 62, 63, 64, 65, 66, 67, 68, 69, 70, 71, 72, 73, 74, 75, 76] (by decide +kernel) (by decide +kernel)
set_option maxRecDepth 20000 in
theorem gX10_read_X10_row : GoodIn wsX10_read (wsV RX10 146 RX10 yX10_row wsX10_row) := goodIn_app (goodIn_of _ (by decide +kernel)) ggX10_read_X10_row
set_option maxRecDepth 20000 in
theorem ggX10_read_X10_fails : GoodIn wsX10_read wsX10_fails := goodIn_r _ [32, 2, 49, 50, 51, 52, 53, 54, 55, 56, 57, 58, 59, 60, 61, 62, 63, 64, 65, 66, 67, 68, 69, 70, 71, 72, 73, 74, 75, 76] (by decide +kernel) (by decide +kernel)
set_option maxRecDepth 20000 in
theorem gX10_read_X10_fails : GoodIn wsX10_read (wsV RX10 133 RX10 yX10_fails wsX10_fails) := goodIn_app (goodIn_of _ (by decide +kernel)) ggX10_read_X10_fails
set_option maxRecDepth 20000 in
theorem ggX10_read_X10_next : GoodIn wsX10_read wsX10_next := goodIn_r _ [25, 1, 5, 21, 49, 50, 51, 52, 53, 54, 55, 56, 57, 58, 59, 60, 61, 62, 63, 64, 65, 66, 67, 68, 69, 70, 71, 72, 73, 74, 75, 76] (by decide +kernel) (by decide +kernel)
set_option maxRecDepth 20000 in
theorem gX10_read_X10_next : GoodIn wsX10_read (wsV RX10 125 RX10 yX10_next wsX10_next) := goodIn_app (goodIn_of _ (by decide +kernel)) ggX10_read_X10_next
set_option maxRecDepth 20000 in
theorem ggX10_read_X10_table : GoodIn wsX10_read wsX10_table := goodIn_r _ [36, 37, 38, 6, 7, 8, 26, 27, 13, 28, 39, 40, 41, 42, 43, 44, 49, 50, 51, 52, 53, 54, 55, 56, 57, 58, 59, 60, 61, 62, 63, 64, 65, 66, 67, 68, 69, 70, 71, 72, 73, 74, 75, 76] (by decide +kernel) (by decide +kernel)
set_option maxRecDepth 20000 in
theorem gX10_read_X10_table : GoodIn wsX10_read (wsV RX10 150 RX10 yX10_table wsX10_table) := goodIn_app (goodIn_of _ (by decide +kernel)) ggX10_read_X10_table
set_option maxRecDepth 20000 in
theorem ggX10_read_X10_place : GoodIn wsX10_read wsX10_place := goodIn_r _ [48, 7, 49, 50, 51, 52, 53, 54, 55, 56, 57, 58, 59, 60, 61, 62, 63, 64, 65, 66, 67, 68, 69, 70, 71, 72, 73, 74, 75, 76] (by decide +kernel) (by decide +kernel)
set_option maxRecDepth 20000 in
theorem gX10_read_X10_place : GoodIn wsX10_read (wsV RX10 97 RX10 yX10_place wsX10_place) := goodIn_app (goodIn_of _ (by decide +kernel)) ggX10_read_X10_place
theorem dX10_read_0 : decode cX10_read 0 = .ok (.aload_n 0, 1) := by decide +kernel
theorem dX10_read_1 : decode cX10_read 1 = .ok (.iconst 0, 1) := by decide +kernel
theorem dX10_read_2 : decode cX10_read 2 = .ok (.putfield 119, 3) := by decide +kernel
theorem dX10_read_5 : decode cX10_read 5 = .ok (.aload_n 0, 1) := by decide +kernel
theorem dX10_read_6 : decode cX10_read 6 = .ok (.iconst (-1), 1) := by decide +kernel
theorem dX10_read_7 : decode cX10_read 7 = .ok (.putfield 122, 3) := by decide +kernel
theorem dX10_read_10 : decode cX10_read 10 = .ok (.aload_n 0, 1) := by decide +kernel
theorem dX10_read_11 : decode cX10_read 11 = .ok (.iconst 0, 1) := by decide +kernel
theorem dX10_read_12 : decode cX10_read 12 = .ok (.putfield 137, 3) := by decide +kernel
theorem dX10_read_15 : decode cX10_read 15 = .ok (.iconst 1, 1) := by decide +kernel
theorem dX10_read_16 : decode cX10_read 16 = .ok (.istore_n 1, 1) := by decide +kernel
theorem dX10_read_17 : decode cX10_read 17 = .ok (.iload_n 1, 1) := by decide +kernel
theorem dX10_read_18 : decode cX10_read 18 = .ok (.ifCond .eq 126, 3) := by decide +kernel
theorem dX10_read_21 : decode cX10_read 21 = .ok (.aload_n 0, 1) := by decide +kernel
theorem dX10_read_22 : decode cX10_read 22 = .ok (.aload_n 0, 1) := by decide +kernel
theorem dX10_read_23 : decode cX10_read 23 = .ok (.getfield 137, 3) := by decide +kernel
theorem dX10_read_26 : decode cX10_read 26 = .ok (.ifCond .ne 7, 3) := by decide +kernel
theorem dX10_read_29 : decode cX10_read 29 = .ok (.iconst 4, 1) := by decide +kernel
theorem dX10_read_30 : decode cX10_read 30 = .ok (.goto 7, 3) := by decide +kernel
theorem dX10_read_33 : decode cX10_read 33 = .ok (.aload_n 0, 1) := by decide +kernel
theorem dX10_read_34 : decode cX10_read 34 = .ok (.getfield 143, 3) := by decide +kernel
theorem dX10_read_37 : decode cX10_read 37 = .ok (.invokevirtual 146, 3) := by decide +kernel
theorem dX10_read_40 : decode cX10_read 40 = .ok (.istore_n 2, 1) := by decide +kernel
theorem dX10_read_41 : decode cX10_read 41 = .ok (.aload_n 0, 1) := by decide +kernel
theorem dX10_read_42 : decode cX10_read 42 = .ok (.aload_n 0, 1) := by decide +kernel
theorem dX10_read_43 : decode cX10_read 43 = .ok (.getfield 137, 3) := by decide +kernel
theorem dX10_read_46 : decode cX10_read 46 = .ok (.ifCond .ne 7, 3) := by decide +kernel
theorem dX10_read_49 : decode cX10_read 49 = .ok (.iload_n 2, 1) := by decide +kernel
theorem dX10_read_50 : decode cX10_read 50 = .ok (.goto 7, 3) := by decide +kernel
theorem dX10_read_53 : decode cX10_read 53 = .ok (.aload_n 0, 1) := by decide +kernel
theorem dX10_read_54 : decode cX10_read 54 = .ok (.getfield 143, 3) := by decide +kernel
theorem dX10_read_57 : decode cX10_read 57 = .ok (.putfield 143, 3) := by decide +kernel
theorem dX10_read_60 : decode cX10_read 60 = .ok (.aload_n 0, 1) := by decide +kernel
theorem dX10_read_61 : decode cX10_read 61 = .ok (.getfield 122, 3) := by decide +kernel
theorem dX10_read_64 : decode cX10_read 64 = .ok (.ifCond .ge 19, 3) := by decide +kernel
theorem dX10_read_67 : decode cX10_read 67 = .ok (.iload_n 2, 1) := by decide +kernel
theorem dX10_read_68 : decode cX10_read 68 = .ok (.aload_n 0, 1) := by decide +kernel
theorem dX10_read_69 : decode cX10_read 69 = .ok (.getfield 143, 3) := by decide +kernel
theorem dX10_read_72 : decode cX10_read 72 = .ok (.if_icmp .ge 11, 3) := by decide +kernel
theorem dX10_read_75 : decode cX10_read 75 = .ok (.aload_n 0, 1) := by decide +kernel
theorem dX10_read_76 : decode cX10_read 76 = .ok (.aload_n 0, 1) := by decide +kernel
theorem dX10_read_77 : decode cX10_read 77 = .ok (.getfield 119, 3) := by decide +kernel
theorem dX10_read_80 : decode cX10_read 80 = .ok (.invokevirtual 133, 3) := by decide +kernel
theorem dX10_read_83 : decode cX10_read 83 = .ok (.aload_n 0, 1) := by decide +kernel
theorem dX10_read_84 : decode cX10_read 84 = .ok (.dup, 1) := by decide +kernel
theorem dX10_read_85 : decode cX10_read 85 = .ok (.getfield 137, 3) := by decide +kernel
theorem dX10_read_88 : decode cX10_read 88 = .ok (.iconst 1, 1) := by decide +kernel
theorem dX10_read_89 : decode cX10_read 89 = .ok (.iadd, 1) := by decide +kernel
theorem dX10_read_90 : decode cX10_read 90 = .ok (.putfield 137, 3) := by decide +kernel
theorem dX10_read_93 : decode cX10_read 93 = .ok (.aload_n 0, 1) := by decide +kernel
theorem dX10_read_94 : decode cX10_read 94 = .ok (.getfield 122, 3) := by decide +kernel
theorem dX10_read_97 : decode cX10_read 97 = .ok (.ifCond .ge 24, 3) := by decide +kernel
theorem dX10_read_100 : decode cX10_read 100 = .ok (.aload_n 0, 1) := by decide +kernel
theorem dX10_read_101 : decode cX10_read 101 = .ok (.invokevirtual 125, 3) := by decide +kernel
theorem dX10_read_104 : decode cX10_read 104 = .ok (.bipush 59, 2) := by decide +kernel
theorem dX10_read_106 : decode cX10_read 106 = .ok (.if_icmp .ne 15, 3) := by decide +kernel
theorem dX10_read_109 : decode cX10_read 109 = .ok (.aload_n 0, 1) := by decide +kernel
theorem dX10_read_110 : decode cX10_read 110 = .ok (.getfield 137, 3) := by decide +kernel
theorem dX10_read_113 : decode cX10_read 113 = .ok (.iconst 5, 1) := by decide +kernel
theorem dX10_read_114 : decode cX10_read 114 = .ok (.if_icmp .ge 7, 3) := by decide +kernel
theorem dX10_read_117 : decode cX10_read 117 = .ok (.iconst 1, 1) := by decide +kernel
theorem dX10_read_118 : decode cX10_read 118 = .ok (.goto 4, 3) := by decide +kernel
theorem dX10_read_121 : decode cX10_read 121 = .ok (.iconst 0, 1) := by decide +kernel
theorem dX10_read_122 : decode cX10_read 122 = .ok (.istore_n 1, 1) := by decide +kernel
theorem dX10_read_123 : decode cX10_read 123 = .ok (.aload_n 0, 1) := by decide +kernel
theorem dX10_read_124 : decode cX10_read 124 = .ok (.dup, 1) := by decide +kernel
theorem dX10_read_125 : decode cX10_read 125 = .ok (.getfield 119, 3) := by decide +kernel
theorem dX10_read_128 : decode cX10_read 128 = .ok (.iload_n 1, 1) := by decide +kernel
theorem dX10_read_129 : decode cX10_read 129 = .ok (.ifCond .eq 7, 3) := by decide +kernel
theorem dX10_read_132 : decode cX10_read 132 = .ok (.iconst 1, 1) := by decide +kernel
theorem dX10_read_133 : decode cX10_read 133 = .ok (.goto 4, 3) := by decide +kernel
theorem dX10_read_136 : decode cX10_read 136 = .ok (.iconst 0, 1) := by decide +kernel
theorem dX10_read_137 : decode cX10_read 137 = .ok (.iadd, 1) := by decide +kernel
theorem dX10_read_138 : decode cX10_read 138 = .ok (.putfield 119, 3) := by decide +kernel
theorem dX10_read_141 : decode cX10_read 141 = .ok (.goto (-124), 3) := by decide +kernel
theorem dX10_read_144 : decode cX10_read 144 = .ok (.aload_n 0, 1) := by decide +kernel
theorem dX10_read_145 : decode cX10_read 145 = .ok (.getfield 122, 3) := by decide +kernel
theorem dX10_read_148 : decode cX10_read 148 = .ok (.ifCond .ge 18, 3) := by decide +kernel
theorem dX10_read_151 : decode cX10_read 151 = .ok (.aload_n 0, 1) := by decide +kernel
theorem dX10_read_152 : decode cX10_read 152 = .ok (.invokevirtual 125, 3) := by decide +kernel
theorem dX10_read_155 : decode cX10_read 155 = .ok (.ifCond .eq 11, 3) := by decide +kernel
theorem dX10_read_158 : decode cX10_read 158 = .ok (.aload_n 0, 1) := by decide +kernel
theorem dX10_read_159 : decode cX10_read 159 = .ok (.aload_n 0, 1) := by decide +kernel
theorem dX10_read_160 : decode cX10_read 160 = .ok (.getfield 119, 3) := by decide +kernel
theorem dX10_read_163 : decode cX10_read 163 = .ok (.invokevirtual 133, 3) := by decide +kernel
theorem dX10_read_166 : decode cX10_read 166 = .ok (.aload_n 0, 1) := by decide +kernel
theorem dX10_read_167 : decode cX10_read 167 = .ok (.iconst 0, 1) := by decide +kernel
theorem dX10_read_168 : decode cX10_read 168 = .ok (.putfield 116, 3) := by decide +kernel
theorem dX10_read_171 : decode cX10_read 171 = .ok (.aload_n 0, 1) := by decide +kernel
theorem dX10_read_172 : decode cX10_read 172 = .ok (.getfield 122, 3) := by decide +kernel
theorem dX10_read_175 : decode cX10_read 175 = .ok (.ifCond .lt 11, 3) := by decide +kernel
theorem dX10_read_178 : decode cX10_read 178 = .ok (.bipush (-20), 2) := by decide +kernel
theorem dX10_read_180 : decode cX10_read 180 = .ok (.aload_n 0, 1) := by decide +kernel
theorem dX10_read_181 : decode cX10_read 181 = .ok (.getfield 122, 3) := by decide +kernel
theorem dX10_read_184 : decode cX10_read 184 = .ok (.isub, 1) := by decide +kernel
theorem dX10_read_185 : decode cX10_read 185 = .ok (.ireturn, 1) := by decide +kernel
theorem dX10_read_186 : decode cX10_read 186 = .ok (.aload_n 0, 1) := by decide +kernel
theorem dX10_read_187 : decode cX10_read 187 = .ok (.aload_n 0, 1) := by decide +kernel
theorem dX10_read_188 : decode cX10_read 188 = .ok (.getfield 137, 3) := by decide +kernel
theorem dX10_read_191 : decode cX10_read 191 = .ok (.aload_n 0, 1) := by decide +kernel
theorem dX10_read_192 : decode cX10_read 192 = .ok (.getfield 143, 3) := by decide +kernel
theorem dX10_read_195 : decode cX10_read 195 = .ok (.invokevirtual 150, 3) := by decide +kernel
theorem dX10_read_198 : decode cX10_read 198 = .ok (.istore_n 2, 1) := by decide +kernel
theorem dX10_read_199 : decode cX10_read 199 = .ok (.iconst 0, 1) := by decide +kernel
theorem dX10_read_200 : decode cX10_read 200 = .ok (.istore_n 3, 1) := by decide +kernel
theorem dX10_read_201 : decode cX10_read 201 = .ok (.iload_n 3, 1) := by decide +kernel
theorem dX10_read_202 : decode cX10_read 202 = .ok (.aload_n 0, 1) := by decide +kernel
theorem dX10_read_203 : decode cX10_read 203 = .ok (.getfield 7, 3) := by decide +kernel
theorem dX10_read_206 : decode cX10_read 206 = .ok (.if_icmp .ge 50, 3) := by decide +kernel
theorem dX10_read_209 : decode cX10_read 209 = .ok (.iconst 0, 1) := by decide +kernel
theorem dX10_read_210 : decode cX10_read 210 = .ok (.istore 4, 2) := by decide +kernel
theorem dX10_read_212 : decode cX10_read 212 = .ok (.iload 4, 2) := by decide +kernel
theorem dX10_read_214 : decode cX10_read 214 = .ok (.aload_n 0, 1) := by decide +kernel
theorem dX10_read_215 : decode cX10_read 215 = .ok (.getfield 13, 3) := by decide +kernel
theorem dX10_read_218 : decode cX10_read 218 = .ok (.if_icmp .ge 32, 3) := by decide +kernel
theorem dX10_read_221 : decode cX10_read 221 = .ok (.aload_n 0, 1) := by decide +kernel
theorem dX10_read_222 : decode cX10_read 222 = .ok (.getfield 19, 3) := by decide +kernel
theorem dX10_read_225 : decode cX10_read 225 = .ok (.aload_n 0, 1) := by decide +kernel
theorem dX10_read_226 : decode cX10_read 226 = .ok (.iload_n 3, 1) := by decide +kernel
theorem dX10_read_227 : decode cX10_read 227 = .ok (.iload 4, 2) := by decide +kernel
theorem dX10_read_229 : decode cX10_read 229 = .ok (.invokevirtual 97, 3) := by decide +kernel
theorem dX10_read_232 : decode cX10_read 232 = .ok (.aload_n 0, 1) := by decide +kernel
theorem dX10_read_233 : decode cX10_read 233 = .ok (.getfield 35, 3) := by decide +kernel
theorem dX10_read_236 : decode cX10_read 236 = .ok (.iconst 4, 1) := by decide +kernel
theorem dX10_read_237 : decode cX10_read 237 = .ok (.iload_n 3, 1) := by decide +kernel
theorem dX10_read_238 : decode cX10_read 238 = .ok (.imul, 1) := by decide +kernel
theorem dX10_read_239 : decode cX10_read 239 = .ok (.iload 4, 2) := by decide +kernel
theorem dX10_read_241 : decode cX10_read 241 = .ok (.iadd, 1) := by decide +kernel
theorem dX10_read_242 : decode cX10_read 242 = .ok (.iaload, 1) := by decide +kernel
theorem dX10_read_243 : decode cX10_read 243 = .ok (.iastore, 1) := by decide +kernel
theorem dX10_read_244 : decode cX10_read 244 = .ok (.iinc 4 1, 3) := by decide +kernel
theorem dX10_read_247 : decode cX10_read 247 = .ok (.goto (-35), 3) := by decide +kernel
theorem dX10_read_250 : decode cX10_read 250 = .ok (.iinc 3 1, 3) := by decide +kernel
theorem dX10_read_253 : decode cX10_read 253 = .ok (.goto (-52), 3) := by decide +kernel
theorem dX10_read_256 : decode cX10_read 256 = .ok (.aload_n 0, 1) := by decide +kernel
theorem dX10_read_257 : decode cX10_read 257 = .ok (.getfield 7, 3) := by decide +kernel
theorem dX10_read_260 : decode cX10_read 260 = .ok (.ireturn, 1) := by decide +kernel
set_option maxHeartbeats 4000000 in
set_option maxRecDepth 100000 in
theorem f_X10_read (l : Launch) (dC : Nat → ClassId) (dI : Nat → Nat → Nat) (h : Nat → Nat) (cs : Nat → ClassId) (sz : Nat) (I : Nat → Int32) (L : Nat → Int64) (A : Nat → Nat → Int32) (Q : Nat → Nat → Int64) : Met l yX10_read wsX10_read ({ frames := 3, cells := 0, slots := 0, locals := 71 }) (va_Pc [.ref (h 0)] (xPre (dC, dI) (rW h cs gI gL gA gQ) (tysA cs) sz)) (va_Qi (fun (r : Int32) (u : RS) => (r = (-20 : Int32)) ∧ u = (qI_245, gL, gA, gQ)) (xB (dC, dI) (tysA cs) (va_A (rW h cs gI gL gA gQ) sz) (fun u : RS => rW h cs u.1 u.2.1 u.2.2.1 u.2.2.2)) (va_A (rW h cs gI gL gA gQ) sz)) 0 0 (va_A (rW h cs gI gL gA gQ) sz) := by
  refine Met.ofW (cc := cX10_read) (maxL := 5) (ret := (some .int)) (by decide) rfl ?_
  intro p e s m args below meth c s₁ B hml hv
  obtain ⟨rfl, hsz, hP, hK, hD0, hN⟩ := hv
  have hx := B.exec
  have hb := B.bytes
  have hr := B.returns
  have hts := atoms_spec (ws := wsX10_read) B.pre
  have hown : s.vm.findClass RX10 = some m.cls := findClass_of_methodNamed B.named
  have hlocks := B.notSynchronized
  subst hsz
  have hD := hD0.self (sz := s.heap.size)
  generalize hAe : va_A (rW h cs gI gL gA gQ) s.heap.size = A0 at hD ⊢
  have hA : ∀ q : Nat, s.heap.size ≤ q → A0 q := fun q h => by rw [← hAe]; exact Or.inr h
  have hl := lv_entry ([.ref (h 0)]) (n := 5) (Nat.le_of_ble_eq_true rfl)
  rw [lg_entry_eq]
  generalize (lg_sl ([.ref (h 0)]) ++ List.replicate (5 - (lg_sl ([.ref (h 0)])).length) Slot.unset).toArray = ls at hl ⊢
  have hl : lv_has ls 5 [(0, .ref (h 0))] := hl
  generalize hH : s.heap = H at hP ⊢
  have hS : va_S A0 s.heap H [] := by rw [← hH]; exact va_S.rf
  have hinX10 : ∀ w ∈ wsX100, w ∈ wsX10_read := by decide +kernel
  refine lv_aload_n hx hb dX10_read_0 rfl (lv_at hl 0 rfl) ?_
  refine lv_iconst (v := nI 0) hx hb dX10_read_1 (by decide) ?_
  refine va_put (D := (dC, dI)) (ci := 10) (v := .int (nI 0)) (ty := .int) (C := RX10) (T := TX10) (N := 28) hx hb hts hinX10 tyX10 tyX10_ok nmX10 hown hK hP hD hS 0 rfl rfl 11 (by decide) (hts (.fieldLink RX10 119 "MixedWordsModel" "at" "I") (by decide +kernel)) (fun _ h9 => h9) rfl (by decide +kernel) rfl rfl (Nat.le_of_ble_eq_true rfl) dX10_read_2 (fun H locs hP hD hS => ?_)
  have hP : va_P (dC, dI) vwCl (rW h cs gI gL gA gQ) H := hP
  have hD : va_D A0 (rW h cs gI gL gA gQ) := hD
  refine lv_aload_n hx hb dX10_read_5 rfl (lv_at hl 0 rfl) ?_
  refine lv_iconst (v := (-1)) hx hb dX10_read_6 (by decide) ?_
  refine va_put (D := (dC, dI)) (ci := 10) (v := .int (-1)) (ty := .int) (C := RX10) (T := TX10) (N := 28) hx hb hts hinX10 tyX10 tyX10_ok nmX10 hown hK hP hD hS 0 rfl rfl 12 (by decide) (hts (.fieldLink RX10 122 "MixedWordsModel" "wrong" "I") (by decide +kernel)) (fun _ h9 => h9) rfl (by decide +kernel) rfl rfl (Nat.le_of_ble_eq_true rfl) dX10_read_7 (fun H locs hP hD hS => ?_)
  have hP : va_P (dC, dI) vwCl (rW h cs (va_up gI 12 (-1)) gL gA gQ) H := hP
  have hD : va_D A0 (rW h cs (va_up gI 12 (-1)) gL gA gQ) := hD
  refine lv_aload_n hx hb dX10_read_10 rfl (lv_at hl 0 rfl) ?_
  refine lv_iconst (v := nI 0) hx hb dX10_read_11 (by decide) ?_
  refine va_put (D := (dC, dI)) (ci := 10) (v := .int (nI 0)) (ty := .int) (C := RX10) (T := TX10) (N := 28) hx hb hts hinX10 tyX10 tyX10_ok nmX10 hown hK hP hD hS 0 rfl rfl 14 (by decide) (hts (.fieldLink RX10 137 "MixedWordsModel" "readRows" "I") (by decide +kernel)) (fun _ h9 => h9) rfl (by decide +kernel) rfl rfl (Nat.le_of_ble_eq_true rfl) dX10_read_12 (fun H locs hP hD hS => ?_)
  have hP : va_P (dC, dI) vwCl (rW h cs (va_up gI 12 (-1)) gL gA gQ) H := hP
  have hD : va_D A0 (rW h cs (va_up gI 12 (-1)) gL gA gQ) := hD
  refine lv_iconst (v := nI 1) hx hb dX10_read_15 (by decide) ?_
  refine lv_istore_n (lv' := [(1, .int (nI 1)), (0, .ref (h 0))]) hx hb dX10_read_16 rfl hl (by decide) rfl (fun ls hl => ?_)
  refine lv_iload_n hx hb dX10_read_17 rfl (lv_at hl 0 rfl) ?_
  refine lv_if_eq (tgt := 144) hx hb dX10_read_18 (by decide) (fun c9 => False.elim (by revert c9; decide +kernel)) (fun _ => ?_)
  refine lv_aload_n hx hb dX10_read_21 rfl (lv_at hl 1 rfl) ?_
  refine lv_aload_n hx hb dX10_read_22 rfl (lv_at hl 1 rfl) ?_
  refine va_get (D := (dC, dI)) (ci := 10) (v := .int (gI 14)) (C := RX10) (T := TX10) (N := 28) hx hb hts hinX10 hown hK hP 0 rfl rfl 14 (by decide) (hts (.fieldLink RX10 137 "MixedWordsModel" "readRows" "I") (by decide +kernel)) (fun _ h9 => h9) rfl dX10_read_23 ?_
  refine xt_i (y := nI 0) (by decide +kernel) ?_
  refine lv_if_ne (tgt := 33) hx hb dX10_read_26 (by decide) (fun c9 => False.elim (by revert c9; decide +kernel)) (fun _ => ?_)
  refine lv_iconst (v := nI 4) hx hb dX10_read_29 (by decide) ?_
  refine lv_goto (tgt := 37) hx hb dX10_read_30 (by decide) ?_
  have hP : va_P (dC, dI) vwCl (rW h cs qI_238 gL gA gQ) H := hP
  have hD : va_D A0 (rW h cs qI_238 gL gA gQ) := hD
  refine xj_i (wc := (wD_177 h cs qI_238 gL gA gQ)) (wr := ([] : va_W)) hP hD hS hA [0, 1, 2, 3, 4, 5, 6, 7, 8, 9, 10, 11, 12, 13, 14, 15, 16] [] rfl rfl (by decide) (by decide) (va_runV (As := [.int (nI 4)]) (rest := []) ⟨hx, hb, hml, hown, hts⟩ (a_X10_row_239 l dC dI h cs H.size qI_238 gL gA gQ ) (cwV 1 hts gX10_read_X10_row rfl rfl rfl (by decide +kernel) ⟨Nat.le_of_ble_eq_true rfl, Nat.le_of_ble_eq_true rfl⟩) (xpV (wc := (wD_177 h cs qI_238 gL gA gQ)) hP hD hK hN [0, 1, 2, 3, 4, 5, 6, 7, 8, 9, 10, 11, 12, 13, 14, 15, 16] rfl (by decide) 0 (ci := 10) rfl rfl _) rfl rfl hl.1 rfl (lv_room (Nat.le_of_ble_eq_true rfl)) dX10_read_37 ⟨Nat.zero_le _, Nat.zero_le _⟩) (fun r_2 u_1 H locs hw hP hD hS => ?_)
  obtain ⟨hf_3, rfl⟩ := hw
  have hP : va_P (dC, dI) vwCl (rW h cs qI_244 gL gA gQ) H := hP
  have hD : va_D A0 (rW h cs qI_244 gL gA gQ) := hD
  obtain rfl := hf_3
  refine lv_istore_n (lv' := [(2, .int (nI 1)), (1, .int (nI 1)), (0, .ref (h 0))]) hx hb dX10_read_40 rfl hl (by decide) rfl (fun ls hl => ?_)
  refine lv_aload_n hx hb dX10_read_41 rfl (lv_at hl 2 rfl) ?_
  refine lv_aload_n hx hb dX10_read_42 rfl (lv_at hl 2 rfl) ?_
  refine va_get (D := (dC, dI)) (ci := 10) (v := .int (qI_244 14)) (C := RX10) (T := TX10) (N := 28) hx hb hts hinX10 hown hK hP 0 rfl rfl 14 (by decide) (hts (.fieldLink RX10 137 "MixedWordsModel" "readRows" "I") (by decide +kernel)) (fun _ h9 => h9) rfl dX10_read_43 ?_
  refine xt_i (y := nI 0) (by decide +kernel) ?_
  refine lv_if_ne (tgt := 53) hx hb dX10_read_46 (by decide) (fun c9 => False.elim (by revert c9; decide +kernel)) (fun _ => ?_)
  refine lv_iload_n hx hb dX10_read_49 rfl (lv_at hl 0 rfl) ?_
  refine lv_goto (tgt := 57) hx hb dX10_read_50 (by decide) ?_
  refine va_put (D := (dC, dI)) (ci := 10) (v := .int (nI 1)) (ty := .int) (C := RX10) (T := TX10) (N := 28) hx hb hts hinX10 tyX10 tyX10_ok nmX10 hown hK hP hD hS 0 rfl rfl 15 (by decide) (hts (.fieldLink RX10 143 "MixedWordsModel" "readColumns" "I") (by decide +kernel)) (fun _ h9 => h9) rfl (by decide +kernel) rfl rfl (Nat.le_of_ble_eq_true rfl) dX10_read_57 (fun H locs hP hD hS => ?_)
  have hP : va_P (dC, dI) vwCl (rW h cs (va_up qI_244 15 (nI 1)) gL gA gQ) H := hP
  have hD : va_D A0 (rW h cs (va_up qI_244 15 (nI 1)) gL gA gQ) := hD
  refine lv_aload_n hx hb dX10_read_60 rfl (lv_at hl 2 rfl) ?_
  refine va_get (D := (dC, dI)) (ci := 10) (v := .int (qI_244 12)) (C := RX10) (T := TX10) (N := 28) hx hb hts hinX10 hown hK hP 0 rfl rfl 12 (by decide) (hts (.fieldLink RX10 122 "MixedWordsModel" "wrong" "I") (by decide +kernel)) (fun _ h9 => h9) rfl dX10_read_61 ?_
  refine xt_i (y := nI 0) (by decide +kernel) ?_
  refine lv_if_ge (tgt := 83) hx hb dX10_read_64 (by decide) (fun _ => ?_) (fun c9 => False.elim (by revert c9; decide +kernel))
  refine lv_aload_n hx hb dX10_read_83 rfl (lv_at hl 2 rfl) ?_
  refine lv_dup hx hb dX10_read_84 rfl ?_
  refine va_get (D := (dC, dI)) (ci := 10) (v := .int (qI_244 14)) (C := RX10) (T := TX10) (N := 28) hx hb hts hinX10 hown hK hP 0 rfl rfl 14 (by decide) (hts (.fieldLink RX10 137 "MixedWordsModel" "readRows" "I") (by decide +kernel)) (fun _ h9 => h9) rfl dX10_read_85 ?_
  refine xt_i (y := nI 0) (by decide +kernel) ?_
  refine lv_iconst (v := nI 1) hx hb dX10_read_88 (by decide) ?_
  refine lv_iadd hx hb dX10_read_89 ?_
  refine xt_i (y := nI 1) (by decide +kernel) ?_
  refine va_put (D := (dC, dI)) (ci := 10) (v := .int (nI 1)) (ty := .int) (C := RX10) (T := TX10) (N := 28) hx hb hts hinX10 tyX10 tyX10_ok nmX10 hown hK hP hD hS 0 rfl rfl 14 (by decide) (hts (.fieldLink RX10 137 "MixedWordsModel" "readRows" "I") (by decide +kernel)) (fun _ h9 => h9) rfl (by decide +kernel) rfl rfl (Nat.le_of_ble_eq_true rfl) dX10_read_90 (fun H locs hP hD hS => ?_)
  have hP : va_P (dC, dI) vwCl (rW h cs (va_up (va_up qI_244 15 (nI 1)) 14 (nI 1)) gL gA gQ) H := hP
  have hD : va_D A0 (rW h cs (va_up (va_up qI_244 15 (nI 1)) 14 (nI 1)) gL gA gQ) := hD
  refine lv_aload_n hx hb dX10_read_93 rfl (lv_at hl 2 rfl) ?_
  refine va_get (D := (dC, dI)) (ci := 10) (v := .int (qI_244 12)) (C := RX10) (T := TX10) (N := 28) hx hb hts hinX10 hown hK hP 0 rfl rfl 12 (by decide) (hts (.fieldLink RX10 122 "MixedWordsModel" "wrong" "I") (by decide +kernel)) (fun _ h9 => h9) rfl dX10_read_94 ?_
  refine xt_i (y := nI 0) (by decide +kernel) ?_
  refine lv_if_ge (tgt := 121) hx hb dX10_read_97 (by decide) (fun _ => ?_) (fun c9 => False.elim (by revert c9; decide +kernel))
  refine lv_iconst (v := nI 0) hx hb dX10_read_121 (by decide) ?_
  refine lv_istore_n (lv' := [(1, .int (nI 0)), (2, .int (nI 1)), (0, .ref (h 0))]) hx hb dX10_read_122 rfl hl (by decide) rfl (fun ls hl => ?_)
  refine lv_aload_n hx hb dX10_read_123 rfl (lv_at hl 2 rfl) ?_
  refine lv_dup hx hb dX10_read_124 rfl ?_
  refine va_get (D := (dC, dI)) (ci := 10) (v := .int (qI_244 11)) (C := RX10) (T := TX10) (N := 28) hx hb hts hinX10 hown hK hP 0 rfl rfl 11 (by decide) (hts (.fieldLink RX10 119 "MixedWordsModel" "at" "I") (by decide +kernel)) (fun _ h9 => h9) rfl dX10_read_125 ?_
  refine xt_i (y := nI 0) (by decide +kernel) ?_
  refine lv_iload_n hx hb dX10_read_128 rfl (lv_at hl 0 rfl) ?_
  refine lv_if_eq (tgt := 136) hx hb dX10_read_129 (by decide) (fun _ => ?_) (fun c9 => False.elim (by revert c9; decide +kernel))
  refine lv_iconst (v := nI 0) hx hb dX10_read_136 (by decide) ?_
  refine lv_iadd hx hb dX10_read_137 ?_
  refine xt_i (y := nI 0) (by decide +kernel) ?_
  refine va_put (D := (dC, dI)) (ci := 10) (v := .int (nI 0)) (ty := .int) (C := RX10) (T := TX10) (N := 28) hx hb hts hinX10 tyX10 tyX10_ok nmX10 hown hK hP hD hS 0 rfl rfl 11 (by decide) (hts (.fieldLink RX10 119 "MixedWordsModel" "at" "I") (by decide +kernel)) (fun _ h9 => h9) rfl (by decide +kernel) rfl rfl (Nat.le_of_ble_eq_true rfl) dX10_read_138 (fun H locs hP hD hS => ?_)
  have hP : va_P (dC, dI) vwCl (rW h cs (va_up (va_up qI_244 15 (nI 1)) 14 (nI 1)) gL gA gQ) H := hP
  have hD : va_D A0 (rW h cs (va_up (va_up qI_244 15 (nI 1)) 14 (nI 1)) gL gA gQ) := hD
  refine lv_goto (tgt := 17) hx hb dX10_read_141 (by decide) ?_
  refine lv_iload_n hx hb dX10_read_17 rfl (lv_at hl 0 rfl) ?_
  refine lv_if_eq (tgt := 144) hx hb dX10_read_18 (by decide) (fun _ => ?_) (fun c9 => False.elim (by revert c9; decide +kernel))
  refine lv_aload_n hx hb dX10_read_144 rfl (lv_at hl 2 rfl) ?_
  refine va_get (D := (dC, dI)) (ci := 10) (v := .int (qI_244 12)) (C := RX10) (T := TX10) (N := 28) hx hb hts hinX10 hown hK hP 0 rfl rfl 12 (by decide) (hts (.fieldLink RX10 122 "MixedWordsModel" "wrong" "I") (by decide +kernel)) (fun _ h9 => h9) rfl dX10_read_145 ?_
  refine xt_i (y := nI 0) (by decide +kernel) ?_
  refine lv_if_ge (tgt := 166) hx hb dX10_read_148 (by decide) (fun _ => ?_) (fun c9 => False.elim (by revert c9; decide +kernel))
  refine lv_aload_n hx hb dX10_read_166 rfl (lv_at hl 2 rfl) ?_
  refine lv_iconst (v := nI 0) hx hb dX10_read_167 (by decide) ?_
  refine va_put (D := (dC, dI)) (ci := 10) (v := .int (nI 0)) (ty := .int) (C := RX10) (T := TX10) (N := 28) hx hb hts hinX10 tyX10 tyX10_ok nmX10 hown hK hP hD hS 0 rfl rfl 10 (by decide) (hts (.fieldLink RX10 116 "MixedWordsModel" "taped" "I") (by decide +kernel)) (fun _ h9 => h9) rfl (by decide +kernel) rfl rfl (Nat.le_of_ble_eq_true rfl) dX10_read_168 (fun H locs hP hD hS => ?_)
  have hP : va_P (dC, dI) vwCl (rW h cs (va_up (va_up qI_244 15 (nI 1)) 14 (nI 1)) gL gA gQ) H := hP
  have hD : va_D A0 (rW h cs (va_up (va_up qI_244 15 (nI 1)) 14 (nI 1)) gL gA gQ) := hD
  refine lv_aload_n hx hb dX10_read_171 rfl (lv_at hl 2 rfl) ?_
  refine va_get (D := (dC, dI)) (ci := 10) (v := .int (qI_244 12)) (C := RX10) (T := TX10) (N := 28) hx hb hts hinX10 hown hK hP 0 rfl rfl 12 (by decide) (hts (.fieldLink RX10 122 "MixedWordsModel" "wrong" "I") (by decide +kernel)) (fun _ h9 => h9) rfl dX10_read_172 ?_
  refine xt_i (y := nI 0) (by decide +kernel) ?_
  refine lv_if_lt (tgt := 186) hx hb dX10_read_175 (by decide) (fun c9 => False.elim (by revert c9; decide +kernel)) (fun _ => ?_)
  refine lv_bipush (v := (-20)) hx hb dX10_read_178 (by decide) ?_
  refine lv_aload_n hx hb dX10_read_180 rfl (lv_at hl 2 rfl) ?_
  refine va_get (D := (dC, dI)) (ci := 10) (v := .int (qI_244 12)) (C := RX10) (T := TX10) (N := 28) hx hb hts hinX10 hown hK hP 0 rfl rfl 12 (by decide) (hts (.fieldLink RX10 122 "MixedWordsModel" "wrong" "I") (by decide +kernel)) (fun _ h9 => h9) rfl dX10_read_181 ?_
  refine xt_i (y := nI 0) (by decide +kernel) ?_
  refine lv_isub hx hb dX10_read_184 ?_
  refine xt_i (y := (-20 : Int32)) (by decide +kernel) ?_
  have hP : va_P (dC, dI) vwCl (rW h cs qI_245 gL gA gQ) H := hP
  have hD : va_D A0 (rW h cs qI_245 gL gA gQ) := hD
  exact xr_i (v := (-20 : Int32)) hx hb hr hlocks hK hS dX10_read_185 (qI_245, gL, gA, gQ) ⟨rfl, rfl⟩ hP hD
set_option maxRecDepth 20000 in
theorem ggX10_led_X10_lead : GoodIn wsX10_led wsX10_lead := goodIn_r _ [5, 6, 7, 8, 4, 9, 10, 11, 12, 13, 14, 15, 16, 17, 18, 19, 20, 21, 22, 23, 24, 25, 26, 27, 28, 29, 30, 31, 32, 33, 34, 35, 36, 37, 38, 39, 40, 41, 42, 43, 44, 45, 46, 47, 48, 49, 50, 51, 52, 53] (by decide +kernel) (by decide +kernel)
set_option maxRecDepth 20000 in
theorem gX10_led_X10_lead : GoodIn wsX10_led (wsV RX10 229 RX10 yX10_lead wsX10_lead) := goodIn_app (goodIn_of _ (by decide +kernel)) ggX10_led_X10_lead
theorem dX10_led_0 : decode cX10_led 0 = .ok (.aload_n 0, 1) := by decide +kernel
theorem dX10_led_1 : decode cX10_led 1 = .ok (.invokevirtual 229, 3) := by decide +kernel
theorem dX10_led_4 : decode cX10_led 4 = .ok (.ireturn, 1) := by decide +kernel
set_option maxHeartbeats 4000000 in
set_option maxRecDepth 100000 in
theorem f_X10_led (l : Launch) (dC : Nat → ClassId) (dI : Nat → Nat → Nat) (h : Nat → Nat) (cs : Nat → ClassId) (sz : Nat) (I : Nat → Int32) (L : Nat → Int64) (A : Nat → Nat → Int32) (Q : Nat → Nat → Int64) : Met l yX10_led wsX10_led ({ frames := 3, cells := 0, slots := 0, locals := 70 }) (va_Pc [.ref (h 0)] (xPre (dC, dI) (rW h cs gI gL gA gQ) (tysA cs) sz)) (va_Qi (fun (r : Int32) (u : RS) => (r = nI 0) ∧ u = (gI, gL, qA_210, gQ)) (xB (dC, dI) (tysA cs) (va_A (rW h cs gI gL gA gQ) sz) (fun u : RS => rW h cs u.1 u.2.1 u.2.2.1 u.2.2.2)) (va_A (rW h cs gI gL gA gQ) sz)) 0 0 (va_A (rW h cs gI gL gA gQ) sz) := by
  refine Met.ofW (cc := cX10_led) (maxL := 1) (ret := (some .int)) (by decide) rfl ?_
  intro p e s m args below meth c s₁ B hml hv
  obtain ⟨rfl, hsz, hP, hK, hD0, hN⟩ := hv
  have hx := B.exec
  have hb := B.bytes
  have hr := B.returns
  have hts := atoms_spec (ws := wsX10_led) B.pre
  have hown : s.vm.findClass RX10 = some m.cls := findClass_of_methodNamed B.named
  have hlocks := B.notSynchronized
  subst hsz
  have hD := hD0.self (sz := s.heap.size)
  generalize hAe : va_A (rW h cs gI gL gA gQ) s.heap.size = A0 at hD ⊢
  have hA : ∀ q : Nat, s.heap.size ≤ q → A0 q := fun q h => by rw [← hAe]; exact Or.inr h
  have hl := lv_entry ([.ref (h 0)]) (n := 1) (Nat.le_of_ble_eq_true rfl)
  rw [lg_entry_eq]
  generalize (lg_sl ([.ref (h 0)]) ++ List.replicate (1 - (lg_sl ([.ref (h 0)])).length) Slot.unset).toArray = ls at hl ⊢
  have hl : lv_has ls 1 [(0, .ref (h 0))] := hl
  generalize hH : s.heap = H at hP ⊢
  have hS : va_S A0 s.heap H [] := by rw [← hH]; exact va_S.rf
  refine lv_aload_n hx hb dX10_led_0 rfl (lv_at hl 0 rfl) ?_
  refine xj_i (wc := (wD_177 h cs gI gL gA gQ)) (wr := ([] : va_W)) hP hD hS hA [0, 1, 2, 3, 4, 5, 6, 7, 8, 9, 10, 11, 12, 13, 14, 15, 16] [] rfl rfl (by decide) (by decide) (va_runV (As := []) (rest := []) ⟨hx, hb, hml, hown, hts⟩ (a_X10_lead_229 l dC dI h cs H.size gI gL gA gQ ) (cwV 0 hts gX10_led_X10_lead rfl rfl rfl (by decide +kernel) ⟨Nat.le_of_ble_eq_true rfl, Nat.le_of_ble_eq_true rfl⟩) (xpV (wc := (wD_177 h cs gI gL gA gQ)) hP hD hK hN [0, 1, 2, 3, 4, 5, 6, 7, 8, 9, 10, 11, 12, 13, 14, 15, 16] rfl (by decide) 0 (ci := 10) rfl rfl _) rfl rfl hl.1 rfl (lv_room (Nat.le_of_ble_eq_true rfl)) dX10_led_1 ⟨Nat.zero_le _, Nat.zero_le _⟩) (fun r_2 u_1 H locs hw hP hD hS => ?_)
  obtain ⟨hf_3, rfl⟩ := hw
  have hP : va_P (dC, dI) vwCl (rW h cs gI gL qA_210 gQ) H := hP
  have hD : va_D A0 (rW h cs gI gL qA_210 gQ) := hD
  obtain rfl := hf_3
  exact xr_i (v := (nI 0)) hx hb hr hlocks hK hS dX10_led_4 (gI, gL, qA_210, gQ) ⟨rfl, rfl⟩ hP hD
set_option maxRecDepth 20000 in
theorem ggX10_ledWord_X10_lead : GoodIn wsX10_ledWord wsX10_lead := goodIn_r _ [16, 17, 18, 19, 15, 20, 21, 2, 1, 5, 10, 22, 23, 24, 25, 26, 27, 28, 29, 30, 31, 32, 58, 59, 60, 61, 62, 63, 64, 65, 66, 67, 68, 69, 70, 71, 72, 73, 74, 75, 76, 77, 78, 79, 80, 81, 82, 83, 84, 85] (by decide +kernel) (by decide +kernel)
set_option maxRecDepth 20000 in
theorem gX10_ledWord_X10_lead : GoodIn wsX10_ledWord (wsV RX10 229 RX10 yX10_lead wsX10_lead) := goodIn_app (goodIn_of _ (by decide +kernel)) ggX10_ledWord_X10_lead
set_option maxRecDepth 20000 in
theorem ggX10_ledWord_X10_whole : GoodIn wsX10_ledWord wsX10_whole := goodIn_r _ [36, 2, 58, 59, 60, 61, 62, 63, 64, 65, 66, 67, 68, 69, 70, 71, 72, 73, 74, 75, 76, 77, 78, 79, 80, 81, 82, 83, 84, 85] (by decide +kernel) (by decide +kernel)
set_option maxRecDepth 20000 in
theorem gX10_ledWord_X10_whole : GoodIn wsX10_ledWord (wsV RX10 182 RX10 yX10_whole wsX10_whole) := goodIn_app (goodIn_of _ (by decide +kernel)) ggX10_ledWord_X10_whole
set_option maxRecDepth 20000 in
theorem ggX10_ledWord_X10_worthOf : GoodIn wsX10_ledWord wsX10_worthOf := goodIn_r _ [40, 2, 41, 26, 27, 28, 15, 29, 21, 42, 43, 44, 45, 58, 59, 60, 61, 62, 63, 64, 65, 66, 67, 68, 69, 70, 71, 72, 73, 74, 75, 76, 77, 78, 79, 80, 81, 82, 83, 84, 85] (by decide +kernel) (by decide +kernel)
set_option maxRecDepth 20000 in
theorem gX10_ledWord_X10_worthOf : GoodIn wsX10_ledWord (wsV RX10 187 RX10 yX10_worthOf wsX10_worthOf) := goodIn_app (goodIn_of _ (by decide +kernel)) ggX10_ledWord_X10_worthOf
set_option maxRecDepth 20000 in
theorem ggX10_ledWord_X10_meetHeard : GoodIn wsX10_ledWord wsX10_meetHeard := goodIn_r _ [49, 3, 1, 5, 58, 59, 60, 61, 62, 63, 64, 65, 66, 67, 68, 69, 70, 71, 72, 73, 74, 75, 76, 77, 78, 79, 80, 81, 82, 83, 84, 85] (by decide +kernel) (by decide +kernel)
set_option maxRecDepth 20000 in
theorem gX10_ledWord_X10_meetHeard : GoodIn wsX10_ledWord (wsV RX10 197 RX10 yX10_meetHeard wsX10_meetHeard) := goodIn_app (goodIn_of _ (by decide +kernel)) ggX10_ledWord_X10_meetHeard
set_option maxRecDepth 20000 in
theorem ggX10_ledWord_X10_fractionOf : GoodIn wsX10_ledWord wsX10_fractionOf := goodIn_r _ [53, 7, 2, 21, 3, 41, 6, 33, 34, 35, 15, 36, 37, 38, 39, 40, 26, 27, 28, 29, 42, 43, 44, 45, 58, 59, 60, 61, 62, 63, 64, 65, 66, 67, 68, 69, 70, 71, 72, 73, 74, 75, 76, 77, 78, 79, 80, 81, 82, 83, 84, 85] (by decide +kernel) (by decide +kernel)
set_option maxRecDepth 20000 in
theorem gX10_ledWord_X10_fractionOf : GoodIn wsX10_ledWord (wsV RX10 200 RX10 yX10_fractionOf wsX10_fractionOf) := goodIn_app (goodIn_of _ (by decide +kernel)) ggX10_ledWord_X10_fractionOf
set_option maxRecDepth 20000 in
theorem ggX10_ledWord_X10_numberOf : GoodIn wsX10_ledWord wsX10_numberOf := goodIn_r _ [57, 2, 4, 58, 59, 60, 61, 62, 63, 64, 65, 66, 67, 68, 69, 70, 71, 72, 73, 74, 75, 76, 77, 78, 79, 80, 81, 82, 83, 84, 85] (by decide +kernel) (by decide +kernel)
set_option maxRecDepth 20000 in
theorem gX10_ledWord_X10_numberOf : GoodIn wsX10_ledWord (wsV RX10 207 RX10 yX10_numberOf wsX10_numberOf) := goodIn_app (goodIn_of _ (by decide +kernel)) ggX10_ledWord_X10_numberOf
theorem dX10_ledWord_0 : decode cX10_ledWord 0 = .ok (.aload_n 0, 1) := by decide +kernel
theorem dX10_ledWord_1 : decode cX10_ledWord 1 = .ok (.invokevirtual 229, 3) := by decide +kernel
theorem dX10_ledWord_4 : decode cX10_ledWord 4 = .ok (.istore_n 1, 1) := by decide +kernel
theorem dX10_ledWord_5 : decode cX10_ledWord 5 = .ok (.aload_n 0, 1) := by decide +kernel
theorem dX10_ledWord_6 : decode cX10_ledWord 6 = .ok (.aload_n 0, 1) := by decide +kernel
theorem dX10_ledWord_7 : decode cX10_ledWord 7 = .ok (.invokevirtual 182, 3) := by decide +kernel
theorem dX10_ledWord_10 : decode cX10_ledWord 10 = .ok (.invokevirtual 187, 3) := by decide +kernel
theorem dX10_ledWord_13 : decode cX10_ledWord 13 = .ok (.lconst 0, 1) := by decide +kernel
theorem dX10_ledWord_14 : decode cX10_ledWord 14 = .ok (.lcmp, 1) := by decide +kernel
theorem dX10_ledWord_15 : decode cX10_ledWord 15 = .ok (.ifCond .ne 6, 3) := by decide +kernel
theorem dX10_ledWord_18 : decode cX10_ledWord 18 = .ok (.bipush (-2), 2) := by decide +kernel
theorem dX10_ledWord_20 : decode cX10_ledWord 20 = .ok (.ireturn, 1) := by decide +kernel
theorem dX10_ledWord_21 : decode cX10_ledWord 21 = .ok (.aload_n 0, 1) := by decide +kernel
theorem dX10_ledWord_22 : decode cX10_ledWord 22 = .ok (.invokevirtual 197, 3) := by decide +kernel
theorem dX10_ledWord_25 : decode cX10_ledWord 25 = .ok (.iconst 0, 1) := by decide +kernel
theorem dX10_ledWord_26 : decode cX10_ledWord 26 = .ok (.istore_n 2, 1) := by decide +kernel
theorem dX10_ledWord_27 : decode cX10_ledWord 27 = .ok (.iload_n 2, 1) := by decide +kernel
theorem dX10_ledWord_28 : decode cX10_ledWord 28 = .ok (.aload_n 0, 1) := by decide +kernel
theorem dX10_ledWord_29 : decode cX10_ledWord 29 = .ok (.getfield 7, 3) := by decide +kernel
theorem dX10_ledWord_32 : decode cX10_ledWord 32 = .ok (.if_icmp .ge 51, 3) := by decide +kernel
theorem dX10_ledWord_35 : decode cX10_ledWord 35 = .ok (.iconst 0, 1) := by decide +kernel
theorem dX10_ledWord_36 : decode cX10_ledWord 36 = .ok (.istore_n 3, 1) := by decide +kernel
theorem dX10_ledWord_37 : decode cX10_ledWord 37 = .ok (.iload_n 3, 1) := by decide +kernel
theorem dX10_ledWord_38 : decode cX10_ledWord 38 = .ok (.aload_n 0, 1) := by decide +kernel
theorem dX10_ledWord_39 : decode cX10_ledWord 39 = .ok (.getfield 13, 3) := by decide +kernel
theorem dX10_ledWord_42 : decode cX10_ledWord 42 = .ok (.if_icmp .ge 35, 3) := by decide +kernel
theorem dX10_ledWord_45 : decode cX10_ledWord 45 = .ok (.aload_n 0, 1) := by decide +kernel
theorem dX10_ledWord_46 : decode cX10_ledWord 46 = .ok (.getfield 51, 3) := by decide +kernel
theorem dX10_ledWord_49 : decode cX10_ledWord 49 = .ok (.iload_n 2, 1) := by decide +kernel
theorem dX10_ledWord_50 : decode cX10_ledWord 50 = .ok (.dup2, 1) := by decide +kernel
theorem dX10_ledWord_51 : decode cX10_ledWord 51 = .ok (.iaload, 1) := by decide +kernel
theorem dX10_ledWord_52 : decode cX10_ledWord 52 = .ok (.aload_n 0, 1) := by decide +kernel
theorem dX10_ledWord_53 : decode cX10_ledWord 53 = .ok (.getfield 16, 3) := by decide +kernel
theorem dX10_ledWord_56 : decode cX10_ledWord 56 = .ok (.iconst 1, 1) := by decide +kernel
theorem dX10_ledWord_57 : decode cX10_ledWord 57 = .ok (.isub, 1) := by decide +kernel
theorem dX10_ledWord_58 : decode cX10_ledWord 58 = .ok (.aload_n 0, 1) := by decide +kernel
theorem dX10_ledWord_59 : decode cX10_ledWord 59 = .ok (.getfield 19, 3) := by decide +kernel
theorem dX10_ledWord_62 : decode cX10_ledWord 62 = .ok (.iconst 5, 1) := by decide +kernel
theorem dX10_ledWord_63 : decode cX10_ledWord 63 = .ok (.iload_n 2, 1) := by decide +kernel
theorem dX10_ledWord_64 : decode cX10_ledWord 64 = .ok (.imul, 1) := by decide +kernel
theorem dX10_ledWord_65 : decode cX10_ledWord 65 = .ok (.iload_n 3, 1) := by decide +kernel
theorem dX10_ledWord_66 : decode cX10_ledWord 66 = .ok (.iadd, 1) := by decide +kernel
theorem dX10_ledWord_67 : decode cX10_ledWord 67 = .ok (.iaload, 1) := by decide +kernel
theorem dX10_ledWord_68 : decode cX10_ledWord 68 = .ok (.imul, 1) := by decide +kernel
theorem dX10_ledWord_69 : decode cX10_ledWord 69 = .ok (.iadd, 1) := by decide +kernel
theorem dX10_ledWord_70 : decode cX10_ledWord 70 = .ok (.iastore, 1) := by decide +kernel
theorem dX10_ledWord_71 : decode cX10_ledWord 71 = .ok (.iinc 3 1, 3) := by decide +kernel
theorem dX10_ledWord_74 : decode cX10_ledWord 74 = .ok (.goto (-37), 3) := by decide +kernel
theorem dX10_ledWord_77 : decode cX10_ledWord 77 = .ok (.iinc 2 1, 3) := by decide +kernel
theorem dX10_ledWord_80 : decode cX10_ledWord 80 = .ok (.goto (-53), 3) := by decide +kernel
theorem dX10_ledWord_83 : decode cX10_ledWord 83 = .ok (.iconst 0, 1) := by decide +kernel
theorem dX10_ledWord_84 : decode cX10_ledWord 84 = .ok (.istore_n 2, 1) := by decide +kernel
theorem dX10_ledWord_85 : decode cX10_ledWord 85 = .ok (.iload_n 2, 1) := by decide +kernel
theorem dX10_ledWord_86 : decode cX10_ledWord 86 = .ok (.aload_n 0, 1) := by decide +kernel
theorem dX10_ledWord_87 : decode cX10_ledWord 87 = .ok (.getfield 13, 3) := by decide +kernel
theorem dX10_ledWord_90 : decode cX10_ledWord 90 = .ok (.if_icmp .ge 66, 3) := by decide +kernel
theorem dX10_ledWord_93 : decode cX10_ledWord 93 = .ok (.aload_n 0, 1) := by decide +kernel
theorem dX10_ledWord_94 : decode cX10_ledWord 94 = .ok (.iload_n 2, 1) := by decide +kernel
theorem dX10_ledWord_95 : decode cX10_ledWord 95 = .ok (.invokevirtual 200, 3) := by decide +kernel
theorem dX10_ledWord_98 : decode cX10_ledWord 98 = .ok (.aload_n 0, 1) := by decide +kernel
theorem dX10_ledWord_99 : decode cX10_ledWord 99 = .ok (.getfield 194, 3) := by decide +kernel
theorem dX10_ledWord_102 : decode cX10_ledWord 102 = .ok (.aload_n 0, 1) := by decide +kernel
theorem dX10_ledWord_103 : decode cX10_ledWord 103 = .ok (.getfield 190, 3) := by decide +kernel
theorem dX10_ledWord_106 : decode cX10_ledWord 106 = .ok (.ladd, 1) := by decide +kernel
theorem dX10_ledWord_107 : decode cX10_ledWord 107 = .ok (.lconst 1, 1) := by decide +kernel
theorem dX10_ledWord_108 : decode cX10_ledWord 108 = .ok (.lsub, 1) := by decide +kernel
theorem dX10_ledWord_109 : decode cX10_ledWord 109 = .ok (.lstore_n 3, 1) := by decide +kernel
theorem dX10_ledWord_110 : decode cX10_ledWord 110 = .ok (.ldc2_w 233, 3) := by decide +kernel
theorem dX10_ledWord_113 : decode cX10_ledWord 113 = .ok (.aload_n 0, 1) := by decide +kernel
theorem dX10_ledWord_114 : decode cX10_ledWord 114 = .ok (.getfield 190, 3) := by decide +kernel
theorem dX10_ledWord_117 : decode cX10_ledWord 117 = .ok (.lmul, 1) := by decide +kernel
theorem dX10_ledWord_118 : decode cX10_ledWord 118 = .ok (.lstore 5, 2) := by decide +kernel
theorem dX10_ledWord_120 : decode cX10_ledWord 120 = .ok (.lload_n 3, 1) := by decide +kernel
theorem dX10_ledWord_121 : decode cX10_ledWord 121 = .ok (.lload 5, 2) := by decide +kernel
theorem dX10_ledWord_123 : decode cX10_ledWord 123 = .ok (.ldiv, 1) := by decide +kernel
theorem dX10_ledWord_124 : decode cX10_ledWord 124 = .ok (.lstore 7, 2) := by decide +kernel
theorem dX10_ledWord_126 : decode cX10_ledWord 126 = .ok (.aload_n 0, 1) := by decide +kernel
theorem dX10_ledWord_127 : decode cX10_ledWord 127 = .ok (.getfield 57, 3) := by decide +kernel
theorem dX10_ledWord_130 : decode cX10_ledWord 130 = .ok (.iload_n 2, 1) := by decide +kernel
theorem dX10_ledWord_131 : decode cX10_ledWord 131 = .ok (.lload_n 3, 1) := by decide +kernel
theorem dX10_ledWord_132 : decode cX10_ledWord 132 = .ok (.lload 5, 2) := by decide +kernel
theorem dX10_ledWord_134 : decode cX10_ledWord 134 = .ok (.lrem, 1) := by decide +kernel
theorem dX10_ledWord_135 : decode cX10_ledWord 135 = .ok (.lconst 0, 1) := by decide +kernel
theorem dX10_ledWord_136 : decode cX10_ledWord 136 = .ok (.lcmp, 1) := by decide +kernel
theorem dX10_ledWord_137 : decode cX10_ledWord 137 = .ok (.ifCond .ge 10, 3) := by decide +kernel
theorem dX10_ledWord_140 : decode cX10_ledWord 140 = .ok (.lload 7, 2) := by decide +kernel
theorem dX10_ledWord_142 : decode cX10_ledWord 142 = .ok (.lconst 1, 1) := by decide +kernel
theorem dX10_ledWord_143 : decode cX10_ledWord 143 = .ok (.lsub, 1) := by decide +kernel
theorem dX10_ledWord_144 : decode cX10_ledWord 144 = .ok (.goto 5, 3) := by decide +kernel
theorem dX10_ledWord_147 : decode cX10_ledWord 147 = .ok (.lload 7, 2) := by decide +kernel
theorem dX10_ledWord_149 : decode cX10_ledWord 149 = .ok (.lastore, 1) := by decide +kernel
theorem dX10_ledWord_150 : decode cX10_ledWord 150 = .ok (.iinc 2 1, 3) := by decide +kernel
theorem dX10_ledWord_153 : decode cX10_ledWord 153 = .ok (.goto (-68), 3) := by decide +kernel
theorem dX10_ledWord_156 : decode cX10_ledWord 156 = .ok (.iconst 0, 1) := by decide +kernel
theorem dX10_ledWord_157 : decode cX10_ledWord 157 = .ok (.istore_n 2, 1) := by decide +kernel
theorem dX10_ledWord_158 : decode cX10_ledWord 158 = .ok (.iload_n 2, 1) := by decide +kernel
theorem dX10_ledWord_159 : decode cX10_ledWord 159 = .ok (.aload_n 0, 1) := by decide +kernel
theorem dX10_ledWord_160 : decode cX10_ledWord 160 = .ok (.getfield 13, 3) := by decide +kernel
theorem dX10_ledWord_163 : decode cX10_ledWord 163 = .ok (.if_icmp .ge 120, 3) := by decide +kernel
theorem dX10_ledWord_166 : decode cX10_ledWord 166 = .ok (.lconst 0, 1) := by decide +kernel
theorem dX10_ledWord_167 : decode cX10_ledWord 167 = .ok (.lstore_n 3, 1) := by decide +kernel
theorem dX10_ledWord_168 : decode cX10_ledWord 168 = .ok (.iconst 0, 1) := by decide +kernel
theorem dX10_ledWord_169 : decode cX10_ledWord 169 = .ok (.istore 5, 2) := by decide +kernel
theorem dX10_ledWord_171 : decode cX10_ledWord 171 = .ok (.iload 5, 2) := by decide +kernel
theorem dX10_ledWord_173 : decode cX10_ledWord 173 = .ok (.aload_n 0, 1) := by decide +kernel
theorem dX10_ledWord_174 : decode cX10_ledWord 174 = .ok (.getfield 13, 3) := by decide +kernel
theorem dX10_ledWord_177 : decode cX10_ledWord 177 = .ok (.if_icmp .ge 32, 3) := by decide +kernel
theorem dX10_ledWord_180 : decode cX10_ledWord 180 = .ok (.lload_n 3, 1) := by decide +kernel
theorem dX10_ledWord_181 : decode cX10_ledWord 181 = .ok (.aload_n 0, 1) := by decide +kernel
theorem dX10_ledWord_182 : decode cX10_ledWord 182 = .ok (.getfield 44, 3) := by decide +kernel
theorem dX10_ledWord_185 : decode cX10_ledWord 185 = .ok (.iconst 4, 1) := by decide +kernel
theorem dX10_ledWord_186 : decode cX10_ledWord 186 = .ok (.iload_n 2, 1) := by decide +kernel
theorem dX10_ledWord_187 : decode cX10_ledWord 187 = .ok (.imul, 1) := by decide +kernel
theorem dX10_ledWord_188 : decode cX10_ledWord 188 = .ok (.iload 5, 2) := by decide +kernel
theorem dX10_ledWord_190 : decode cX10_ledWord 190 = .ok (.iadd, 1) := by decide +kernel
theorem dX10_ledWord_191 : decode cX10_ledWord 191 = .ok (.iaload, 1) := by decide +kernel
theorem dX10_ledWord_192 : decode cX10_ledWord 192 = .ok (.i2l, 1) := by decide +kernel
theorem dX10_ledWord_193 : decode cX10_ledWord 193 = .ok (.aload_n 0, 1) := by decide +kernel
theorem dX10_ledWord_194 : decode cX10_ledWord 194 = .ok (.getfield 57, 3) := by decide +kernel
theorem dX10_ledWord_197 : decode cX10_ledWord 197 = .ok (.iload 5, 2) := by decide +kernel
theorem dX10_ledWord_199 : decode cX10_ledWord 199 = .ok (.laload, 1) := by decide +kernel
theorem dX10_ledWord_200 : decode cX10_ledWord 200 = .ok (.lmul, 1) := by decide +kernel
theorem dX10_ledWord_201 : decode cX10_ledWord 201 = .ok (.ladd, 1) := by decide +kernel
theorem dX10_ledWord_202 : decode cX10_ledWord 202 = .ok (.lstore_n 3, 1) := by decide +kernel
theorem dX10_ledWord_203 : decode cX10_ledWord 203 = .ok (.iinc 5 1, 3) := by decide +kernel
theorem dX10_ledWord_206 : decode cX10_ledWord 206 = .ok (.goto (-35), 3) := by decide +kernel
theorem dX10_ledWord_209 : decode cX10_ledWord 209 = .ok (.ldc2_w 233, 3) := by decide +kernel
theorem dX10_ledWord_212 : decode cX10_ledWord 212 = .ok (.lload_n 3, 1) := by decide +kernel
theorem dX10_ledWord_213 : decode cX10_ledWord 213 = .ok (.lmul, 1) := by decide +kernel
theorem dX10_ledWord_214 : decode cX10_ledWord 214 = .ok (.aload_n 0, 1) := by decide +kernel
theorem dX10_ledWord_215 : decode cX10_ledWord 215 = .ok (.getfield 16, 3) := by decide +kernel
theorem dX10_ledWord_218 : decode cX10_ledWord 218 = .ok (.i2l, 1) := by decide +kernel
theorem dX10_ledWord_219 : decode cX10_ledWord 219 = .ok (.lsub, 1) := by decide +kernel
theorem dX10_ledWord_220 : decode cX10_ledWord 220 = .ok (.lconst 1, 1) := by decide +kernel
theorem dX10_ledWord_221 : decode cX10_ledWord 221 = .ok (.ladd, 1) := by decide +kernel
theorem dX10_ledWord_222 : decode cX10_ledWord 222 = .ok (.lstore 5, 2) := by decide +kernel
theorem dX10_ledWord_224 : decode cX10_ledWord 224 = .ok (.aload_n 0, 1) := by decide +kernel
theorem dX10_ledWord_225 : decode cX10_ledWord 225 = .ok (.getfield 54, 3) := by decide +kernel
theorem dX10_ledWord_228 : decode cX10_ledWord 228 = .ok (.iload_n 2, 1) := by decide +kernel
theorem dX10_ledWord_229 : decode cX10_ledWord 229 = .ok (.lload 5, 2) := by decide +kernel
theorem dX10_ledWord_231 : decode cX10_ledWord 231 = .ok (.iconst 1, 1) := by decide +kernel
theorem dX10_ledWord_232 : decode cX10_ledWord 232 = .ok (.aload_n 0, 1) := by decide +kernel
theorem dX10_ledWord_233 : decode cX10_ledWord 233 = .ok (.getfield 16, 3) := by decide +kernel
theorem dX10_ledWord_236 : decode cX10_ledWord 236 = .ok (.isub, 1) := by decide +kernel
theorem dX10_ledWord_237 : decode cX10_ledWord 237 = .ok (.i2l, 1) := by decide +kernel
theorem dX10_ledWord_238 : decode cX10_ledWord 238 = .ok (.lcmp, 1) := by decide +kernel
theorem dX10_ledWord_239 : decode cX10_ledWord 239 = .ok (.ifCond .ge 12, 3) := by decide +kernel
theorem dX10_ledWord_242 : decode cX10_ledWord 242 = .ok (.iconst 1, 1) := by decide +kernel
theorem dX10_ledWord_243 : decode cX10_ledWord 243 = .ok (.aload_n 0, 1) := by decide +kernel
theorem dX10_ledWord_244 : decode cX10_ledWord 244 = .ok (.getfield 16, 3) := by decide +kernel
theorem dX10_ledWord_247 : decode cX10_ledWord 247 = .ok (.isub, 1) := by decide +kernel
theorem dX10_ledWord_248 : decode cX10_ledWord 248 = .ok (.goto 28, 3) := by decide +kernel
theorem dX10_ledWord_251 : decode cX10_ledWord 251 = .ok (.lload 5, 2) := by decide +kernel
theorem dX10_ledWord_253 : decode cX10_ledWord 253 = .ok (.aload_n 0, 1) := by decide +kernel
theorem dX10_ledWord_254 : decode cX10_ledWord 254 = .ok (.getfield 16, 3) := by decide +kernel
theorem dX10_ledWord_257 : decode cX10_ledWord 257 = .ok (.iconst 1, 1) := by decide +kernel
theorem dX10_ledWord_258 : decode cX10_ledWord 258 = .ok (.isub, 1) := by decide +kernel
theorem dX10_ledWord_259 : decode cX10_ledWord 259 = .ok (.i2l, 1) := by decide +kernel
theorem dX10_ledWord_260 : decode cX10_ledWord 260 = .ok (.lcmp, 1) := by decide +kernel
theorem dX10_ledWord_261 : decode cX10_ledWord 261 = .ok (.ifCond .le 12, 3) := by decide +kernel
theorem dX10_ledWord_264 : decode cX10_ledWord 264 = .ok (.aload_n 0, 1) := by decide +kernel
theorem dX10_ledWord_265 : decode cX10_ledWord 265 = .ok (.getfield 16, 3) := by decide +kernel
theorem dX10_ledWord_268 : decode cX10_ledWord 268 = .ok (.iconst 1, 1) := by decide +kernel
theorem dX10_ledWord_269 : decode cX10_ledWord 269 = .ok (.isub, 1) := by decide +kernel
theorem dX10_ledWord_270 : decode cX10_ledWord 270 = .ok (.goto 6, 3) := by decide +kernel
theorem dX10_ledWord_273 : decode cX10_ledWord 273 = .ok (.lload 5, 2) := by decide +kernel
theorem dX10_ledWord_275 : decode cX10_ledWord 275 = .ok (.l2i, 1) := by decide +kernel
theorem dX10_ledWord_276 : decode cX10_ledWord 276 = .ok (.iastore, 1) := by decide +kernel
theorem dX10_ledWord_277 : decode cX10_ledWord 277 = .ok (.iinc 2 1, 3) := by decide +kernel
theorem dX10_ledWord_280 : decode cX10_ledWord 280 = .ok (.goto (-122), 3) := by decide +kernel
theorem dX10_ledWord_283 : decode cX10_ledWord 283 = .ok (.aload_n 0, 1) := by decide +kernel
theorem dX10_ledWord_284 : decode cX10_ledWord 284 = .ok (.aload_n 0, 1) := by decide +kernel
theorem dX10_ledWord_285 : decode cX10_ledWord 285 = .ok (.getfield 54, 3) := by decide +kernel
theorem dX10_ledWord_288 : decode cX10_ledWord 288 = .ok (.invokevirtual 207, 3) := by decide +kernel
theorem dX10_ledWord_291 : decode cX10_ledWord 291 = .ok (.ireturn, 1) := by decide +kernel
set_option maxHeartbeats 4000000 in
set_option maxRecDepth 100000 in
theorem f_X10_ledWord (l : Launch) (dC : Nat → ClassId) (dI : Nat → Nat → Nat) (h : Nat → Nat) (cs : Nat → ClassId) (sz : Nat) (I : Nat → Int32) (L : Nat → Int64) (A : Nat → Nat → Int32) (Q : Nat → Nat → Int64) : Met l yX10_ledWord wsX10_ledWord ({ frames := 3, cells := 0, slots := 0, locals := 79 }) (va_Pc [.ref (h 0)] (xPre (dC, dI) (rW h cs gI gL gA gQ) (tysA cs) sz)) (va_Qi (fun (r : Int32) (u : RS) => (r = (-2)) ∧ u = (gI, gL, qA_210, gQ)) (xB (dC, dI) (tysA cs) (va_A (rW h cs gI gL gA gQ) sz) (fun u : RS => rW h cs u.1 u.2.1 u.2.2.1 u.2.2.2)) (va_A (rW h cs gI gL gA gQ) sz)) 0 0 (va_A (rW h cs gI gL gA gQ) sz) := by
  refine Met.ofW (cc := cX10_ledWord) (maxL := 9) (ret := (some .int)) (by decide) rfl ?_
  intro p e s m args below meth c s₁ B hml hv
  obtain ⟨rfl, hsz, hP, hK, hD0, hN⟩ := hv
  have hx := B.exec
  have hb := B.bytes
  have hr := B.returns
  have hts := atoms_spec (ws := wsX10_ledWord) B.pre
  have hown : s.vm.findClass RX10 = some m.cls := findClass_of_methodNamed B.named
  have hlocks := B.notSynchronized
  subst hsz
  have hD := hD0.self (sz := s.heap.size)
  generalize hAe : va_A (rW h cs gI gL gA gQ) s.heap.size = A0 at hD ⊢
  have hA : ∀ q : Nat, s.heap.size ≤ q → A0 q := fun q h => by rw [← hAe]; exact Or.inr h
  have hl := lv_entry ([.ref (h 0)]) (n := 9) (Nat.le_of_ble_eq_true rfl)
  rw [lg_entry_eq]
  generalize (lg_sl ([.ref (h 0)]) ++ List.replicate (9 - (lg_sl ([.ref (h 0)])).length) Slot.unset).toArray = ls at hl ⊢
  have hl : lv_has ls 9 [(0, .ref (h 0))] := hl
  generalize hH : s.heap = H at hP ⊢
  have hS : va_S A0 s.heap H [] := by rw [← hH]; exact va_S.rf
  have hinX10 : ∀ w ∈ wsX100, w ∈ wsX10_ledWord := by decide +kernel
  refine lv_aload_n hx hb dX10_ledWord_0 rfl (lv_at hl 0 rfl) ?_
  refine xj_i (wc := (wD_177 h cs gI gL gA gQ)) (wr := ([] : va_W)) hP hD hS hA [0, 1, 2, 3, 4, 5, 6, 7, 8, 9, 10, 11, 12, 13, 14, 15, 16] [] rfl rfl (by decide) (by decide) (va_runV (As := []) (rest := []) ⟨hx, hb, hml, hown, hts⟩ (a_X10_lead_229 l dC dI h cs H.size gI gL gA gQ ) (cwV 0 hts gX10_ledWord_X10_lead rfl rfl rfl (by decide +kernel) ⟨Nat.le_of_ble_eq_true rfl, Nat.le_of_ble_eq_true rfl⟩) (xpV (wc := (wD_177 h cs gI gL gA gQ)) hP hD hK hN [0, 1, 2, 3, 4, 5, 6, 7, 8, 9, 10, 11, 12, 13, 14, 15, 16] rfl (by decide) 0 (ci := 10) rfl rfl _) rfl rfl hl.1 rfl (lv_room (Nat.le_of_ble_eq_true rfl)) dX10_ledWord_1 ⟨Nat.zero_le _, Nat.zero_le _⟩) (fun r_2 u_1 H locs hw hP hD hS => ?_)
  obtain ⟨hf_3, rfl⟩ := hw
  have hP : va_P (dC, dI) vwCl (rW h cs gI gL qA_210 gQ) H := hP
  have hD : va_D A0 (rW h cs gI gL qA_210 gQ) := hD
  obtain rfl := hf_3
  refine lv_istore_n (lv' := [(1, .int (nI 0)), (0, .ref (h 0))]) hx hb dX10_ledWord_4 rfl hl (by decide) rfl (fun ls hl => ?_)
  refine lv_aload_n hx hb dX10_ledWord_5 rfl (lv_at hl 1 rfl) ?_
  refine lv_aload_n hx hb dX10_ledWord_6 rfl (lv_at hl 1 rfl) ?_
  refine xj_i (wc := (wD_177 h cs gI gL qA_210 gQ)) (wr := ([] : va_W)) hP hD hS hA [0, 1, 2, 3, 4, 5, 6, 7, 8, 9, 10, 11, 12, 13, 14, 15, 16] [] rfl rfl (by decide) (by decide) (va_runV (As := []) (rest := [.ref (h 0)]) ⟨hx, hb, hml, hown, hts⟩ (a_X10_whole_222 l dC dI h cs H.size gI gL qA_210 gQ ) (cwV 0 hts gX10_ledWord_X10_whole rfl rfl rfl (by decide +kernel) ⟨Nat.le_of_ble_eq_true rfl, Nat.le_of_ble_eq_true rfl⟩) (xpV (wc := (wD_177 h cs gI gL qA_210 gQ)) hP hD hK hN [0, 1, 2, 3, 4, 5, 6, 7, 8, 9, 10, 11, 12, 13, 14, 15, 16] rfl (by decide) 0 (ci := 10) rfl rfl _) rfl rfl hl.1 rfl (lv_room (Nat.le_of_ble_eq_true rfl)) dX10_ledWord_7 ⟨Nat.zero_le _, Nat.zero_le _⟩) (fun r_5 u_4 H locs hw hP hD hS => ?_)
  obtain ⟨hf_6, rfl⟩ := hw
  have hP : va_P (dC, dI) vwCl (rW h cs gI gL qA_210 gQ) H := hP
  have hD : va_D A0 (rW h cs gI gL qA_210 gQ) := hD
  obtain rfl := hf_6
  refine xj_l (wc := (wD_177 h cs gI gL qA_210 gQ)) (wr := ([] : va_W)) hP hD hS hA [0, 1, 2, 3, 4, 5, 6, 7, 8, 9, 10, 11, 12, 13, 14, 15, 16] [] rfl rfl (by decide) (by decide) (va_runV (As := [.int (nI 3)]) (rest := []) ⟨hx, hb, hml, hown, hts⟩ (a_X10_worthOf_218 l dC dI h cs H.size gI gL qA_210 gQ ) (cwV 1 hts gX10_ledWord_X10_worthOf rfl rfl rfl (by decide +kernel) ⟨Nat.le_of_ble_eq_true rfl, Nat.le_of_ble_eq_true rfl⟩) (xpV (wc := (wD_177 h cs gI gL qA_210 gQ)) hP hD hK hN [0, 1, 2, 3, 4, 5, 6, 7, 8, 9, 10, 11, 12, 13, 14, 15, 16] rfl (by decide) 0 (ci := 10) rfl rfl _) rfl rfl hl.1 rfl (lv_room (Nat.le_of_ble_eq_true rfl)) dX10_ledWord_10 ⟨Nat.zero_le _, Nat.zero_le _⟩) (fun r_8 u_7 H locs hw hP hD hS => ?_)
  obtain ⟨hf_9, rfl⟩ := hw
  have hP : va_P (dC, dI) vwCl (rW h cs gI gL qA_210 gQ) H := hP
  have hD : va_D A0 (rW h cs gI gL qA_210 gQ) := hD
  obtain rfl := hf_9
  refine lv_lconst (v := 0) hx hb dX10_ledWord_13 rfl ?_
  refine xl_ne (tgt := 21) hx hb dX10_ledWord_14 dX10_ledWord_15 (by decide) (fun c9 => False.elim (by revert c9; decide +kernel)) (fun _ => ?_)
  refine lv_bipush (v := (-2)) hx hb dX10_ledWord_18 (by decide) ?_
  exact xr_i (v := (-2)) hx hb hr hlocks hK hS dX10_ledWord_20 (gI, gL, qA_210, gQ) ⟨rfl, rfl⟩ hP hD
