set_option maxHeartbeats 4000000 in
set_option maxRecDepth 100000 in
theorem a_X10_in_251 (l : Launch) (dC : Nat → ClassId) (dI : Nat → Nat → Nat) (h : Nat → Nat) (cs : Nat → ClassId) (sz : Nat) (I : Nat → Int32) (L : Nat → Int64) (A : Nat → Nat → Int32) (Q : Nat → Nat → Int64) : Met l yX10_in wsX10_in ({ frames := 0, cells := 0, slots := 0, locals := 0 }) (va_Pc [.long (0 : Int64), .long (0 : Int64), .long (2 : Int64)] (xPre (dC, dI) ([] : va_W) (tysA cs) sz)) (va_Qi (fun (r : Int32) (u : RS) => (r = nI 1) ∧ u = (I, L, A, Q)) (xB (dC, dI) (tysA cs) (va_A ([] : va_W) sz) (fun _ : RS => ([] : va_W))) (va_A ([] : va_W) sz)) 0 0 (va_A ([] : va_W) sz) := by
  refine Met.ofW (cc := cX10_in) (maxL := 6) (ret := (some .boolean)) (by decide) rfl ?_
  intro p e s m args below meth c s₁ B hml hv
  obtain ⟨rfl, hsz, hP, hK, hD0, hN⟩ := hv
  have hx := B.exec
  have hb := B.bytes
  have hr := B.returns
  have hts := atoms_spec (ws := wsX10_in) B.pre
  have hown : s.vm.findClass RX10 = some m.cls := findClass_of_methodNamed B.named
  have hlocks := B.notSynchronized
  subst hsz
  have hD := hD0.self (sz := s.heap.size)
  generalize hAe : va_A ([] : va_W) s.heap.size = A0 at hD ⊢
  have hA : ∀ q : Nat, s.heap.size ≤ q → A0 q := fun q h => by rw [← hAe]; exact Or.inr h
  have hl := lv_entry ([.long (0 : Int64), .long (0 : Int64), .long (2 : Int64)]) (n := 6) (Nat.le_of_ble_eq_true rfl)
  rw [lg_entry_eq]
  generalize (lg_sl ([.long (0 : Int64), .long (0 : Int64), .long (2 : Int64)]) ++ List.replicate (6 - (lg_sl ([.long (0 : Int64), .long (0 : Int64), .long (2 : Int64)])).length) Slot.unset).toArray = ls at hl ⊢
  have hl : lv_has ls 6 [(0, .long (0 : Int64)), (2, .long (0 : Int64)), (4, .long (2 : Int64))] := hl
  generalize hH : s.heap = H at hP ⊢
  have hS : va_S A0 s.heap H [] := by rw [← hH]; exact va_S.rf
  refine lv_lload_n hx hb dX10_in_0 rfl (lv_at hl 0 rfl) ?_
  refine lv_lload_n hx hb dX10_in_1 rfl (lv_at hl 1 rfl) ?_
  refine xl_lt (tgt := 17) hx hb dX10_in_2 dX10_in_3 (by decide) (fun c9 => False.elim (by revert c9; decide +kernel)) (fun _ => ?_)
  refine lv_lload_n hx hb dX10_in_6 rfl (lv_at hl 0 rfl) ?_
  refine lv_lload hx hb dX10_in_7 (lv_at hl 2 rfl) ?_
  refine xl_gt (tgt := 17) hx hb dX10_in_9 dX10_in_10 (by decide) (fun c9 => False.elim (by revert c9; decide +kernel)) (fun _ => ?_)
  refine lv_iconst (v := nI 1) hx hb dX10_in_13 (by decide) ?_
  refine lv_goto (tgt := 18) hx hb dX10_in_14 (by decide) ?_
  exact xr_z (v := (nI 1)) hx hb hr hlocks hK hS dX10_in_18 (rfl) (I, L, A, Q) ⟨rfl, rfl⟩ hP hD
set_option maxHeartbeats 4000000 in
set_option maxRecDepth 100000 in
theorem a_X10_isLane_250 (l : Launch) (dC : Nat → ClassId) (dI : Nat → Nat → Nat) (h : Nat → Nat) (cs : Nat → ClassId) (sz : Nat) (I : Nat → Int32) (L : Nat → Int64) (A : Nat → Nat → Int32) (Q : Nat → Nat → Int64) : Met l yX10_isLane wsX10_isLane ({ frames := 1, cells := 0, slots := 0, locals := 25 }) (va_Pc [.int (nI 0)] (xPre (dC, dI) ([] : va_W) (tysA cs) sz)) (va_Qi (fun (r : Int32) (u : RS) => (r = nI 1) ∧ u = (I, L, A, Q)) (xB (dC, dI) (tysA cs) (va_A ([] : va_W) sz) (fun _ : RS => ([] : va_W))) (va_A ([] : va_W) sz)) 0 0 (va_A ([] : va_W) sz) := by
  refine Met.ofW (cc := cX10_isLane) (maxL := 1) (ret := (some .boolean)) (by decide) rfl ?_
  intro p e s m args below meth c s₁ B hml hv
  obtain ⟨rfl, hsz, hP, hK, hD0, hN⟩ := hv
  have hx := B.exec
  have hb := B.bytes
  have hr := B.returns
  have hts := atoms_spec (ws := wsX10_isLane) B.pre
  have hown : s.vm.findClass RX10 = some m.cls := findClass_of_methodNamed B.named
  have hlocks := B.notSynchronized
  subst hsz
  have hD := hD0.self (sz := s.heap.size)
  generalize hAe : va_A ([] : va_W) s.heap.size = A0 at hD ⊢
  have hA : ∀ q : Nat, s.heap.size ≤ q → A0 q := fun q h => by rw [← hAe]; exact Or.inr h
  have hl := lv_entry ([.int (nI 0)]) (n := 1) (Nat.le_of_ble_eq_true rfl)
  rw [lg_entry_eq]
  generalize (lg_sl ([.int (nI 0)]) ++ List.replicate (1 - (lg_sl ([.int (nI 0)])).length) Slot.unset).toArray = ls at hl ⊢
  have hl : lv_has ls 1 [(0, .int (nI 0))] := hl
  generalize hH : s.heap = H at hP ⊢
  have hS : va_S A0 s.heap H [] := by rw [← hH]; exact va_S.rf
  refine lv_iload_n hx hb dX10_isLane_0 rfl (lv_at hl 0 rfl) ?_
  refine lv_i2l (v := (0 : Int64)) hx hb dX10_isLane_1 (by decide +kernel) ?_
  refine lv_lconst (v := 0) hx hb dX10_isLane_2 rfl ?_
  refine lv_ldc2 (v := 2) hx hb hown (hts (.constantLong RX10 233 (2)) (by decide +kernel)) dX10_isLane_3 ?_
  refine xj_i (wc := ([] : va_W)) (wr := ([] : va_W)) hP hD hS hA [] [] rfl rfl (by decide) (by decide) (va_runS (As := [.long (0 : Int64), .long (0 : Int64), .long (2 : Int64)]) (rest := []) ⟨hx, hb, hml, hown, hts⟩ (a_X10_in_251 l dC dI h cs H.size I L A Q ) (va_cwS 3 hts gX10_isLane_X10_in rfl rfl rfl (by decide +kernel) ⟨Nat.le_of_ble_eq_true rfl, Nat.le_of_ble_eq_true rfl⟩) (xpS (wc := ([] : va_W)) hP hD hK hN [] rfl (by decide) _) rfl rfl hl.1 rfl (lv_room (Nat.le_of_ble_eq_true rfl)) dX10_isLane_6 ⟨Nat.zero_le _, Nat.zero_le _⟩) (fun r_2 u_1 H locs hw hP hD hS => ?_)
  obtain ⟨hf_3, rfl⟩ := hw
  obtain rfl := hf_3
  exact xr_z (v := (nI 1)) hx hb hr hlocks hK hS dX10_isLane_9 (rfl) (I, L, A, Q) ⟨rfl, rfl⟩ hP hD
set_option maxHeartbeats 4000000 in
set_option maxRecDepth 100000 in
theorem a_X10_in_253 (l : Launch) (dC : Nat → ClassId) (dI : Nat → Nat → Nat) (h : Nat → Nat) (cs : Nat → ClassId) (sz : Nat) (I : Nat → Int32) (L : Nat → Int64) (A : Nat → Nat → Int32) (Q : Nat → Nat → Int64) : Met l yX10_in wsX10_in ({ frames := 0, cells := 0, slots := 0, locals := 0 }) (va_Pc [.long (1 : Int64), .long (0 : Int64), .long (2 : Int64)] (xPre (dC, dI) ([] : va_W) (tysA cs) sz)) (va_Qi (fun (r : Int32) (u : RS) => (r = nI 1) ∧ u = (I, L, A, Q)) (xB (dC, dI) (tysA cs) (va_A ([] : va_W) sz) (fun _ : RS => ([] : va_W))) (va_A ([] : va_W) sz)) 0 0 (va_A ([] : va_W) sz) := by
  refine Met.ofW (cc := cX10_in) (maxL := 6) (ret := (some .boolean)) (by decide) rfl ?_
  intro p e s m args below meth c s₁ B hml hv
  obtain ⟨rfl, hsz, hP, hK, hD0, hN⟩ := hv
  have hx := B.exec
  have hb := B.bytes
  have hr := B.returns
  have hts := atoms_spec (ws := wsX10_in) B.pre
  have hown : s.vm.findClass RX10 = some m.cls := findClass_of_methodNamed B.named
  have hlocks := B.notSynchronized
  subst hsz
  have hD := hD0.self (sz := s.heap.size)
  generalize hAe : va_A ([] : va_W) s.heap.size = A0 at hD ⊢
  have hA : ∀ q : Nat, s.heap.size ≤ q → A0 q := fun q h => by rw [← hAe]; exact Or.inr h
  have hl := lv_entry ([.long (1 : Int64), .long (0 : Int64), .long (2 : Int64)]) (n := 6) (Nat.le_of_ble_eq_true rfl)
  rw [lg_entry_eq]
  generalize (lg_sl ([.long (1 : Int64), .long (0 : Int64), .long (2 : Int64)]) ++ List.replicate (6 - (lg_sl ([.long (1 : Int64), .long (0 : Int64), .long (2 : Int64)])).length) Slot.unset).toArray = ls at hl ⊢
  have hl : lv_has ls 6 [(0, .long (1 : Int64)), (2, .long (0 : Int64)), (4, .long (2 : Int64))] := hl
  generalize hH : s.heap = H at hP ⊢
  have hS : va_S A0 s.heap H [] := by rw [← hH]; exact va_S.rf
  refine lv_lload_n hx hb dX10_in_0 rfl (lv_at hl 0 rfl) ?_
  refine lv_lload_n hx hb dX10_in_1 rfl (lv_at hl 1 rfl) ?_
  refine xl_lt (tgt := 17) hx hb dX10_in_2 dX10_in_3 (by decide) (fun c9 => False.elim (by revert c9; decide +kernel)) (fun _ => ?_)
  refine lv_lload_n hx hb dX10_in_6 rfl (lv_at hl 0 rfl) ?_
  refine lv_lload hx hb dX10_in_7 (lv_at hl 2 rfl) ?_
  refine xl_gt (tgt := 17) hx hb dX10_in_9 dX10_in_10 (by decide) (fun c9 => False.elim (by revert c9; decide +kernel)) (fun _ => ?_)
  refine lv_iconst (v := nI 1) hx hb dX10_in_13 (by decide) ?_
  refine lv_goto (tgt := 18) hx hb dX10_in_14 (by decide) ?_
  exact xr_z (v := (nI 1)) hx hb hr hlocks hK hS dX10_in_18 (rfl) (I, L, A, Q) ⟨rfl, rfl⟩ hP hD
set_option maxHeartbeats 4000000 in
set_option maxRecDepth 100000 in
theorem a_X10_isLane_252 (l : Launch) (dC : Nat → ClassId) (dI : Nat → Nat → Nat) (h : Nat → Nat) (cs : Nat → ClassId) (sz : Nat) (I : Nat → Int32) (L : Nat → Int64) (A : Nat → Nat → Int32) (Q : Nat → Nat → Int64) : Met l yX10_isLane wsX10_isLane ({ frames := 1, cells := 0, slots := 0, locals := 25 }) (va_Pc [.int (nI 1)] (xPre (dC, dI) ([] : va_W) (tysA cs) sz)) (va_Qi (fun (r : Int32) (u : RS) => (r = nI 1) ∧ u = (I, L, A, Q)) (xB (dC, dI) (tysA cs) (va_A ([] : va_W) sz) (fun _ : RS => ([] : va_W))) (va_A ([] : va_W) sz)) 0 0 (va_A ([] : va_W) sz) := by
  refine Met.ofW (cc := cX10_isLane) (maxL := 1) (ret := (some .boolean)) (by decide) rfl ?_
  intro p e s m args below meth c s₁ B hml hv
  obtain ⟨rfl, hsz, hP, hK, hD0, hN⟩ := hv
  have hx := B.exec
  have hb := B.bytes
  have hr := B.returns
  have hts := atoms_spec (ws := wsX10_isLane) B.pre
  have hown : s.vm.findClass RX10 = some m.cls := findClass_of_methodNamed B.named
  have hlocks := B.notSynchronized
  subst hsz
  have hD := hD0.self (sz := s.heap.size)
  generalize hAe : va_A ([] : va_W) s.heap.size = A0 at hD ⊢
  have hA : ∀ q : Nat, s.heap.size ≤ q → A0 q := fun q h => by rw [← hAe]; exact Or.inr h
  have hl := lv_entry ([.int (nI 1)]) (n := 1) (Nat.le_of_ble_eq_true rfl)
  rw [lg_entry_eq]
  generalize (lg_sl ([.int (nI 1)]) ++ List.replicate (1 - (lg_sl ([.int (nI 1)])).length) Slot.unset).toArray = ls at hl ⊢
  have hl : lv_has ls 1 [(0, .int (nI 1))] := hl
  generalize hH : s.heap = H at hP ⊢
  have hS : va_S A0 s.heap H [] := by rw [← hH]; exact va_S.rf
  refine lv_iload_n hx hb dX10_isLane_0 rfl (lv_at hl 0 rfl) ?_
  refine lv_i2l (v := (1 : Int64)) hx hb dX10_isLane_1 (by decide +kernel) ?_
  refine lv_lconst (v := 0) hx hb dX10_isLane_2 rfl ?_
  refine lv_ldc2 (v := 2) hx hb hown (hts (.constantLong RX10 233 (2)) (by decide +kernel)) dX10_isLane_3 ?_
  refine xj_i (wc := ([] : va_W)) (wr := ([] : va_W)) hP hD hS hA [] [] rfl rfl (by decide) (by decide) (va_runS (As := [.long (1 : Int64), .long (0 : Int64), .long (2 : Int64)]) (rest := []) ⟨hx, hb, hml, hown, hts⟩ (a_X10_in_253 l dC dI h cs H.size I L A Q ) (va_cwS 3 hts gX10_isLane_X10_in rfl rfl rfl (by decide +kernel) ⟨Nat.le_of_ble_eq_true rfl, Nat.le_of_ble_eq_true rfl⟩) (xpS (wc := ([] : va_W)) hP hD hK hN [] rfl (by decide) _) rfl rfl hl.1 rfl (lv_room (Nat.le_of_ble_eq_true rfl)) dX10_isLane_6 ⟨Nat.zero_le _, Nat.zero_le _⟩) (fun r_2 u_1 H locs hw hP hD hS => ?_)
  obtain ⟨hf_3, rfl⟩ := hw
  obtain rfl := hf_3
  exact xr_z (v := (nI 1)) hx hb hr hlocks hK hS dX10_isLane_9 (rfl) (I, L, A, Q) ⟨rfl, rfl⟩ hP hD
set_option maxHeartbeats 4000000 in
set_option maxRecDepth 100000 in
theorem a_X10_in_255 (l : Launch) (dC : Nat → ClassId) (dI : Nat → Nat → Nat) (h : Nat → Nat) (cs : Nat → ClassId) (sz : Nat) (I : Nat → Int32) (L : Nat → Int64) (A : Nat → Nat → Int32) (Q : Nat → Nat → Int64) : Met l yX10_in wsX10_in ({ frames := 0, cells := 0, slots := 0, locals := 0 }) (va_Pc [.long (2 : Int64), .long (0 : Int64), .long (2 : Int64)] (xPre (dC, dI) ([] : va_W) (tysA cs) sz)) (va_Qi (fun (r : Int32) (u : RS) => (r = nI 1) ∧ u = (I, L, A, Q)) (xB (dC, dI) (tysA cs) (va_A ([] : va_W) sz) (fun _ : RS => ([] : va_W))) (va_A ([] : va_W) sz)) 0 0 (va_A ([] : va_W) sz) := by
  refine Met.ofW (cc := cX10_in) (maxL := 6) (ret := (some .boolean)) (by decide) rfl ?_
  intro p e s m args below meth c s₁ B hml hv
  obtain ⟨rfl, hsz, hP, hK, hD0, hN⟩ := hv
  have hx := B.exec
  have hb := B.bytes
  have hr := B.returns
  have hts := atoms_spec (ws := wsX10_in) B.pre
  have hown : s.vm.findClass RX10 = some m.cls := findClass_of_methodNamed B.named
  have hlocks := B.notSynchronized
  subst hsz
  have hD := hD0.self (sz := s.heap.size)
  generalize hAe : va_A ([] : va_W) s.heap.size = A0 at hD ⊢
  have hA : ∀ q : Nat, s.heap.size ≤ q → A0 q := fun q h => by rw [← hAe]; exact Or.inr h
  have hl := lv_entry ([.long (2 : Int64), .long (0 : Int64), .long (2 : Int64)]) (n := 6) (Nat.le_of_ble_eq_true rfl)
  rw [lg_entry_eq]
  generalize (lg_sl ([.long (2 : Int64), .long (0 : Int64), .long (2 : Int64)]) ++ List.replicate (6 - (lg_sl ([.long (2 : Int64), .long (0 : Int64), .long (2 : Int64)])).length) Slot.unset).toArray = ls at hl ⊢
  have hl : lv_has ls 6 [(0, .long (2 : Int64)), (2, .long (0 : Int64)), (4, .long (2 : Int64))] := hl
  generalize hH : s.heap = H at hP ⊢
  have hS : va_S A0 s.heap H [] := by rw [← hH]; exact va_S.rf
  refine lv_lload_n hx hb dX10_in_0 rfl (lv_at hl 0 rfl) ?_
  refine lv_lload_n hx hb dX10_in_1 rfl (lv_at hl 1 rfl) ?_
  refine xl_lt (tgt := 17) hx hb dX10_in_2 dX10_in_3 (by decide) (fun c9 => False.elim (by revert c9; decide +kernel)) (fun _ => ?_)
  refine lv_lload_n hx hb dX10_in_6 rfl (lv_at hl 0 rfl) ?_
  refine lv_lload hx hb dX10_in_7 (lv_at hl 2 rfl) ?_
  refine xl_gt (tgt := 17) hx hb dX10_in_9 dX10_in_10 (by decide) (fun c9 => False.elim (by revert c9; decide +kernel)) (fun _ => ?_)
  refine lv_iconst (v := nI 1) hx hb dX10_in_13 (by decide) ?_
  refine lv_goto (tgt := 18) hx hb dX10_in_14 (by decide) ?_
  exact xr_z (v := (nI 1)) hx hb hr hlocks hK hS dX10_in_18 (rfl) (I, L, A, Q) ⟨rfl, rfl⟩ hP hD
set_option maxHeartbeats 4000000 in
set_option maxRecDepth 100000 in
theorem a_X10_isLane_254 (l : Launch) (dC : Nat → ClassId) (dI : Nat → Nat → Nat) (h : Nat → Nat) (cs : Nat → ClassId) (sz : Nat) (I : Nat → Int32) (L : Nat → Int64) (A : Nat → Nat → Int32) (Q : Nat → Nat → Int64) : Met l yX10_isLane wsX10_isLane ({ frames := 1, cells := 0, slots := 0, locals := 25 }) (va_Pc [.int (nI 2)] (xPre (dC, dI) ([] : va_W) (tysA cs) sz)) (va_Qi (fun (r : Int32) (u : RS) => (r = nI 1) ∧ u = (I, L, A, Q)) (xB (dC, dI) (tysA cs) (va_A ([] : va_W) sz) (fun _ : RS => ([] : va_W))) (va_A ([] : va_W) sz)) 0 0 (va_A ([] : va_W) sz) := by
  refine Met.ofW (cc := cX10_isLane) (maxL := 1) (ret := (some .boolean)) (by decide) rfl ?_
  intro p e s m args below meth c s₁ B hml hv
  obtain ⟨rfl, hsz, hP, hK, hD0, hN⟩ := hv
  have hx := B.exec
  have hb := B.bytes
  have hr := B.returns
  have hts := atoms_spec (ws := wsX10_isLane) B.pre
  have hown : s.vm.findClass RX10 = some m.cls := findClass_of_methodNamed B.named
  have hlocks := B.notSynchronized
  subst hsz
  have hD := hD0.self (sz := s.heap.size)
  generalize hAe : va_A ([] : va_W) s.heap.size = A0 at hD ⊢
  have hA : ∀ q : Nat, s.heap.size ≤ q → A0 q := fun q h => by rw [← hAe]; exact Or.inr h
  have hl := lv_entry ([.int (nI 2)]) (n := 1) (Nat.le_of_ble_eq_true rfl)
  rw [lg_entry_eq]
  generalize (lg_sl ([.int (nI 2)]) ++ List.replicate (1 - (lg_sl ([.int (nI 2)])).length) Slot.unset).toArray = ls at hl ⊢
  have hl : lv_has ls 1 [(0, .int (nI 2))] := hl
  generalize hH : s.heap = H at hP ⊢
  have hS : va_S A0 s.heap H [] := by rw [← hH]; exact va_S.rf
  refine lv_iload_n hx hb dX10_isLane_0 rfl (lv_at hl 0 rfl) ?_
  refine lv_i2l (v := (2 : Int64)) hx hb dX10_isLane_1 (by decide +kernel) ?_
  refine lv_lconst (v := 0) hx hb dX10_isLane_2 rfl ?_
  refine lv_ldc2 (v := 2) hx hb hown (hts (.constantLong RX10 233 (2)) (by decide +kernel)) dX10_isLane_3 ?_
  refine xj_i (wc := ([] : va_W)) (wr := ([] : va_W)) hP hD hS hA [] [] rfl rfl (by decide) (by decide) (va_runS (As := [.long (2 : Int64), .long (0 : Int64), .long (2 : Int64)]) (rest := []) ⟨hx, hb, hml, hown, hts⟩ (a_X10_in_255 l dC dI h cs H.size I L A Q ) (va_cwS 3 hts gX10_isLane_X10_in rfl rfl rfl (by decide +kernel) ⟨Nat.le_of_ble_eq_true rfl, Nat.le_of_ble_eq_true rfl⟩) (xpS (wc := ([] : va_W)) hP hD hK hN [] rfl (by decide) _) rfl rfl hl.1 rfl (lv_room (Nat.le_of_ble_eq_true rfl)) dX10_isLane_6 ⟨Nat.zero_le _, Nat.zero_le _⟩) (fun r_2 u_1 H locs hw hP hD hS => ?_)
  obtain ⟨hf_3, rfl⟩ := hw
  obtain rfl := hf_3
  exact xr_z (v := (nI 1)) hx hb hr hlocks hK hS dX10_isLane_9 (rfl) (I, L, A, Q) ⟨rfl, rfl⟩ hP hD
set_option maxHeartbeats 4000000 in
set_option maxRecDepth 100000 in
theorem f_X10_item (l : Launch) (dC : Nat → ClassId) (dI : Nat → Nat → Nat) (h : Nat → Nat) (cs : Nat → ClassId) (sz : Nat) (I : Nat → Int32) (L : Nat → Int64) (A : Nat → Nat → Int32) (Q : Nat → Nat → Int64) (x y z v : Int32) : Met l yX10_item wsX10_item ({ frames := 2, cells := 0, slots := 0, locals := 45 }) (va_Pc [.ref (h 0), .int x, .int y, .int z, .int v] (xPre (dC, dI) (rW h cs gI gL gA gQ) (tysA cs) sz)) (va_Qi (fun (r : Int32) (u : RS) => (r = an_item x y) ∧ u = (gI, gL, gA, gQ)) (xB (dC, dI) (tysA cs) (va_A (rW h cs gI gL gA gQ) sz) (fun u : RS => rW h cs u.1 u.2.1 u.2.2.1 u.2.2.2)) (va_A (rW h cs gI gL gA gQ) sz)) 0 0 (va_A (rW h cs gI gL gA gQ) sz) := by
  refine Met.ofW (cc := cX10_item) (maxL := 5) (ret := (some .int)) (by decide) rfl ?_
  intro p e s m args below meth c s₁ B hml hv
  obtain ⟨rfl, hsz, hP, hK, hD0, hN⟩ := hv
  have hx := B.exec
  have hb := B.bytes
  have hr := B.returns
  have hts := atoms_spec (ws := wsX10_item) B.pre
  have hown : s.vm.findClass RX10 = some m.cls := findClass_of_methodNamed B.named
  have hlocks := B.notSynchronized
  subst hsz
  have hD := hD0.self (sz := s.heap.size)
  generalize hAe : va_A (rW h cs gI gL gA gQ) s.heap.size = A0 at hD ⊢
  have hA : ∀ q : Nat, s.heap.size ≤ q → A0 q := fun q h => by rw [← hAe]; exact Or.inr h
  have hl := lv_entry ([.ref (h 0), .int x, .int y, .int z, .int v]) (n := 5) (Nat.le_of_ble_eq_true rfl)
  rw [lg_entry_eq]
  generalize (lg_sl ([.ref (h 0), .int x, .int y, .int z, .int v]) ++ List.replicate (5 - (lg_sl ([.ref (h 0), .int x, .int y, .int z, .int v])).length) Slot.unset).toArray = ls at hl ⊢
  have hl : lv_has ls 5 [(0, .ref (h 0)), (1, .int x), (2, .int y), (3, .int z), (4, .int v)] := hl
  generalize hH : s.heap = H at hP ⊢
  have hS : va_S A0 s.heap H [] := by rw [← hH]; exact va_S.rf
  have hinX10 : ∀ w ∈ wsX100, w ∈ wsX10_item := by decide +kernel
  rcases splR x 0 3 (by decide) with ⟨i_x, h_x, g_x, rfl⟩ | hz_x
  · skip
    rcases (show i_x = 0 ∨ i_x = 1 ∨ i_x = 2 ∨ i_x = 3 by omega) with rfl | rfl | rfl | rfl
    · skip
      rcases splR y 0 2 (by decide) with ⟨i_y, h_y, g_y, rfl⟩ | hz_y
      · skip
        rcases (show i_y = 0 ∨ i_y = 1 ∨ i_y = 2 by omega) with rfl | rfl | rfl
        · skip
          refine lv_iload_n hx hb dX10_item_0 rfl (lv_at hl 1 rfl) ?_
          refine xj_i (wc := ([] : va_W)) (wr := (rW h cs gI gL gA gQ)) hP hD hS hA [] [0, 1, 2, 3, 4, 5, 6, 7, 8, 9, 10, 11, 12, 13, 14, 15, 16] rfl rfl (by decide) (by decide) (va_runS (As := [.int (nI 0)]) (rest := []) ⟨hx, hb, hml, hown, hts⟩ (a_X10_isSheet_246 l dC dI h cs H.size I L A Q ) (va_cwS 1 hts gX10_item_X10_isSheet rfl rfl rfl (by decide +kernel) ⟨Nat.le_of_ble_eq_true rfl, Nat.le_of_ble_eq_true rfl⟩) (xpS (wc := ([] : va_W)) hP hD hK hN [] rfl (by decide) _) rfl rfl hl.1 rfl (lv_room (Nat.le_of_ble_eq_true rfl)) dX10_item_1 ⟨Nat.zero_le _, Nat.zero_le _⟩) (fun r_2 u_1 H locs hw hP hD hS => ?_)
          obtain ⟨hf_3, rfl⟩ := hw
          have hP : va_P (dC, dI) vwCl (rW h cs gI gL gA gQ) H := hP
          have hD : va_D A0 (rW h cs gI gL gA gQ) := hD
          obtain rfl := hf_3
          refine lv_if_eq (tgt := 14) hx hb dX10_item_4 (by decide) (fun c9 => False.elim (by revert c9; decide +kernel)) (fun _ => ?_)
          refine lv_iload_n hx hb dX10_item_7 rfl (lv_at hl 2 rfl) ?_
          refine xj_i (wc := ([] : va_W)) (wr := (rW h cs gI gL gA gQ)) hP hD hS hA [] [0, 1, 2, 3, 4, 5, 6, 7, 8, 9, 10, 11, 12, 13, 14, 15, 16] rfl rfl (by decide) (by decide) (va_runS (As := [.int (nI 0)]) (rest := []) ⟨hx, hb, hml, hown, hts⟩ (a_X10_isLane_250 l dC dI h cs H.size I L A Q ) (va_cwS 1 hts gX10_item_X10_isLane rfl rfl rfl (by decide +kernel) ⟨Nat.le_of_ble_eq_true rfl, Nat.le_of_ble_eq_true rfl⟩) (xpS (wc := ([] : va_W)) hP hD hK hN [] rfl (by decide) _) rfl rfl hl.1 rfl (lv_room (Nat.le_of_ble_eq_true rfl)) dX10_item_8 ⟨Nat.zero_le _, Nat.zero_le _⟩) (fun r_5 u_4 H locs hw hP hD hS => ?_)
          obtain ⟨hf_6, rfl⟩ := hw
          have hP : va_P (dC, dI) vwCl (rW h cs gI gL gA gQ) H := hP
          have hD : va_D A0 (rW h cs gI gL gA gQ) := hD
          obtain rfl := hf_6
          refine lv_if_ne (tgt := 16) hx hb dX10_item_11 (by decide) (fun _ => ?_) (fun c9 => False.elim (by revert c9; decide +kernel))
          refine lv_aload_n hx hb dX10_item_16 rfl (lv_at hl 0 rfl) ?_
          refine va_get (D := (dC, dI)) (ci := 10) (v := .ref (h 25)) (C := RX10) (T := TX10) (N := 28) hx hb hts hinX10 hown hK hP 0 rfl rfl 25 (by decide) (hts (.fieldLink RX10 60 "MixedWordsModel" "lanes" "[I") (by decide +kernel)) (fun _ h9 => h9) rfl dX10_item_17 ?_
          refine lv_iload_n hx hb dX10_item_20 rfl (lv_at hl 1 rfl) ?_
          refine xa_iald hx hb hK hP 14 0 rfl rfl (by omega) (by decide) dX10_item_21 ?_
          refine xt_i (y := (-1 : Int32)) (by decide +kernel) ?_
          refine lv_if_ge (tgt := 28) hx hb dX10_item_22 (by decide) (fun c9 => False.elim (by revert c9; decide +kernel)) (fun _ => ?_)
          refine lv_bipush (v := (-11)) hx hb dX10_item_25 (by decide) ?_
          exact xr_i (v := (-11)) hx hb hr hlocks hK hS dX10_item_27 (gI, gL, gA, gQ) ⟨(by decide +kernel), rfl⟩ hP hD
        · skip
          refine lv_iload_n hx hb dX10_item_0 rfl (lv_at hl 1 rfl) ?_
          refine xj_i (wc := ([] : va_W)) (wr := (rW h cs gI gL gA gQ)) hP hD hS hA [] [0, 1, 2, 3, 4, 5, 6, 7, 8, 9, 10, 11, 12, 13, 14, 15, 16] rfl rfl (by decide) (by decide) (va_runS (As := [.int (nI 0)]) (rest := []) ⟨hx, hb, hml, hown, hts⟩ (a_X10_isSheet_246 l dC dI h cs H.size I L A Q ) (va_cwS 1 hts gX10_item_X10_isSheet rfl rfl rfl (by decide +kernel) ⟨Nat.le_of_ble_eq_true rfl, Nat.le_of_ble_eq_true rfl⟩) (xpS (wc := ([] : va_W)) hP hD hK hN [] rfl (by decide) _) rfl rfl hl.1 rfl (lv_room (Nat.le_of_ble_eq_true rfl)) dX10_item_1 ⟨Nat.zero_le _, Nat.zero_le _⟩) (fun r_8 u_7 H locs hw hP hD hS => ?_)
          obtain ⟨hf_9, rfl⟩ := hw
          have hP : va_P (dC, dI) vwCl (rW h cs gI gL gA gQ) H := hP
          have hD : va_D A0 (rW h cs gI gL gA gQ) := hD
          obtain rfl := hf_9
          refine lv_if_eq (tgt := 14) hx hb dX10_item_4 (by decide) (fun c9 => False.elim (by revert c9; decide +kernel)) (fun _ => ?_)
          refine lv_iload_n hx hb dX10_item_7 rfl (lv_at hl 2 rfl) ?_
          refine xj_i (wc := ([] : va_W)) (wr := (rW h cs gI gL gA gQ)) hP hD hS hA [] [0, 1, 2, 3, 4, 5, 6, 7, 8, 9, 10, 11, 12, 13, 14, 15, 16] rfl rfl (by decide) (by decide) (va_runS (As := [.int (nI 1)]) (rest := []) ⟨hx, hb, hml, hown, hts⟩ (a_X10_isLane_252 l dC dI h cs H.size I L A Q ) (va_cwS 1 hts gX10_item_X10_isLane rfl rfl rfl (by decide +kernel) ⟨Nat.le_of_ble_eq_true rfl, Nat.le_of_ble_eq_true rfl⟩) (xpS (wc := ([] : va_W)) hP hD hK hN [] rfl (by decide) _) rfl rfl hl.1 rfl (lv_room (Nat.le_of_ble_eq_true rfl)) dX10_item_8 ⟨Nat.zero_le _, Nat.zero_le _⟩) (fun r_11 u_10 H locs hw hP hD hS => ?_)
          obtain ⟨hf_12, rfl⟩ := hw
          have hP : va_P (dC, dI) vwCl (rW h cs gI gL gA gQ) H := hP
          have hD : va_D A0 (rW h cs gI gL gA gQ) := hD
          obtain rfl := hf_12
          refine lv_if_ne (tgt := 16) hx hb dX10_item_11 (by decide) (fun _ => ?_) (fun c9 => False.elim (by revert c9; decide +kernel))
          refine lv_aload_n hx hb dX10_item_16 rfl (lv_at hl 0 rfl) ?_
          refine va_get (D := (dC, dI)) (ci := 10) (v := .ref (h 25)) (C := RX10) (T := TX10) (N := 28) hx hb hts hinX10 hown hK hP 0 rfl rfl 25 (by decide) (hts (.fieldLink RX10 60 "MixedWordsModel" "lanes" "[I") (by decide +kernel)) (fun _ h9 => h9) rfl dX10_item_17 ?_
          refine lv_iload_n hx hb dX10_item_20 rfl (lv_at hl 1 rfl) ?_
          refine xa_iald hx hb hK hP 14 0 rfl rfl (by omega) (by decide) dX10_item_21 ?_
          refine xt_i (y := (-1 : Int32)) (by decide +kernel) ?_
          refine lv_if_ge (tgt := 28) hx hb dX10_item_22 (by decide) (fun c9 => False.elim (by revert c9; decide +kernel)) (fun _ => ?_)
          refine lv_bipush (v := (-11)) hx hb dX10_item_25 (by decide) ?_
          exact xr_i (v := (-11)) hx hb hr hlocks hK hS dX10_item_27 (gI, gL, gA, gQ) ⟨(by decide +kernel), rfl⟩ hP hD
        · skip
          refine lv_iload_n hx hb dX10_item_0 rfl (lv_at hl 1 rfl) ?_
          refine xj_i (wc := ([] : va_W)) (wr := (rW h cs gI gL gA gQ)) hP hD hS hA [] [0, 1, 2, 3, 4, 5, 6, 7, 8, 9, 10, 11, 12, 13, 14, 15, 16] rfl rfl (by decide) (by decide) (va_runS (As := [.int (nI 0)]) (rest := []) ⟨hx, hb, hml, hown, hts⟩ (a_X10_isSheet_246 l dC dI h cs H.size I L A Q ) (va_cwS 1 hts gX10_item_X10_isSheet rfl rfl rfl (by decide +kernel) ⟨Nat.le_of_ble_eq_true rfl, Nat.le_of_ble_eq_true rfl⟩) (xpS (wc := ([] : va_W)) hP hD hK hN [] rfl (by decide) _) rfl rfl hl.1 rfl (lv_room (Nat.le_of_ble_eq_true rfl)) dX10_item_1 ⟨Nat.zero_le _, Nat.zero_le _⟩) (fun r_14 u_13 H locs hw hP hD hS => ?_)
          obtain ⟨hf_15, rfl⟩ := hw
          have hP : va_P (dC, dI) vwCl (rW h cs gI gL gA gQ) H := hP
          have hD : va_D A0 (rW h cs gI gL gA gQ) := hD
          obtain rfl := hf_15
          refine lv_if_eq (tgt := 14) hx hb dX10_item_4 (by decide) (fun c9 => False.elim (by revert c9; decide +kernel)) (fun _ => ?_)
          refine lv_iload_n hx hb dX10_item_7 rfl (lv_at hl 2 rfl) ?_
          refine xj_i (wc := ([] : va_W)) (wr := (rW h cs gI gL gA gQ)) hP hD hS hA [] [0, 1, 2, 3, 4, 5, 6, 7, 8, 9, 10, 11, 12, 13, 14, 15, 16] rfl rfl (by decide) (by decide) (va_runS (As := [.int (nI 2)]) (rest := []) ⟨hx, hb, hml, hown, hts⟩ (a_X10_isLane_254 l dC dI h cs H.size I L A Q ) (va_cwS 1 hts gX10_item_X10_isLane rfl rfl rfl (by decide +kernel) ⟨Nat.le_of_ble_eq_true rfl, Nat.le_of_ble_eq_true rfl⟩) (xpS (wc := ([] : va_W)) hP hD hK hN [] rfl (by decide) _) rfl rfl hl.1 rfl (lv_room (Nat.le_of_ble_eq_true rfl)) dX10_item_8 ⟨Nat.zero_le _, Nat.zero_le _⟩) (fun r_17 u_16 H locs hw hP hD hS => ?_)
          obtain ⟨hf_18, rfl⟩ := hw
          have hP : va_P (dC, dI) vwCl (rW h cs gI gL gA gQ) H := hP
          have hD : va_D A0 (rW h cs gI gL gA gQ) := hD
          obtain rfl := hf_18
          refine lv_if_ne (tgt := 16) hx hb dX10_item_11 (by decide) (fun _ => ?_) (fun c9 => False.elim (by revert c9; decide +kernel))
          refine lv_aload_n hx hb dX10_item_16 rfl (lv_at hl 0 rfl) ?_
          refine va_get (D := (dC, dI)) (ci := 10) (v := .ref (h 25)) (C := RX10) (T := TX10) (N := 28) hx hb hts hinX10 hown hK hP 0 rfl rfl 25 (by decide) (hts (.fieldLink RX10 60 "MixedWordsModel" "lanes" "[I") (by decide +kernel)) (fun _ h9 => h9) rfl dX10_item_17 ?_
          refine lv_iload_n hx hb dX10_item_20 rfl (lv_at hl 1 rfl) ?_
          refine xa_iald hx hb hK hP 14 0 rfl rfl (by omega) (by decide) dX10_item_21 ?_
          refine xt_i (y := (-1 : Int32)) (by decide +kernel) ?_
          refine lv_if_ge (tgt := 28) hx hb dX10_item_22 (by decide) (fun c9 => False.elim (by revert c9; decide +kernel)) (fun _ => ?_)
          refine lv_bipush (v := (-11)) hx hb dX10_item_25 (by decide) ?_
          exact xr_i (v := (-11)) hx hb hr hlocks hK hS dX10_item_27 (gI, gL, gA, gQ) ⟨(by decide +kernel), rfl⟩ hP hD
      · skip
        refine lv_iload_n hx hb dX10_item_0 rfl (lv_at hl 1 rfl) ?_
        refine xj_i (wc := ([] : va_W)) (wr := (rW h cs gI gL gA gQ)) hP hD hS hA [] [0, 1, 2, 3, 4, 5, 6, 7, 8, 9, 10, 11, 12, 13, 14, 15, 16] rfl rfl (by decide) (by decide) (va_runS (As := [.int (nI 0)]) (rest := []) ⟨hx, hb, hml, hown, hts⟩ (a_X10_isSheet_246 l dC dI h cs H.size I L A Q ) (va_cwS 1 hts gX10_item_X10_isSheet rfl rfl rfl (by decide +kernel) ⟨Nat.le_of_ble_eq_true rfl, Nat.le_of_ble_eq_true rfl⟩) (xpS (wc := ([] : va_W)) hP hD hK hN [] rfl (by decide) _) rfl rfl hl.1 rfl (lv_room (Nat.le_of_ble_eq_true rfl)) dX10_item_1 ⟨Nat.zero_le _, Nat.zero_le _⟩) (fun r_20 u_19 H locs hw hP hD hS => ?_)
        obtain ⟨hf_21, rfl⟩ := hw
        have hP : va_P (dC, dI) vwCl (rW h cs gI gL gA gQ) H := hP
        have hD : va_D A0 (rW h cs gI gL gA gQ) := hD
        obtain rfl := hf_21
        refine lv_if_eq (tgt := 14) hx hb dX10_item_4 (by decide) (fun c9 => False.elim (by revert c9; decide +kernel)) (fun _ => ?_)
        refine lv_iload_n hx hb dX10_item_7 rfl (lv_at hl 2 rfl) ?_
        refine xj_i (wc := ([] : va_W)) (wr := (rW h cs gI gL gA gQ)) hP hD hS hA [] [0, 1, 2, 3, 4, 5, 6, 7, 8, 9, 10, 11, 12, 13, 14, 15, 16] rfl rfl (by decide) (by decide) (va_runS (As := [.int y]) (rest := []) ⟨hx, hb, hml, hown, hts⟩ (k_X10_isLane l dC dI h cs H.size I L A Q y) (va_cwS 1 hts gX10_item_X10_isLane rfl rfl rfl (by decide +kernel) ⟨Nat.le_of_ble_eq_true rfl, Nat.le_of_ble_eq_true rfl⟩) (xpS (wc := ([] : va_W)) hP hD hK hN [] rfl (by decide) _) rfl rfl hl.1 rfl (lv_room (Nat.le_of_ble_eq_true rfl)) dX10_item_8 ⟨Nat.zero_le _, Nat.zero_le _⟩) (fun r_23 u_22 H locs hw hP hD hS => ?_)
        obtain ⟨hf_24, rfl⟩ := hw
        have hP : va_P (dC, dI) vwCl (rW h cs gI gL gA gQ) H := hP
        have hD : va_D A0 (rW h cs gI gL gA gQ) := hD
        rcases hf_24 with ⟨rfl, i_25, hh_26, ee_27⟩ | ⟨rfl, -⟩
        · skip
          exact absurd (by rw [ee_27, nI_toInt (by omega)]; omega) hz_y
        · skip
          refine lv_if_ne (tgt := 16) hx hb dX10_item_11 (by decide) (fun c9 => False.elim (by revert c9; decide +kernel)) (fun _ => ?_)
          refine lv_iconst (v := (-1)) hx hb dX10_item_14 (by decide) ?_
          exact xr_i (v := (-1)) hx hb hr hlocks hK hS dX10_item_15 (gI, gL, gA, gQ) ⟨(by unfold an_item; rw [if_neg (by omega)]), rfl⟩ hP hD
    · skip
      rcases splR y 0 2 (by decide) with ⟨i_y, h_y, g_y, rfl⟩ | hz_y
      · skip
        rcases (show i_y = 0 ∨ i_y = 1 ∨ i_y = 2 by omega) with rfl | rfl | rfl
        · skip
          refine lv_iload_n hx hb dX10_item_0 rfl (lv_at hl 1 rfl) ?_
          refine xj_i (wc := ([] : va_W)) (wr := (rW h cs gI gL gA gQ)) hP hD hS hA [] [0, 1, 2, 3, 4, 5, 6, 7, 8, 9, 10, 11, 12, 13, 14, 15, 16] rfl rfl (by decide) (by decide) (va_runS (As := [.int (nI 1)]) (rest := []) ⟨hx, hb, hml, hown, hts⟩ (a_X10_isSheet_247 l dC dI h cs H.size I L A Q ) (va_cwS 1 hts gX10_item_X10_isSheet rfl rfl rfl (by decide +kernel) ⟨Nat.le_of_ble_eq_true rfl, Nat.le_of_ble_eq_true rfl⟩) (xpS (wc := ([] : va_W)) hP hD hK hN [] rfl (by decide) _) rfl rfl hl.1 rfl (lv_room (Nat.le_of_ble_eq_true rfl)) dX10_item_1 ⟨Nat.zero_le _, Nat.zero_le _⟩) (fun r_29 u_28 H locs hw hP hD hS => ?_)
          obtain ⟨hf_30, rfl⟩ := hw
          have hP : va_P (dC, dI) vwCl (rW h cs gI gL gA gQ) H := hP
          have hD : va_D A0 (rW h cs gI gL gA gQ) := hD
          obtain rfl := hf_30
          refine lv_if_eq (tgt := 14) hx hb dX10_item_4 (by decide) (fun c9 => False.elim (by revert c9; decide +kernel)) (fun _ => ?_)
          refine lv_iload_n hx hb dX10_item_7 rfl (lv_at hl 2 rfl) ?_
          refine xj_i (wc := ([] : va_W)) (wr := (rW h cs gI gL gA gQ)) hP hD hS hA [] [0, 1, 2, 3, 4, 5, 6, 7, 8, 9, 10, 11, 12, 13, 14, 15, 16] rfl rfl (by decide) (by decide) (va_runS (As := [.int (nI 0)]) (rest := []) ⟨hx, hb, hml, hown, hts⟩ (a_X10_isLane_250 l dC dI h cs H.size I L A Q ) (va_cwS 1 hts gX10_item_X10_isLane rfl rfl rfl (by decide +kernel) ⟨Nat.le_of_ble_eq_true rfl, Nat.le_of_ble_eq_true rfl⟩) (xpS (wc := ([] : va_W)) hP hD hK hN [] rfl (by decide) _) rfl rfl hl.1 rfl (lv_room (Nat.le_of_ble_eq_true rfl)) dX10_item_8 ⟨Nat.zero_le _, Nat.zero_le _⟩) (fun r_32 u_31 H locs hw hP hD hS => ?_)
          obtain ⟨hf_33, rfl⟩ := hw
          have hP : va_P (dC, dI) vwCl (rW h cs gI gL gA gQ) H := hP
          have hD : va_D A0 (rW h cs gI gL gA gQ) := hD
          obtain rfl := hf_33
          refine lv_if_ne (tgt := 16) hx hb dX10_item_11 (by decide) (fun _ => ?_) (fun c9 => False.elim (by revert c9; decide +kernel))
          refine lv_aload_n hx hb dX10_item_16 rfl (lv_at hl 0 rfl) ?_
          refine va_get (D := (dC, dI)) (ci := 10) (v := .ref (h 25)) (C := RX10) (T := TX10) (N := 28) hx hb hts hinX10 hown hK hP 0 rfl rfl 25 (by decide) (hts (.fieldLink RX10 60 "MixedWordsModel" "lanes" "[I") (by decide +kernel)) (fun _ h9 => h9) rfl dX10_item_17 ?_
          refine lv_iload_n hx hb dX10_item_20 rfl (lv_at hl 1 rfl) ?_
          refine xa_iald hx hb hK hP 14 0 rfl rfl (by omega) (by decide) dX10_item_21 ?_
          refine xt_i (y := (-1 : Int32)) (by decide +kernel) ?_
          refine lv_if_ge (tgt := 28) hx hb dX10_item_22 (by decide) (fun c9 => False.elim (by revert c9; decide +kernel)) (fun _ => ?_)
          refine lv_bipush (v := (-11)) hx hb dX10_item_25 (by decide) ?_
          exact xr_i (v := (-11)) hx hb hr hlocks hK hS dX10_item_27 (gI, gL, gA, gQ) ⟨(by decide +kernel), rfl⟩ hP hD
        · skip
          refine lv_iload_n hx hb dX10_item_0 rfl (lv_at hl 1 rfl) ?_
          refine xj_i (wc := ([] : va_W)) (wr := (rW h cs gI gL gA gQ)) hP hD hS hA [] [0, 1, 2, 3, 4, 5, 6, 7, 8, 9, 10, 11, 12, 13, 14, 15, 16] rfl rfl (by decide) (by decide) (va_runS (As := [.int (nI 1)]) (rest := []) ⟨hx, hb, hml, hown, hts⟩ (a_X10_isSheet_247 l dC dI h cs H.size I L A Q ) (va_cwS 1 hts gX10_item_X10_isSheet rfl rfl rfl (by decide +kernel) ⟨Nat.le_of_ble_eq_true rfl, Nat.le_of_ble_eq_true rfl⟩) (xpS (wc := ([] : va_W)) hP hD hK hN [] rfl (by decide) _) rfl rfl hl.1 rfl (lv_room (Nat.le_of_ble_eq_true rfl)) dX10_item_1 ⟨Nat.zero_le _, Nat.zero_le _⟩) (fun r_35 u_34 H locs hw hP hD hS => ?_)
          obtain ⟨hf_36, rfl⟩ := hw
          have hP : va_P (dC, dI) vwCl (rW h cs gI gL gA gQ) H := hP
          have hD : va_D A0 (rW h cs gI gL gA gQ) := hD
          obtain rfl := hf_36
          refine lv_if_eq (tgt := 14) hx hb dX10_item_4 (by decide) (fun c9 => False.elim (by revert c9; decide +kernel)) (fun _ => ?_)
          refine lv_iload_n hx hb dX10_item_7 rfl (lv_at hl 2 rfl) ?_
          refine xj_i (wc := ([] : va_W)) (wr := (rW h cs gI gL gA gQ)) hP hD hS hA [] [0, 1, 2, 3, 4, 5, 6, 7, 8, 9, 10, 11, 12, 13, 14, 15, 16] rfl rfl (by decide) (by decide) (va_runS (As := [.int (nI 1)]) (rest := []) ⟨hx, hb, hml, hown, hts⟩ (a_X10_isLane_252 l dC dI h cs H.size I L A Q ) (va_cwS 1 hts gX10_item_X10_isLane rfl rfl rfl (by decide +kernel) ⟨Nat.le_of_ble_eq_true rfl, Nat.le_of_ble_eq_true rfl⟩) (xpS (wc := ([] : va_W)) hP hD hK hN [] rfl (by decide) _) rfl rfl hl.1 rfl (lv_room (Nat.le_of_ble_eq_true rfl)) dX10_item_8 ⟨Nat.zero_le _, Nat.zero_le _⟩) (fun r_38 u_37 H locs hw hP hD hS => ?_)
          obtain ⟨hf_39, rfl⟩ := hw
          have hP : va_P (dC, dI) vwCl (rW h cs gI gL gA gQ) H := hP
          have hD : va_D A0 (rW h cs gI gL gA gQ) := hD
          obtain rfl := hf_39
          refine lv_if_ne (tgt := 16) hx hb dX10_item_11 (by decide) (fun _ => ?_) (fun c9 => False.elim (by revert c9; decide +kernel))
          refine lv_aload_n hx hb dX10_item_16 rfl (lv_at hl 0 rfl) ?_
          refine va_get (D := (dC, dI)) (ci := 10) (v := .ref (h 25)) (C := RX10) (T := TX10) (N := 28) hx hb hts hinX10 hown hK hP 0 rfl rfl 25 (by decide) (hts (.fieldLink RX10 60 "MixedWordsModel" "lanes" "[I") (by decide +kernel)) (fun _ h9 => h9) rfl dX10_item_17 ?_
          refine lv_iload_n hx hb dX10_item_20 rfl (lv_at hl 1 rfl) ?_
          refine xa_iald hx hb hK hP 14 0 rfl rfl (by omega) (by decide) dX10_item_21 ?_
          refine xt_i (y := (-1 : Int32)) (by decide +kernel) ?_
          refine lv_if_ge (tgt := 28) hx hb dX10_item_22 (by decide) (fun c9 => False.elim (by revert c9; decide +kernel)) (fun _ => ?_)
          refine lv_bipush (v := (-11)) hx hb dX10_item_25 (by decide) ?_
          exact xr_i (v := (-11)) hx hb hr hlocks hK hS dX10_item_27 (gI, gL, gA, gQ) ⟨(by decide +kernel), rfl⟩ hP hD
        · skip
          refine lv_iload_n hx hb dX10_item_0 rfl (lv_at hl 1 rfl) ?_
          refine xj_i (wc := ([] : va_W)) (wr := (rW h cs gI gL gA gQ)) hP hD hS hA [] [0, 1, 2, 3, 4, 5, 6, 7, 8, 9, 10, 11, 12, 13, 14, 15, 16] rfl rfl (by decide) (by decide) (va_runS (As := [.int (nI 1)]) (rest := []) ⟨hx, hb, hml, hown, hts⟩ (a_X10_isSheet_247 l dC dI h cs H.size I L A Q ) (va_cwS 1 hts gX10_item_X10_isSheet rfl rfl rfl (by decide +kernel) ⟨Nat.le_of_ble_eq_true rfl, Nat.le_of_ble_eq_true rfl⟩) (xpS (wc := ([] : va_W)) hP hD hK hN [] rfl (by decide) _) rfl rfl hl.1 rfl (lv_room (Nat.le_of_ble_eq_true rfl)) dX10_item_1 ⟨Nat.zero_le _, Nat.zero_le _⟩) (fun r_41 u_40 H locs hw hP hD hS => ?_)
          obtain ⟨hf_42, rfl⟩ := hw
          have hP : va_P (dC, dI) vwCl (rW h cs gI gL gA gQ) H := hP
          have hD : va_D A0 (rW h cs gI gL gA gQ) := hD
          obtain rfl := hf_42
          refine lv_if_eq (tgt := 14) hx hb dX10_item_4 (by decide) (fun c9 => False.elim (by revert c9; decide +kernel)) (fun _ => ?_)
          refine lv_iload_n hx hb dX10_item_7 rfl (lv_at hl 2 rfl) ?_
          refine xj_i (wc := ([] : va_W)) (wr := (rW h cs gI gL gA gQ)) hP hD hS hA [] [0, 1, 2, 3, 4, 5, 6, 7, 8, 9, 10, 11, 12, 13, 14, 15, 16] rfl rfl (by decide) (by decide) (va_runS (As := [.int (nI 2)]) (rest := []) ⟨hx, hb, hml, hown, hts⟩ (a_X10_isLane_254 l dC dI h cs H.size I L A Q ) (va_cwS 1 hts gX10_item_X10_isLane rfl rfl rfl (by decide +kernel) ⟨Nat.le_of_ble_eq_true rfl, Nat.le_of_ble_eq_true rfl⟩) (xpS (wc := ([] : va_W)) hP hD hK hN [] rfl (by decide) _) rfl rfl hl.1 rfl (lv_room (Nat.le_of_ble_eq_true rfl)) dX10_item_8 ⟨Nat.zero_le _, Nat.zero_le _⟩) (fun r_44 u_43 H locs hw hP hD hS => ?_)
          obtain ⟨hf_45, rfl⟩ := hw
          have hP : va_P (dC, dI) vwCl (rW h cs gI gL gA gQ) H := hP
          have hD : va_D A0 (rW h cs gI gL gA gQ) := hD
          obtain rfl := hf_45
          refine lv_if_ne (tgt := 16) hx hb dX10_item_11 (by decide) (fun _ => ?_) (fun c9 => False.elim (by revert c9; decide +kernel))
          refine lv_aload_n hx hb dX10_item_16 rfl (lv_at hl 0 rfl) ?_
          refine va_get (D := (dC, dI)) (ci := 10) (v := .ref (h 25)) (C := RX10) (T := TX10) (N := 28) hx hb hts hinX10 hown hK hP 0 rfl rfl 25 (by decide) (hts (.fieldLink RX10 60 "MixedWordsModel" "lanes" "[I") (by decide +kernel)) (fun _ h9 => h9) rfl dX10_item_17 ?_
          refine lv_iload_n hx hb dX10_item_20 rfl (lv_at hl 1 rfl) ?_
          refine xa_iald hx hb hK hP 14 0 rfl rfl (by omega) (by decide) dX10_item_21 ?_
          refine xt_i (y := (-1 : Int32)) (by decide +kernel) ?_
          refine lv_if_ge (tgt := 28) hx hb dX10_item_22 (by decide) (fun c9 => False.elim (by revert c9; decide +kernel)) (fun _ => ?_)
          refine lv_bipush (v := (-11)) hx hb dX10_item_25 (by decide) ?_
          exact xr_i (v := (-11)) hx hb hr hlocks hK hS dX10_item_27 (gI, gL, gA, gQ) ⟨(by decide +kernel), rfl⟩ hP hD
      · skip
        refine lv_iload_n hx hb dX10_item_0 rfl (lv_at hl 1 rfl) ?_
        refine xj_i (wc := ([] : va_W)) (wr := (rW h cs gI gL gA gQ)) hP hD hS hA [] [0, 1, 2, 3, 4, 5, 6, 7, 8, 9, 10, 11, 12, 13, 14, 15, 16] rfl rfl (by decide) (by decide) (va_runS (As := [.int (nI 1)]) (rest := []) ⟨hx, hb, hml, hown, hts⟩ (a_X10_isSheet_247 l dC dI h cs H.size I L A Q ) (va_cwS 1 hts gX10_item_X10_isSheet rfl rfl rfl (by decide +kernel) ⟨Nat.le_of_ble_eq_true rfl, Nat.le_of_ble_eq_true rfl⟩) (xpS (wc := ([] : va_W)) hP hD hK hN [] rfl (by decide) _) rfl rfl hl.1 rfl (lv_room (Nat.le_of_ble_eq_true rfl)) dX10_item_1 ⟨Nat.zero_le _, Nat.zero_le _⟩) (fun r_47 u_46 H locs hw hP hD hS => ?_)
        obtain ⟨hf_48, rfl⟩ := hw
        have hP : va_P (dC, dI) vwCl (rW h cs gI gL gA gQ) H := hP
        have hD : va_D A0 (rW h cs gI gL gA gQ) := hD
        obtain rfl := hf_48
        refine lv_if_eq (tgt := 14) hx hb dX10_item_4 (by decide) (fun c9 => False.elim (by revert c9; decide +kernel)) (fun _ => ?_)
        refine lv_iload_n hx hb dX10_item_7 rfl (lv_at hl 2 rfl) ?_
        refine xj_i (wc := ([] : va_W)) (wr := (rW h cs gI gL gA gQ)) hP hD hS hA [] [0, 1, 2, 3, 4, 5, 6, 7, 8, 9, 10, 11, 12, 13, 14, 15, 16] rfl rfl (by decide) (by decide) (va_runS (As := [.int y]) (rest := []) ⟨hx, hb, hml, hown, hts⟩ (k_X10_isLane l dC dI h cs H.size I L A Q y) (va_cwS 1 hts gX10_item_X10_isLane rfl rfl rfl (by decide +kernel) ⟨Nat.le_of_ble_eq_true rfl, Nat.le_of_ble_eq_true rfl⟩) (xpS (wc := ([] : va_W)) hP hD hK hN [] rfl (by decide) _) rfl rfl hl.1 rfl (lv_room (Nat.le_of_ble_eq_true rfl)) dX10_item_8 ⟨Nat.zero_le _, Nat.zero_le _⟩) (fun r_50 u_49 H locs hw hP hD hS => ?_)
        obtain ⟨hf_51, rfl⟩ := hw
        have hP : va_P (dC, dI) vwCl (rW h cs gI gL gA gQ) H := hP
        have hD : va_D A0 (rW h cs gI gL gA gQ) := hD
        rcases hf_51 with ⟨rfl, i_52, hh_53, ee_54⟩ | ⟨rfl, -⟩
        · skip
          exact absurd (by rw [ee_54, nI_toInt (by omega)]; omega) hz_y
        · skip
          refine lv_if_ne (tgt := 16) hx hb dX10_item_11 (by decide) (fun c9 => False.elim (by revert c9; decide +kernel)) (fun _ => ?_)
          refine lv_iconst (v := (-1)) hx hb dX10_item_14 (by decide) ?_
          exact xr_i (v := (-1)) hx hb hr hlocks hK hS dX10_item_15 (gI, gL, gA, gQ) ⟨(by unfold an_item; rw [if_neg (by omega)]), rfl⟩ hP hD
    · skip
      rcases splR y 0 2 (by decide) with ⟨i_y, h_y, g_y, rfl⟩ | hz_y
      · skip
        rcases (show i_y = 0 ∨ i_y = 1 ∨ i_y = 2 by omega) with rfl | rfl | rfl
        · skip
          refine lv_iload_n hx hb dX10_item_0 rfl (lv_at hl 1 rfl) ?_
          refine xj_i (wc := ([] : va_W)) (wr := (rW h cs gI gL gA gQ)) hP hD hS hA [] [0, 1, 2, 3, 4, 5, 6, 7, 8, 9, 10, 11, 12, 13, 14, 15, 16] rfl rfl (by decide) (by decide) (va_runS (As := [.int (nI 2)]) (rest := []) ⟨hx, hb, hml, hown, hts⟩ (a_X10_isSheet_248 l dC dI h cs H.size I L A Q ) (va_cwS 1 hts gX10_item_X10_isSheet rfl rfl rfl (by decide +kernel) ⟨Nat.le_of_ble_eq_true rfl, Nat.le_of_ble_eq_true rfl⟩) (xpS (wc := ([] : va_W)) hP hD hK hN [] rfl (by decide) _) rfl rfl hl.1 rfl (lv_room (Nat.le_of_ble_eq_true rfl)) dX10_item_1 ⟨Nat.zero_le _, Nat.zero_le _⟩) (fun r_56 u_55 H locs hw hP hD hS => ?_)
          obtain ⟨hf_57, rfl⟩ := hw
          have hP : va_P (dC, dI) vwCl (rW h cs gI gL gA gQ) H := hP
          have hD : va_D A0 (rW h cs gI gL gA gQ) := hD
          obtain rfl := hf_57
          refine lv_if_eq (tgt := 14) hx hb dX10_item_4 (by decide) (fun c9 => False.elim (by revert c9; decide +kernel)) (fun _ => ?_)
          refine lv_iload_n hx hb dX10_item_7 rfl (lv_at hl 2 rfl) ?_
          refine xj_i (wc := ([] : va_W)) (wr := (rW h cs gI gL gA gQ)) hP hD hS hA [] [0, 1, 2, 3, 4, 5, 6, 7, 8, 9, 10, 11, 12, 13, 14, 15, 16] rfl rfl (by decide) (by decide) (va_runS (As := [.int (nI 0)]) (rest := []) ⟨hx, hb, hml, hown, hts⟩ (a_X10_isLane_250 l dC dI h cs H.size I L A Q ) (va_cwS 1 hts gX10_item_X10_isLane rfl rfl rfl (by decide +kernel) ⟨Nat.le_of_ble_eq_true rfl, Nat.le_of_ble_eq_true rfl⟩) (xpS (wc := ([] : va_W)) hP hD hK hN [] rfl (by decide) _) rfl rfl hl.1 rfl (lv_room (Nat.le_of_ble_eq_true rfl)) dX10_item_8 ⟨Nat.zero_le _, Nat.zero_le _⟩) (fun r_59 u_58 H locs hw hP hD hS => ?_)
          obtain ⟨hf_60, rfl⟩ := hw
          have hP : va_P (dC, dI) vwCl (rW h cs gI gL gA gQ) H := hP
          have hD : va_D A0 (rW h cs gI gL gA gQ) := hD
          obtain rfl := hf_60
          refine lv_if_ne (tgt := 16) hx hb dX10_item_11 (by decide) (fun _ => ?_) (fun c9 => False.elim (by revert c9; decide +kernel))
          refine lv_aload_n hx hb dX10_item_16 rfl (lv_at hl 0 rfl) ?_
          refine va_get (D := (dC, dI)) (ci := 10) (v := .ref (h 25)) (C := RX10) (T := TX10) (N := 28) hx hb hts hinX10 hown hK hP 0 rfl rfl 25 (by decide) (hts (.fieldLink RX10 60 "MixedWordsModel" "lanes" "[I") (by decide +kernel)) (fun _ h9 => h9) rfl dX10_item_17 ?_
          refine lv_iload_n hx hb dX10_item_20 rfl (lv_at hl 1 rfl) ?_
          refine xa_iald hx hb hK hP 14 0 rfl rfl (by omega) (by decide) dX10_item_21 ?_
          refine xt_i (y := (-1 : Int32)) (by decide +kernel) ?_
          refine lv_if_ge (tgt := 28) hx hb dX10_item_22 (by decide) (fun c9 => False.elim (by revert c9; decide +kernel)) (fun _ => ?_)
          refine lv_bipush (v := (-11)) hx hb dX10_item_25 (by decide) ?_
          exact xr_i (v := (-11)) hx hb hr hlocks hK hS dX10_item_27 (gI, gL, gA, gQ) ⟨(by decide +kernel), rfl⟩ hP hD
        · skip
          refine lv_iload_n hx hb dX10_item_0 rfl (lv_at hl 1 rfl) ?_
          refine xj_i (wc := ([] : va_W)) (wr := (rW h cs gI gL gA gQ)) hP hD hS hA [] [0, 1, 2, 3, 4, 5, 6, 7, 8, 9, 10, 11, 12, 13, 14, 15, 16] rfl rfl (by decide) (by decide) (va_runS (As := [.int (nI 2)]) (rest := []) ⟨hx, hb, hml, hown, hts⟩ (a_X10_isSheet_248 l dC dI h cs H.size I L A Q ) (va_cwS 1 hts gX10_item_X10_isSheet rfl rfl rfl (by decide +kernel) ⟨Nat.le_of_ble_eq_true rfl, Nat.le_of_ble_eq_true rfl⟩) (xpS (wc := ([] : va_W)) hP hD hK hN [] rfl (by decide) _) rfl rfl hl.1 rfl (lv_room (Nat.le_of_ble_eq_true rfl)) dX10_item_1 ⟨Nat.zero_le _, Nat.zero_le _⟩) (fun r_62 u_61 H locs hw hP hD hS => ?_)
          obtain ⟨hf_63, rfl⟩ := hw
          have hP : va_P (dC, dI) vwCl (rW h cs gI gL gA gQ) H := hP
          have hD : va_D A0 (rW h cs gI gL gA gQ) := hD
          obtain rfl := hf_63
          refine lv_if_eq (tgt := 14) hx hb dX10_item_4 (by decide) (fun c9 => False.elim (by revert c9; decide +kernel)) (fun _ => ?_)
          refine lv_iload_n hx hb dX10_item_7 rfl (lv_at hl 2 rfl) ?_
          refine xj_i (wc := ([] : va_W)) (wr := (rW h cs gI gL gA gQ)) hP hD hS hA [] [0, 1, 2, 3, 4, 5, 6, 7, 8, 9, 10, 11, 12, 13, 14, 15, 16] rfl rfl (by decide) (by decide) (va_runS (As := [.int (nI 1)]) (rest := []) ⟨hx, hb, hml, hown, hts⟩ (a_X10_isLane_252 l dC dI h cs H.size I L A Q ) (va_cwS 1 hts gX10_item_X10_isLane rfl rfl rfl (by decide +kernel) ⟨Nat.le_of_ble_eq_true rfl, Nat.le_of_ble_eq_true rfl⟩) (xpS (wc := ([] : va_W)) hP hD hK hN [] rfl (by decide) _) rfl rfl hl.1 rfl (lv_room (Nat.le_of_ble_eq_true rfl)) dX10_item_8 ⟨Nat.zero_le _, Nat.zero_le _⟩) (fun r_65 u_64 H locs hw hP hD hS => ?_)
          obtain ⟨hf_66, rfl⟩ := hw
          have hP : va_P (dC, dI) vwCl (rW h cs gI gL gA gQ) H := hP
          have hD : va_D A0 (rW h cs gI gL gA gQ) := hD
          obtain rfl := hf_66
          refine lv_if_ne (tgt := 16) hx hb dX10_item_11 (by decide) (fun _ => ?_) (fun c9 => False.elim (by revert c9; decide +kernel))
          refine lv_aload_n hx hb dX10_item_16 rfl (lv_at hl 0 rfl) ?_
          refine va_get (D := (dC, dI)) (ci := 10) (v := .ref (h 25)) (C := RX10) (T := TX10) (N := 28) hx hb hts hinX10 hown hK hP 0 rfl rfl 25 (by decide) (hts (.fieldLink RX10 60 "MixedWordsModel" "lanes" "[I") (by decide +kernel)) (fun _ h9 => h9) rfl dX10_item_17 ?_
          refine lv_iload_n hx hb dX10_item_20 rfl (lv_at hl 1 rfl) ?_
          refine xa_iald hx hb hK hP 14 0 rfl rfl (by omega) (by decide) dX10_item_21 ?_
          refine xt_i (y := (-1 : Int32)) (by decide +kernel) ?_
          refine lv_if_ge (tgt := 28) hx hb dX10_item_22 (by decide) (fun c9 => False.elim (by revert c9; decide +kernel)) (fun _ => ?_)
          refine lv_bipush (v := (-11)) hx hb dX10_item_25 (by decide) ?_
          exact xr_i (v := (-11)) hx hb hr hlocks hK hS dX10_item_27 (gI, gL, gA, gQ) ⟨(by decide +kernel), rfl⟩ hP hD
        · skip
          refine lv_iload_n hx hb dX10_item_0 rfl (lv_at hl 1 rfl) ?_
          refine xj_i (wc := ([] : va_W)) (wr := (rW h cs gI gL gA gQ)) hP hD hS hA [] [0, 1, 2, 3, 4, 5, 6, 7, 8, 9, 10, 11, 12, 13, 14, 15, 16] rfl rfl (by decide) (by decide) (va_runS (As := [.int (nI 2)]) (rest := []) ⟨hx, hb, hml, hown, hts⟩ (a_X10_isSheet_248 l dC dI h cs H.size I L A Q ) (va_cwS 1 hts gX10_item_X10_isSheet rfl rfl rfl (by decide +kernel) ⟨Nat.le_of_ble_eq_true rfl, Nat.le_of_ble_eq_true rfl⟩) (xpS (wc := ([] : va_W)) hP hD hK hN [] rfl (by decide) _) rfl rfl hl.1 rfl (lv_room (Nat.le_of_ble_eq_true rfl)) dX10_item_1 ⟨Nat.zero_le _, Nat.zero_le _⟩) (fun r_68 u_67 H locs hw hP hD hS => ?_)
          obtain ⟨hf_69, rfl⟩ := hw
          have hP : va_P (dC, dI) vwCl (rW h cs gI gL gA gQ) H := hP
          have hD : va_D A0 (rW h cs gI gL gA gQ) := hD
          obtain rfl := hf_69
          refine lv_if_eq (tgt := 14) hx hb dX10_item_4 (by decide) (fun c9 => False.elim (by revert c9; decide +kernel)) (fun _ => ?_)
          refine lv_iload_n hx hb dX10_item_7 rfl (lv_at hl 2 rfl) ?_
          refine xj_i (wc := ([] : va_W)) (wr := (rW h cs gI gL gA gQ)) hP hD hS hA [] [0, 1, 2, 3, 4, 5, 6, 7, 8, 9, 10, 11, 12, 13, 14, 15, 16] rfl rfl (by decide) (by decide) (va_runS (As := [.int (nI 2)]) (rest := []) ⟨hx, hb, hml, hown, hts⟩ (a_X10_isLane_254 l dC dI h cs H.size I L A Q ) (va_cwS 1 hts gX10_item_X10_isLane rfl rfl rfl (by decide +kernel) ⟨Nat.le_of_ble_eq_true rfl, Nat.le_of_ble_eq_true rfl⟩) (xpS (wc := ([] : va_W)) hP hD hK hN [] rfl (by decide) _) rfl rfl hl.1 rfl (lv_room (Nat.le_of_ble_eq_true rfl)) dX10_item_8 ⟨Nat.zero_le _, Nat.zero_le _⟩) (fun r_71 u_70 H locs hw hP hD hS => ?_)
          obtain ⟨hf_72, rfl⟩ := hw
          have hP : va_P (dC, dI) vwCl (rW h cs gI gL gA gQ) H := hP
          have hD : va_D A0 (rW h cs gI gL gA gQ) := hD
          obtain rfl := hf_72
          refine lv_if_ne (tgt := 16) hx hb dX10_item_11 (by decide) (fun _ => ?_) (fun c9 => False.elim (by revert c9; decide +kernel))
          refine lv_aload_n hx hb dX10_item_16 rfl (lv_at hl 0 rfl) ?_
          refine va_get (D := (dC, dI)) (ci := 10) (v := .ref (h 25)) (C := RX10) (T := TX10) (N := 28) hx hb hts hinX10 hown hK hP 0 rfl rfl 25 (by decide) (hts (.fieldLink RX10 60 "MixedWordsModel" "lanes" "[I") (by decide +kernel)) (fun _ h9 => h9) rfl dX10_item_17 ?_
          refine lv_iload_n hx hb dX10_item_20 rfl (lv_at hl 1 rfl) ?_
          refine xa_iald hx hb hK hP 14 0 rfl rfl (by omega) (by decide) dX10_item_21 ?_
          refine xt_i (y := (-1 : Int32)) (by decide +kernel) ?_
          refine lv_if_ge (tgt := 28) hx hb dX10_item_22 (by decide) (fun c9 => False.elim (by revert c9; decide +kernel)) (fun _ => ?_)
          refine lv_bipush (v := (-11)) hx hb dX10_item_25 (by decide) ?_
          exact xr_i (v := (-11)) hx hb hr hlocks hK hS dX10_item_27 (gI, gL, gA, gQ) ⟨(by decide +kernel), rfl⟩ hP hD
      · skip
        refine lv_iload_n hx hb dX10_item_0 rfl (lv_at hl 1 rfl) ?_
        refine xj_i (wc := ([] : va_W)) (wr := (rW h cs gI gL gA gQ)) hP hD hS hA [] [0, 1, 2, 3, 4, 5, 6, 7, 8, 9, 10, 11, 12, 13, 14, 15, 16] rfl rfl (by decide) (by decide) (va_runS (As := [.int (nI 2)]) (rest := []) ⟨hx, hb, hml, hown, hts⟩ (a_X10_isSheet_248 l dC dI h cs H.size I L A Q ) (va_cwS 1 hts gX10_item_X10_isSheet rfl rfl rfl (by decide +kernel) ⟨Nat.le_of_ble_eq_true rfl, Nat.le_of_ble_eq_true rfl⟩) (xpS (wc := ([] : va_W)) hP hD hK hN [] rfl (by decide) _) rfl rfl hl.1 rfl (lv_room (Nat.le_of_ble_eq_true rfl)) dX10_item_1 ⟨Nat.zero_le _, Nat.zero_le _⟩) (fun r_74 u_73 H locs hw hP hD hS => ?_)
        obtain ⟨hf_75, rfl⟩ := hw
        have hP : va_P (dC, dI) vwCl (rW h cs gI gL gA gQ) H := hP
        have hD : va_D A0 (rW h cs gI gL gA gQ) := hD
        obtain rfl := hf_75
        refine lv_if_eq (tgt := 14) hx hb dX10_item_4 (by decide) (fun c9 => False.elim (by revert c9; decide +kernel)) (fun _ => ?_)
        refine lv_iload_n hx hb dX10_item_7 rfl (lv_at hl 2 rfl) ?_
        refine xj_i (wc := ([] : va_W)) (wr := (rW h cs gI gL gA gQ)) hP hD hS hA [] [0, 1, 2, 3, 4, 5, 6, 7, 8, 9, 10, 11, 12, 13, 14, 15, 16] rfl rfl (by decide) (by decide) (va_runS (As := [.int y]) (rest := []) ⟨hx, hb, hml, hown, hts⟩ (k_X10_isLane l dC dI h cs H.size I L A Q y) (va_cwS 1 hts gX10_item_X10_isLane rfl rfl rfl (by decide +kernel) ⟨Nat.le_of_ble_eq_true rfl, Nat.le_of_ble_eq_true rfl⟩) (xpS (wc := ([] : va_W)) hP hD hK hN [] rfl (by decide) _) rfl rfl hl.1 rfl (lv_room (Nat.le_of_ble_eq_true rfl)) dX10_item_8 ⟨Nat.zero_le _, Nat.zero_le _⟩) (fun r_77 u_76 H locs hw hP hD hS => ?_)
        obtain ⟨hf_78, rfl⟩ := hw
        have hP : va_P (dC, dI) vwCl (rW h cs gI gL gA gQ) H := hP
        have hD : va_D A0 (rW h cs gI gL gA gQ) := hD
        rcases hf_78 with ⟨rfl, i_79, hh_80, ee_81⟩ | ⟨rfl, -⟩
        · skip
          exact absurd (by rw [ee_81, nI_toInt (by omega)]; omega) hz_y
        · skip
          refine lv_if_ne (tgt := 16) hx hb dX10_item_11 (by decide) (fun c9 => False.elim (by revert c9; decide +kernel)) (fun _ => ?_)
          refine lv_iconst (v := (-1)) hx hb dX10_item_14 (by decide) ?_
          exact xr_i (v := (-1)) hx hb hr hlocks hK hS dX10_item_15 (gI, gL, gA, gQ) ⟨(by unfold an_item; rw [if_neg (by omega)]), rfl⟩ hP hD
    · skip
      rcases splR y 0 2 (by decide) with ⟨i_y, h_y, g_y, rfl⟩ | hz_y
      · skip
        rcases (show i_y = 0 ∨ i_y = 1 ∨ i_y = 2 by omega) with rfl | rfl | rfl
        · skip
          refine lv_iload_n hx hb dX10_item_0 rfl (lv_at hl 1 rfl) ?_
          refine xj_i (wc := ([] : va_W)) (wr := (rW h cs gI gL gA gQ)) hP hD hS hA [] [0, 1, 2, 3, 4, 5, 6, 7, 8, 9, 10, 11, 12, 13, 14, 15, 16] rfl rfl (by decide) (by decide) (va_runS (As := [.int (nI 3)]) (rest := []) ⟨hx, hb, hml, hown, hts⟩ (a_X10_isSheet_249 l dC dI h cs H.size I L A Q ) (va_cwS 1 hts gX10_item_X10_isSheet rfl rfl rfl (by decide +kernel) ⟨Nat.le_of_ble_eq_true rfl, Nat.le_of_ble_eq_true rfl⟩) (xpS (wc := ([] : va_W)) hP hD hK hN [] rfl (by decide) _) rfl rfl hl.1 rfl (lv_room (Nat.le_of_ble_eq_true rfl)) dX10_item_1 ⟨Nat.zero_le _, Nat.zero_le _⟩) (fun r_83 u_82 H locs hw hP hD hS => ?_)
          obtain ⟨hf_84, rfl⟩ := hw
          have hP : va_P (dC, dI) vwCl (rW h cs gI gL gA gQ) H := hP
          have hD : va_D A0 (rW h cs gI gL gA gQ) := hD
          obtain rfl := hf_84
          refine lv_if_eq (tgt := 14) hx hb dX10_item_4 (by decide) (fun c9 => False.elim (by revert c9; decide +kernel)) (fun _ => ?_)
          refine lv_iload_n hx hb dX10_item_7 rfl (lv_at hl 2 rfl) ?_
          refine xj_i (wc := ([] : va_W)) (wr := (rW h cs gI gL gA gQ)) hP hD hS hA [] [0, 1, 2, 3, 4, 5, 6, 7, 8, 9, 10, 11, 12, 13, 14, 15, 16] rfl rfl (by decide) (by decide) (va_runS (As := [.int (nI 0)]) (rest := []) ⟨hx, hb, hml, hown, hts⟩ (a_X10_isLane_250 l dC dI h cs H.size I L A Q ) (va_cwS 1 hts gX10_item_X10_isLane rfl rfl rfl (by decide +kernel) ⟨Nat.le_of_ble_eq_true rfl, Nat.le_of_ble_eq_true rfl⟩) (xpS (wc := ([] : va_W)) hP hD hK hN [] rfl (by decide) _) rfl rfl hl.1 rfl (lv_room (Nat.le_of_ble_eq_true rfl)) dX10_item_8 ⟨Nat.zero_le _, Nat.zero_le _⟩) (fun r_86 u_85 H locs hw hP hD hS => ?_)
          obtain ⟨hf_87, rfl⟩ := hw
          have hP : va_P (dC, dI) vwCl (rW h cs gI gL gA gQ) H := hP
          have hD : va_D A0 (rW h cs gI gL gA gQ) := hD
          obtain rfl := hf_87
          refine lv_if_ne (tgt := 16) hx hb dX10_item_11 (by decide) (fun _ => ?_) (fun c9 => False.elim (by revert c9; decide +kernel))
          refine lv_aload_n hx hb dX10_item_16 rfl (lv_at hl 0 rfl) ?_
          refine va_get (D := (dC, dI)) (ci := 10) (v := .ref (h 25)) (C := RX10) (T := TX10) (N := 28) hx hb hts hinX10 hown hK hP 0 rfl rfl 25 (by decide) (hts (.fieldLink RX10 60 "MixedWordsModel" "lanes" "[I") (by decide +kernel)) (fun _ h9 => h9) rfl dX10_item_17 ?_
          refine lv_iload_n hx hb dX10_item_20 rfl (lv_at hl 1 rfl) ?_
          refine xa_iald hx hb hK hP 14 0 rfl rfl (by omega) (by decide) dX10_item_21 ?_
          refine xt_i (y := (-1 : Int32)) (by decide +kernel) ?_
          refine lv_if_ge (tgt := 28) hx hb dX10_item_22 (by decide) (fun c9 => False.elim (by revert c9; decide +kernel)) (fun _ => ?_)
          refine lv_bipush (v := (-11)) hx hb dX10_item_25 (by decide) ?_
          exact xr_i (v := (-11)) hx hb hr hlocks hK hS dX10_item_27 (gI, gL, gA, gQ) ⟨(by decide +kernel), rfl⟩ hP hD
        · skip
          refine lv_iload_n hx hb dX10_item_0 rfl (lv_at hl 1 rfl) ?_
          refine xj_i (wc := ([] : va_W)) (wr := (rW h cs gI gL gA gQ)) hP hD hS hA [] [0, 1, 2, 3, 4, 5, 6, 7, 8, 9, 10, 11, 12, 13, 14, 15, 16] rfl rfl (by decide) (by decide) (va_runS (As := [.int (nI 3)]) (rest := []) ⟨hx, hb, hml, hown, hts⟩ (a_X10_isSheet_249 l dC dI h cs H.size I L A Q ) (va_cwS 1 hts gX10_item_X10_isSheet rfl rfl rfl (by decide +kernel) ⟨Nat.le_of_ble_eq_true rfl, Nat.le_of_ble_eq_true rfl⟩) (xpS (wc := ([] : va_W)) hP hD hK hN [] rfl (by decide) _) rfl rfl hl.1 rfl (lv_room (Nat.le_of_ble_eq_true rfl)) dX10_item_1 ⟨Nat.zero_le _, Nat.zero_le _⟩) (fun r_89 u_88 H locs hw hP hD hS => ?_)
          obtain ⟨hf_90, rfl⟩ := hw
          have hP : va_P (dC, dI) vwCl (rW h cs gI gL gA gQ) H := hP
          have hD : va_D A0 (rW h cs gI gL gA gQ) := hD
          obtain rfl := hf_90
          refine lv_if_eq (tgt := 14) hx hb dX10_item_4 (by decide) (fun c9 => False.elim (by revert c9; decide +kernel)) (fun _ => ?_)
          refine lv_iload_n hx hb dX10_item_7 rfl (lv_at hl 2 rfl) ?_
          refine xj_i (wc := ([] : va_W)) (wr := (rW h cs gI gL gA gQ)) hP hD hS hA [] [0, 1, 2, 3, 4, 5, 6, 7, 8, 9, 10, 11, 12, 13, 14, 15, 16] rfl rfl (by decide) (by decide) (va_runS (As := [.int (nI 1)]) (rest := []) ⟨hx, hb, hml, hown, hts⟩ (a_X10_isLane_252 l dC dI h cs H.size I L A Q ) (va_cwS 1 hts gX10_item_X10_isLane rfl rfl rfl (by decide +kernel) ⟨Nat.le_of_ble_eq_true rfl, Nat.le_of_ble_eq_true rfl⟩) (xpS (wc := ([] : va_W)) hP hD hK hN [] rfl (by decide) _) rfl rfl hl.1 rfl (lv_room (Nat.le_of_ble_eq_true rfl)) dX10_item_8 ⟨Nat.zero_le _, Nat.zero_le _⟩) (fun r_92 u_91 H locs hw hP hD hS => ?_)
          obtain ⟨hf_93, rfl⟩ := hw
          have hP : va_P (dC, dI) vwCl (rW h cs gI gL gA gQ) H := hP
          have hD : va_D A0 (rW h cs gI gL gA gQ) := hD
          obtain rfl := hf_93
          refine lv_if_ne (tgt := 16) hx hb dX10_item_11 (by decide) (fun _ => ?_) (fun c9 => False.elim (by revert c9; decide +kernel))
          refine lv_aload_n hx hb dX10_item_16 rfl (lv_at hl 0 rfl) ?_
          refine va_get (D := (dC, dI)) (ci := 10) (v := .ref (h 25)) (C := RX10) (T := TX10) (N := 28) hx hb hts hinX10 hown hK hP 0 rfl rfl 25 (by decide) (hts (.fieldLink RX10 60 "MixedWordsModel" "lanes" "[I") (by decide +kernel)) (fun _ h9 => h9) rfl dX10_item_17 ?_
          refine lv_iload_n hx hb dX10_item_20 rfl (lv_at hl 1 rfl) ?_
          refine xa_iald hx hb hK hP 14 0 rfl rfl (by omega) (by decide) dX10_item_21 ?_
          refine xt_i (y := (-1 : Int32)) (by decide +kernel) ?_
          refine lv_if_ge (tgt := 28) hx hb dX10_item_22 (by decide) (fun c9 => False.elim (by revert c9; decide +kernel)) (fun _ => ?_)
          refine lv_bipush (v := (-11)) hx hb dX10_item_25 (by decide) ?_
          exact xr_i (v := (-11)) hx hb hr hlocks hK hS dX10_item_27 (gI, gL, gA, gQ) ⟨(by decide +kernel), rfl⟩ hP hD
        · skip
          refine lv_iload_n hx hb dX10_item_0 rfl (lv_at hl 1 rfl) ?_
          refine xj_i (wc := ([] : va_W)) (wr := (rW h cs gI gL gA gQ)) hP hD hS hA [] [0, 1, 2, 3, 4, 5, 6, 7, 8, 9, 10, 11, 12, 13, 14, 15, 16] rfl rfl (by decide) (by decide) (va_runS (As := [.int (nI 3)]) (rest := []) ⟨hx, hb, hml, hown, hts⟩ (a_X10_isSheet_249 l dC dI h cs H.size I L A Q ) (va_cwS 1 hts gX10_item_X10_isSheet rfl rfl rfl (by decide +kernel) ⟨Nat.le_of_ble_eq_true rfl, Nat.le_of_ble_eq_true rfl⟩) (xpS (wc := ([] : va_W)) hP hD hK hN [] rfl (by decide) _) rfl rfl hl.1 rfl (lv_room (Nat.le_of_ble_eq_true rfl)) dX10_item_1 ⟨Nat.zero_le _, Nat.zero_le _⟩) (fun r_95 u_94 H locs hw hP hD hS => ?_)
          obtain ⟨hf_96, rfl⟩ := hw
          have hP : va_P (dC, dI) vwCl (rW h cs gI gL gA gQ) H := hP
          have hD : va_D A0 (rW h cs gI gL gA gQ) := hD
          obtain rfl := hf_96
          refine lv_if_eq (tgt := 14) hx hb dX10_item_4 (by decide) (fun c9 => False.elim (by revert c9; decide +kernel)) (fun _ => ?_)
          refine lv_iload_n hx hb dX10_item_7 rfl (lv_at hl 2 rfl) ?_
          refine xj_i (wc := ([] : va_W)) (wr := (rW h cs gI gL gA gQ)) hP hD hS hA [] [0, 1, 2, 3, 4, 5, 6, 7, 8, 9, 10, 11, 12, 13, 14, 15, 16] rfl rfl (by decide) (by decide) (va_runS (As := [.int (nI 2)]) (rest := []) ⟨hx, hb, hml, hown, hts⟩ (a_X10_isLane_254 l dC dI h cs H.size I L A Q ) (va_cwS 1 hts gX10_item_X10_isLane rfl rfl rfl (by decide +kernel) ⟨Nat.le_of_ble_eq_true rfl, Nat.le_of_ble_eq_true rfl⟩) (xpS (wc := ([] : va_W)) hP hD hK hN [] rfl (by decide) _) rfl rfl hl.1 rfl (lv_room (Nat.le_of_ble_eq_true rfl)) dX10_item_8 ⟨Nat.zero_le _, Nat.zero_le _⟩) (fun r_98 u_97 H locs hw hP hD hS => ?_)
          obtain ⟨hf_99, rfl⟩ := hw
          have hP : va_P (dC, dI) vwCl (rW h cs gI gL gA gQ) H := hP
          have hD : va_D A0 (rW h cs gI gL gA gQ) := hD
          obtain rfl := hf_99
          refine lv_if_ne (tgt := 16) hx hb dX10_item_11 (by decide) (fun _ => ?_) (fun c9 => False.elim (by revert c9; decide +kernel))
          refine lv_aload_n hx hb dX10_item_16 rfl (lv_at hl 0 rfl) ?_
          refine va_get (D := (dC, dI)) (ci := 10) (v := .ref (h 25)) (C := RX10) (T := TX10) (N := 28) hx hb hts hinX10 hown hK hP 0 rfl rfl 25 (by decide) (hts (.fieldLink RX10 60 "MixedWordsModel" "lanes" "[I") (by decide +kernel)) (fun _ h9 => h9) rfl dX10_item_17 ?_
          refine lv_iload_n hx hb dX10_item_20 rfl (lv_at hl 1 rfl) ?_
          refine xa_iald hx hb hK hP 14 0 rfl rfl (by omega) (by decide) dX10_item_21 ?_
          refine xt_i (y := (-1 : Int32)) (by decide +kernel) ?_
          refine lv_if_ge (tgt := 28) hx hb dX10_item_22 (by decide) (fun c9 => False.elim (by revert c9; decide +kernel)) (fun _ => ?_)
          refine lv_bipush (v := (-11)) hx hb dX10_item_25 (by decide) ?_
          exact xr_i (v := (-11)) hx hb hr hlocks hK hS dX10_item_27 (gI, gL, gA, gQ) ⟨(by decide +kernel), rfl⟩ hP hD
      · skip
        refine lv_iload_n hx hb dX10_item_0 rfl (lv_at hl 1 rfl) ?_
        refine xj_i (wc := ([] : va_W)) (wr := (rW h cs gI gL gA gQ)) hP hD hS hA [] [0, 1, 2, 3, 4, 5, 6, 7, 8, 9, 10, 11, 12, 13, 14, 15, 16] rfl rfl (by decide) (by decide) (va_runS (As := [.int (nI 3)]) (rest := []) ⟨hx, hb, hml, hown, hts⟩ (a_X10_isSheet_249 l dC dI h cs H.size I L A Q ) (va_cwS 1 hts gX10_item_X10_isSheet rfl rfl rfl (by decide +kernel) ⟨Nat.le_of_ble_eq_true rfl, Nat.le_of_ble_eq_true rfl⟩) (xpS (wc := ([] : va_W)) hP hD hK hN [] rfl (by decide) _) rfl rfl hl.1 rfl (lv_room (Nat.le_of_ble_eq_true rfl)) dX10_item_1 ⟨Nat.zero_le _, Nat.zero_le _⟩) (fun r_101 u_100 H locs hw hP hD hS => ?_)
        obtain ⟨hf_102, rfl⟩ := hw
        have hP : va_P (dC, dI) vwCl (rW h cs gI gL gA gQ) H := hP
        have hD : va_D A0 (rW h cs gI gL gA gQ) := hD
        obtain rfl := hf_102
        refine lv_if_eq (tgt := 14) hx hb dX10_item_4 (by decide) (fun c9 => False.elim (by revert c9; decide +kernel)) (fun _ => ?_)
        refine lv_iload_n hx hb dX10_item_7 rfl (lv_at hl 2 rfl) ?_
        refine xj_i (wc := ([] : va_W)) (wr := (rW h cs gI gL gA gQ)) hP hD hS hA [] [0, 1, 2, 3, 4, 5, 6, 7, 8, 9, 10, 11, 12, 13, 14, 15, 16] rfl rfl (by decide) (by decide) (va_runS (As := [.int y]) (rest := []) ⟨hx, hb, hml, hown, hts⟩ (k_X10_isLane l dC dI h cs H.size I L A Q y) (va_cwS 1 hts gX10_item_X10_isLane rfl rfl rfl (by decide +kernel) ⟨Nat.le_of_ble_eq_true rfl, Nat.le_of_ble_eq_true rfl⟩) (xpS (wc := ([] : va_W)) hP hD hK hN [] rfl (by decide) _) rfl rfl hl.1 rfl (lv_room (Nat.le_of_ble_eq_true rfl)) dX10_item_8 ⟨Nat.zero_le _, Nat.zero_le _⟩) (fun r_104 u_103 H locs hw hP hD hS => ?_)
        obtain ⟨hf_105, rfl⟩ := hw
        have hP : va_P (dC, dI) vwCl (rW h cs gI gL gA gQ) H := hP
        have hD : va_D A0 (rW h cs gI gL gA gQ) := hD
        rcases hf_105 with ⟨rfl, i_106, hh_107, ee_108⟩ | ⟨rfl, -⟩
        · skip
          exact absurd (by rw [ee_108, nI_toInt (by omega)]; omega) hz_y
        · skip
          refine lv_if_ne (tgt := 16) hx hb dX10_item_11 (by decide) (fun c9 => False.elim (by revert c9; decide +kernel)) (fun _ => ?_)
          refine lv_iconst (v := (-1)) hx hb dX10_item_14 (by decide) ?_
          exact xr_i (v := (-1)) hx hb hr hlocks hK hS dX10_item_15 (gI, gL, gA, gQ) ⟨(by unfold an_item; rw [if_neg (by omega)]), rfl⟩ hP hD
  · skip
    refine lv_iload_n hx hb dX10_item_0 rfl (lv_at hl 1 rfl) ?_
    refine xj_i (wc := ([] : va_W)) (wr := (rW h cs gI gL gA gQ)) hP hD hS hA [] [0, 1, 2, 3, 4, 5, 6, 7, 8, 9, 10, 11, 12, 13, 14, 15, 16] rfl rfl (by decide) (by decide) (va_runS (As := [.int x]) (rest := []) ⟨hx, hb, hml, hown, hts⟩ (k_X10_isSheet l dC dI h cs H.size I L A Q x) (va_cwS 1 hts gX10_item_X10_isSheet rfl rfl rfl (by decide +kernel) ⟨Nat.le_of_ble_eq_true rfl, Nat.le_of_ble_eq_true rfl⟩) (xpS (wc := ([] : va_W)) hP hD hK hN [] rfl (by decide) _) rfl rfl hl.1 rfl (lv_room (Nat.le_of_ble_eq_true rfl)) dX10_item_1 ⟨Nat.zero_le _, Nat.zero_le _⟩) (fun r_110 u_109 H locs hw hP hD hS => ?_)
    obtain ⟨hf_111, rfl⟩ := hw
    have hP : va_P (dC, dI) vwCl (rW h cs gI gL gA gQ) H := hP
    have hD : va_D A0 (rW h cs gI gL gA gQ) := hD
    rcases hf_111 with ⟨rfl, i_112, hh_113, ee_114⟩ | ⟨rfl, -⟩
    · skip
      exact absurd (by rw [ee_114, nI_toInt (by omega)]; omega) hz_x
    · skip
      refine lv_if_eq (tgt := 14) hx hb dX10_item_4 (by decide) (fun _ => ?_) (fun c9 => False.elim (by revert c9; decide +kernel))
      refine lv_iconst (v := (-1)) hx hb dX10_item_14 (by decide) ?_
      exact xr_i (v := (-1)) hx hb hr hlocks hK hS dX10_item_15 (gI, gL, gA, gQ) ⟨(by unfold an_item; rw [if_neg (by omega)]), rfl⟩ hP hD
set_option maxHeartbeats 4000000 in
set_option maxRecDepth 100000 in
theorem f_X10_rows (l : Launch) (dC : Nat → ClassId) (dI : Nat → Nat → Nat) (h : Nat → Nat) (cs : Nat → ClassId) (sz : Nat) (I : Nat → Int32) (L : Nat → Int64) (A : Nat → Nat → Int32) (Q : Nat → Nat → Int64) (x y z : Int32) : Met l yX10_rows wsX10_rows ({ frames := 2, cells := 0, slots := 0, locals := 45 }) (va_Pc [.ref (h 0), .int x, .int y, .int z] (xPre (dC, dI) (rW h cs gI gL gA gQ) (tysA cs) sz)) (va_Qi (fun (r : Int32) (u : RS) => (r = an_item x y) ∧ u = (gI, gL, gA, gQ)) (xB (dC, dI) (tysA cs) (va_A (rW h cs gI gL gA gQ) sz) (fun u : RS => rW h cs u.1 u.2.1 u.2.2.1 u.2.2.2)) (va_A (rW h cs gI gL gA gQ) sz)) 0 0 (va_A (rW h cs gI gL gA gQ) sz) := by
  refine Met.ofW (cc := cX10_rows) (maxL := 8) (ret := (some .int)) (by decide) rfl ?_
  intro p e s m args below meth c s₁ B hml hv
  obtain ⟨rfl, hsz, hP, hK, hD0, hN⟩ := hv
  have hx := B.exec
  have hb := B.bytes
  have hr := B.returns
  have hts := atoms_spec (ws := wsX10_rows) B.pre
  have hown : s.vm.findClass RX10 = some m.cls := findClass_of_methodNamed B.named
  have hlocks := B.notSynchronized
  subst hsz
  have hD := hD0.self (sz := s.heap.size)
  generalize hAe : va_A (rW h cs gI gL gA gQ) s.heap.size = A0 at hD ⊢
  have hA : ∀ q : Nat, s.heap.size ≤ q → A0 q := fun q h => by rw [← hAe]; exact Or.inr h
  have hl := lv_entry ([.ref (h 0), .int x, .int y, .int z]) (n := 8) (Nat.le_of_ble_eq_true rfl)
  rw [lg_entry_eq]
  generalize (lg_sl ([.ref (h 0), .int x, .int y, .int z]) ++ List.replicate (8 - (lg_sl ([.ref (h 0), .int x, .int y, .int z])).length) Slot.unset).toArray = ls at hl ⊢
  have hl : lv_has ls 8 [(0, .ref (h 0)), (1, .int x), (2, .int y), (3, .int z)] := hl
  generalize hH : s.heap = H at hP ⊢
  have hS : va_S A0 s.heap H [] := by rw [← hH]; exact va_S.rf
  have hinX10 : ∀ w ∈ wsX100, w ∈ wsX10_rows := by decide +kernel
  rcases splR x 0 3 (by decide) with ⟨i_x, h_x, g_x, rfl⟩ | hz_x
  · skip
    rcases (show i_x = 0 ∨ i_x = 1 ∨ i_x = 2 ∨ i_x = 3 by omega) with rfl | rfl | rfl | rfl
    · skip
      rcases splR y 0 2 (by decide) with ⟨i_y, h_y, g_y, rfl⟩ | hz_y
      · skip
        rcases (show i_y = 0 ∨ i_y = 1 ∨ i_y = 2 by omega) with rfl | rfl | rfl
        · skip
          refine lv_iload_n hx hb dX10_rows_0 rfl (lv_at hl 1 rfl) ?_
          refine xj_i (wc := ([] : va_W)) (wr := (rW h cs gI gL gA gQ)) hP hD hS hA [] [0, 1, 2, 3, 4, 5, 6, 7, 8, 9, 10, 11, 12, 13, 14, 15, 16] rfl rfl (by decide) (by decide) (va_runS (As := [.int (nI 0)]) (rest := []) ⟨hx, hb, hml, hown, hts⟩ (a_X10_isSheet_246 l dC dI h cs H.size I L A Q ) (va_cwS 1 hts gX10_rows_X10_isSheet rfl rfl rfl (by decide +kernel) ⟨Nat.le_of_ble_eq_true rfl, Nat.le_of_ble_eq_true rfl⟩) (xpS (wc := ([] : va_W)) hP hD hK hN [] rfl (by decide) _) rfl rfl hl.1 rfl (lv_room (Nat.le_of_ble_eq_true rfl)) dX10_rows_1 ⟨Nat.zero_le _, Nat.zero_le _⟩) (fun r_2 u_1 H locs hw hP hD hS => ?_)
          obtain ⟨hf_3, rfl⟩ := hw
          have hP : va_P (dC, dI) vwCl (rW h cs gI gL gA gQ) H := hP
          have hD : va_D A0 (rW h cs gI gL gA gQ) := hD
          obtain rfl := hf_3
          refine lv_if_eq (tgt := 14) hx hb dX10_rows_4 (by decide) (fun c9 => False.elim (by revert c9; decide +kernel)) (fun _ => ?_)
          refine lv_iload_n hx hb dX10_rows_7 rfl (lv_at hl 2 rfl) ?_
          refine xj_i (wc := ([] : va_W)) (wr := (rW h cs gI gL gA gQ)) hP hD hS hA [] [0, 1, 2, 3, 4, 5, 6, 7, 8, 9, 10, 11, 12, 13, 14, 15, 16] rfl rfl (by decide) (by decide) (va_runS (As := [.int (nI 0)]) (rest := []) ⟨hx, hb, hml, hown, hts⟩ (a_X10_isLane_250 l dC dI h cs H.size I L A Q ) (va_cwS 1 hts gX10_rows_X10_isLane rfl rfl rfl (by decide +kernel) ⟨Nat.le_of_ble_eq_true rfl, Nat.le_of_ble_eq_true rfl⟩) (xpS (wc := ([] : va_W)) hP hD hK hN [] rfl (by decide) _) rfl rfl hl.1 rfl (lv_room (Nat.le_of_ble_eq_true rfl)) dX10_rows_8 ⟨Nat.zero_le _, Nat.zero_le _⟩) (fun r_5 u_4 H locs hw hP hD hS => ?_)
          obtain ⟨hf_6, rfl⟩ := hw
          have hP : va_P (dC, dI) vwCl (rW h cs gI gL gA gQ) H := hP
          have hD : va_D A0 (rW h cs gI gL gA gQ) := hD
          obtain rfl := hf_6
          refine lv_if_ne (tgt := 16) hx hb dX10_rows_11 (by decide) (fun _ => ?_) (fun c9 => False.elim (by revert c9; decide +kernel))
          refine lv_aload_n hx hb dX10_rows_16 rfl (lv_at hl 0 rfl) ?_
          refine va_get (D := (dC, dI)) (ci := 10) (v := .ref (h 25)) (C := RX10) (T := TX10) (N := 28) hx hb hts hinX10 hown hK hP 0 rfl rfl 25 (by decide) (hts (.fieldLink RX10 60 "MixedWordsModel" "lanes" "[I") (by decide +kernel)) (fun _ h9 => h9) rfl dX10_rows_17 ?_
          refine lv_iload_n hx hb dX10_rows_20 rfl (lv_at hl 1 rfl) ?_
          refine xa_iald hx hb hK hP 14 0 rfl rfl (by omega) (by decide) dX10_rows_21 ?_
          refine xt_i (y := (-1 : Int32)) (by decide +kernel) ?_
          refine lv_if_ge (tgt := 28) hx hb dX10_rows_22 (by decide) (fun c9 => False.elim (by revert c9; decide +kernel)) (fun _ => ?_)
          refine lv_bipush (v := (-11)) hx hb dX10_rows_25 (by decide) ?_
          exact xr_i (v := (-11)) hx hb hr hlocks hK hS dX10_rows_27 (gI, gL, gA, gQ) ⟨(by decide +kernel), rfl⟩ hP hD
        · skip
          refine lv_iload_n hx hb dX10_rows_0 rfl (lv_at hl 1 rfl) ?_
          refine xj_i (wc := ([] : va_W)) (wr := (rW h cs gI gL gA gQ)) hP hD hS hA [] [0, 1, 2, 3, 4, 5, 6, 7, 8, 9, 10, 11, 12, 13, 14, 15, 16] rfl rfl (by decide) (by decide) (va_runS (As := [.int (nI 0)]) (rest := []) ⟨hx, hb, hml, hown, hts⟩ (a_X10_isSheet_246 l dC dI h cs H.size I L A Q ) (va_cwS 1 hts gX10_rows_X10_isSheet rfl rfl rfl (by decide +kernel) ⟨Nat.le_of_ble_eq_true rfl, Nat.le_of_ble_eq_true rfl⟩) (xpS (wc := ([] : va_W)) hP hD hK hN [] rfl (by decide) _) rfl rfl hl.1 rfl (lv_room (Nat.le_of_ble_eq_true rfl)) dX10_rows_1 ⟨Nat.zero_le _, Nat.zero_le _⟩) (fun r_8 u_7 H locs hw hP hD hS => ?_)
          obtain ⟨hf_9, rfl⟩ := hw
          have hP : va_P (dC, dI) vwCl (rW h cs gI gL gA gQ) H := hP
          have hD : va_D A0 (rW h cs gI gL gA gQ) := hD
          obtain rfl := hf_9
          refine lv_if_eq (tgt := 14) hx hb dX10_rows_4 (by decide) (fun c9 => False.elim (by revert c9; decide +kernel)) (fun _ => ?_)
          refine lv_iload_n hx hb dX10_rows_7 rfl (lv_at hl 2 rfl) ?_
          refine xj_i (wc := ([] : va_W)) (wr := (rW h cs gI gL gA gQ)) hP hD hS hA [] [0, 1, 2, 3, 4, 5, 6, 7, 8, 9, 10, 11, 12, 13, 14, 15, 16] rfl rfl (by decide) (by decide) (va_runS (As := [.int (nI 1)]) (rest := []) ⟨hx, hb, hml, hown, hts⟩ (a_X10_isLane_252 l dC dI h cs H.size I L A Q ) (va_cwS 1 hts gX10_rows_X10_isLane rfl rfl rfl (by decide +kernel) ⟨Nat.le_of_ble_eq_true rfl, Nat.le_of_ble_eq_true rfl⟩) (xpS (wc := ([] : va_W)) hP hD hK hN [] rfl (by decide) _) rfl rfl hl.1 rfl (lv_room (Nat.le_of_ble_eq_true rfl)) dX10_rows_8 ⟨Nat.zero_le _, Nat.zero_le _⟩) (fun r_11 u_10 H locs hw hP hD hS => ?_)
          obtain ⟨hf_12, rfl⟩ := hw
          have hP : va_P (dC, dI) vwCl (rW h cs gI gL gA gQ) H := hP
          have hD : va_D A0 (rW h cs gI gL gA gQ) := hD
          obtain rfl := hf_12
          refine lv_if_ne (tgt := 16) hx hb dX10_rows_11 (by decide) (fun _ => ?_) (fun c9 => False.elim (by revert c9; decide +kernel))
          refine lv_aload_n hx hb dX10_rows_16 rfl (lv_at hl 0 rfl) ?_
          refine va_get (D := (dC, dI)) (ci := 10) (v := .ref (h 25)) (C := RX10) (T := TX10) (N := 28) hx hb hts hinX10 hown hK hP 0 rfl rfl 25 (by decide) (hts (.fieldLink RX10 60 "MixedWordsModel" "lanes" "[I") (by decide +kernel)) (fun _ h9 => h9) rfl dX10_rows_17 ?_
          refine lv_iload_n hx hb dX10_rows_20 rfl (lv_at hl 1 rfl) ?_
          refine xa_iald hx hb hK hP 14 0 rfl rfl (by omega) (by decide) dX10_rows_21 ?_
          refine xt_i (y := (-1 : Int32)) (by decide +kernel) ?_
          refine lv_if_ge (tgt := 28) hx hb dX10_rows_22 (by decide) (fun c9 => False.elim (by revert c9; decide +kernel)) (fun _ => ?_)
          refine lv_bipush (v := (-11)) hx hb dX10_rows_25 (by decide) ?_
          exact xr_i (v := (-11)) hx hb hr hlocks hK hS dX10_rows_27 (gI, gL, gA, gQ) ⟨(by decide +kernel), rfl⟩ hP hD
        · skip
          refine lv_iload_n hx hb dX10_rows_0 rfl (lv_at hl 1 rfl) ?_
          refine xj_i (wc := ([] : va_W)) (wr := (rW h cs gI gL gA gQ)) hP hD hS hA [] [0, 1, 2, 3, 4, 5, 6, 7, 8, 9, 10, 11, 12, 13, 14, 15, 16] rfl rfl (by decide) (by decide) (va_runS (As := [.int (nI 0)]) (rest := []) ⟨hx, hb, hml, hown, hts⟩ (a_X10_isSheet_246 l dC dI h cs H.size I L A Q ) (va_cwS 1 hts gX10_rows_X10_isSheet rfl rfl rfl (by decide +kernel) ⟨Nat.le_of_ble_eq_true rfl, Nat.le_of_ble_eq_true rfl⟩) (xpS (wc := ([] : va_W)) hP hD hK hN [] rfl (by decide) _) rfl rfl hl.1 rfl (lv_room (Nat.le_of_ble_eq_true rfl)) dX10_rows_1 ⟨Nat.zero_le _, Nat.zero_le _⟩) (fun r_14 u_13 H locs hw hP hD hS => ?_)
          obtain ⟨hf_15, rfl⟩ := hw
          have hP : va_P (dC, dI) vwCl (rW h cs gI gL gA gQ) H := hP
          have hD : va_D A0 (rW h cs gI gL gA gQ) := hD
          obtain rfl := hf_15
          refine lv_if_eq (tgt := 14) hx hb dX10_rows_4 (by decide) (fun c9 => False.elim (by revert c9; decide +kernel)) (fun _ => ?_)
          refine lv_iload_n hx hb dX10_rows_7 rfl (lv_at hl 2 rfl) ?_
          refine xj_i (wc := ([] : va_W)) (wr := (rW h cs gI gL gA gQ)) hP hD hS hA [] [0, 1, 2, 3, 4, 5, 6, 7, 8, 9, 10, 11, 12, 13, 14, 15, 16] rfl rfl (by decide) (by decide) (va_runS (As := [.int (nI 2)]) (rest := []) ⟨hx, hb, hml, hown, hts⟩ (a_X10_isLane_254 l dC dI h cs H.size I L A Q ) (va_cwS 1 hts gX10_rows_X10_isLane rfl rfl rfl (by decide +kernel) ⟨Nat.le_of_ble_eq_true rfl, Nat.le_of_ble_eq_true rfl⟩) (xpS (wc := ([] : va_W)) hP hD hK hN [] rfl (by decide) _) rfl rfl hl.1 rfl (lv_room (Nat.le_of_ble_eq_true rfl)) dX10_rows_8 ⟨Nat.zero_le _, Nat.zero_le _⟩) (fun r_17 u_16 H locs hw hP hD hS => ?_)
          obtain ⟨hf_18, rfl⟩ := hw
          have hP : va_P (dC, dI) vwCl (rW h cs gI gL gA gQ) H := hP
          have hD : va_D A0 (rW h cs gI gL gA gQ) := hD
          obtain rfl := hf_18
          refine lv_if_ne (tgt := 16) hx hb dX10_rows_11 (by decide) (fun _ => ?_) (fun c9 => False.elim (by revert c9; decide +kernel))
          refine lv_aload_n hx hb dX10_rows_16 rfl (lv_at hl 0 rfl) ?_
          refine va_get (D := (dC, dI)) (ci := 10) (v := .ref (h 25)) (C := RX10) (T := TX10) (N := 28) hx hb hts hinX10 hown hK hP 0 rfl rfl 25 (by decide) (hts (.fieldLink RX10 60 "MixedWordsModel" "lanes" "[I") (by decide +kernel)) (fun _ h9 => h9) rfl dX10_rows_17 ?_
          refine lv_iload_n hx hb dX10_rows_20 rfl (lv_at hl 1 rfl) ?_
          refine xa_iald hx hb hK hP 14 0 rfl rfl (by omega) (by decide) dX10_rows_21 ?_
          refine xt_i (y := (-1 : Int32)) (by decide +kernel) ?_
          refine lv_if_ge (tgt := 28) hx hb dX10_rows_22 (by decide) (fun c9 => False.elim (by revert c9; decide +kernel)) (fun _ => ?_)
          refine lv_bipush (v := (-11)) hx hb dX10_rows_25 (by decide) ?_
          exact xr_i (v := (-11)) hx hb hr hlocks hK hS dX10_rows_27 (gI, gL, gA, gQ) ⟨(by decide +kernel), rfl⟩ hP hD
      · skip
        refine lv_iload_n hx hb dX10_rows_0 rfl (lv_at hl 1 rfl) ?_
        refine xj_i (wc := ([] : va_W)) (wr := (rW h cs gI gL gA gQ)) hP hD hS hA [] [0, 1, 2, 3, 4, 5, 6, 7, 8, 9, 10, 11, 12, 13, 14, 15, 16] rfl rfl (by decide) (by decide) (va_runS (As := [.int (nI 0)]) (rest := []) ⟨hx, hb, hml, hown, hts⟩ (a_X10_isSheet_246 l dC dI h cs H.size I L A Q ) (va_cwS 1 hts gX10_rows_X10_isSheet rfl rfl rfl (by decide +kernel) ⟨Nat.le_of_ble_eq_true rfl, Nat.le_of_ble_eq_true rfl⟩) (xpS (wc := ([] : va_W)) hP hD hK hN [] rfl (by decide) _) rfl rfl hl.1 rfl (lv_room (Nat.le_of_ble_eq_true rfl)) dX10_rows_1 ⟨Nat.zero_le _, Nat.zero_le _⟩) (fun r_20 u_19 H locs hw hP hD hS => ?_)
        obtain ⟨hf_21, rfl⟩ := hw
        have hP : va_P (dC, dI) vwCl (rW h cs gI gL gA gQ) H := hP
        have hD : va_D A0 (rW h cs gI gL gA gQ) := hD
        obtain rfl := hf_21
        refine lv_if_eq (tgt := 14) hx hb dX10_rows_4 (by decide) (fun c9 => False.elim (by revert c9; decide +kernel)) (fun _ => ?_)
        refine lv_iload_n hx hb dX10_rows_7 rfl (lv_at hl 2 rfl) ?_
        refine xj_i (wc := ([] : va_W)) (wr := (rW h cs gI gL gA gQ)) hP hD hS hA [] [0, 1, 2, 3, 4, 5, 6, 7, 8, 9, 10, 11, 12, 13, 14, 15, 16] rfl rfl (by decide) (by decide) (va_runS (As := [.int y]) (rest := []) ⟨hx, hb, hml, hown, hts⟩ (k_X10_isLane l dC dI h cs H.size I L A Q y) (va_cwS 1 hts gX10_rows_X10_isLane rfl rfl rfl (by decide +kernel) ⟨Nat.le_of_ble_eq_true rfl, Nat.le_of_ble_eq_true rfl⟩) (xpS (wc := ([] : va_W)) hP hD hK hN [] rfl (by decide) _) rfl rfl hl.1 rfl (lv_room (Nat.le_of_ble_eq_true rfl)) dX10_rows_8 ⟨Nat.zero_le _, Nat.zero_le _⟩) (fun r_23 u_22 H locs hw hP hD hS => ?_)
        obtain ⟨hf_24, rfl⟩ := hw
        have hP : va_P (dC, dI) vwCl (rW h cs gI gL gA gQ) H := hP
        have hD : va_D A0 (rW h cs gI gL gA gQ) := hD
        rcases hf_24 with ⟨rfl, i_25, hh_26, ee_27⟩ | ⟨rfl, -⟩
        · skip
          exact absurd (by rw [ee_27, nI_toInt (by omega)]; omega) hz_y
        · skip
          refine lv_if_ne (tgt := 16) hx hb dX10_rows_11 (by decide) (fun c9 => False.elim (by revert c9; decide +kernel)) (fun _ => ?_)
          refine lv_iconst (v := (-1)) hx hb dX10_rows_14 (by decide) ?_
          exact xr_i (v := (-1)) hx hb hr hlocks hK hS dX10_rows_15 (gI, gL, gA, gQ) ⟨(by unfold an_item; rw [if_neg (by omega)]), rfl⟩ hP hD
    · skip
      rcases splR y 0 2 (by decide) with ⟨i_y, h_y, g_y, rfl⟩ | hz_y
      · skip
        rcases (show i_y = 0 ∨ i_y = 1 ∨ i_y = 2 by omega) with rfl | rfl | rfl
        · skip
          refine lv_iload_n hx hb dX10_rows_0 rfl (lv_at hl 1 rfl) ?_
          refine xj_i (wc := ([] : va_W)) (wr := (rW h cs gI gL gA gQ)) hP hD hS hA [] [0, 1, 2, 3, 4, 5, 6, 7, 8, 9, 10, 11, 12, 13, 14, 15, 16] rfl rfl (by decide) (by decide) (va_runS (As := [.int (nI 1)]) (rest := []) ⟨hx, hb, hml, hown, hts⟩ (a_X10_isSheet_247 l dC dI h cs H.size I L A Q ) (va_cwS 1 hts gX10_rows_X10_isSheet rfl rfl rfl (by decide +kernel) ⟨Nat.le_of_ble_eq_true rfl, Nat.le_of_ble_eq_true rfl⟩) (xpS (wc := ([] : va_W)) hP hD hK hN [] rfl (by decide) _) rfl rfl hl.1 rfl (lv_room (Nat.le_of_ble_eq_true rfl)) dX10_rows_1 ⟨Nat.zero_le _, Nat.zero_le _⟩) (fun r_29 u_28 H locs hw hP hD hS => ?_)
          obtain ⟨hf_30, rfl⟩ := hw
          have hP : va_P (dC, dI) vwCl (rW h cs gI gL gA gQ) H := hP
          have hD : va_D A0 (rW h cs gI gL gA gQ) := hD
          obtain rfl := hf_30
          refine lv_if_eq (tgt := 14) hx hb dX10_rows_4 (by decide) (fun c9 => False.elim (by revert c9; decide +kernel)) (fun _ => ?_)
          refine lv_iload_n hx hb dX10_rows_7 rfl (lv_at hl 2 rfl) ?_
          refine xj_i (wc := ([] : va_W)) (wr := (rW h cs gI gL gA gQ)) hP hD hS hA [] [0, 1, 2, 3, 4, 5, 6, 7, 8, 9, 10, 11, 12, 13, 14, 15, 16] rfl rfl (by decide) (by decide) (va_runS (As := [.int (nI 0)]) (rest := []) ⟨hx, hb, hml, hown, hts⟩ (a_X10_isLane_250 l dC dI h cs H.size I L A Q ) (va_cwS 1 hts gX10_rows_X10_isLane rfl rfl rfl (by decide +kernel) ⟨Nat.le_of_ble_eq_true rfl, Nat.le_of_ble_eq_true rfl⟩) (xpS (wc := ([] : va_W)) hP hD hK hN [] rfl (by decide) _) rfl rfl hl.1 rfl (lv_room (Nat.le_of_ble_eq_true rfl)) dX10_rows_8 ⟨Nat.zero_le _, Nat.zero_le _⟩) (fun r_32 u_31 H locs hw hP hD hS => ?_)
          obtain ⟨hf_33, rfl⟩ := hw
          have hP : va_P (dC, dI) vwCl (rW h cs gI gL gA gQ) H := hP
          have hD : va_D A0 (rW h cs gI gL gA gQ) := hD
          obtain rfl := hf_33
          refine lv_if_ne (tgt := 16) hx hb dX10_rows_11 (by decide) (fun _ => ?_) (fun c9 => False.elim (by revert c9; decide +kernel))
          refine lv_aload_n hx hb dX10_rows_16 rfl (lv_at hl 0 rfl) ?_
          refine va_get (D := (dC, dI)) (ci := 10) (v := .ref (h 25)) (C := RX10) (T := TX10) (N := 28) hx hb hts hinX10 hown hK hP 0 rfl rfl 25 (by decide) (hts (.fieldLink RX10 60 "MixedWordsModel" "lanes" "[I") (by decide +kernel)) (fun _ h9 => h9) rfl dX10_rows_17 ?_
          refine lv_iload_n hx hb dX10_rows_20 rfl (lv_at hl 1 rfl) ?_
          refine xa_iald hx hb hK hP 14 0 rfl rfl (by omega) (by decide) dX10_rows_21 ?_
          refine xt_i (y := (-1 : Int32)) (by decide +kernel) ?_
          refine lv_if_ge (tgt := 28) hx hb dX10_rows_22 (by decide) (fun c9 => False.elim (by revert c9; decide +kernel)) (fun _ => ?_)
          refine lv_bipush (v := (-11)) hx hb dX10_rows_25 (by decide) ?_
          exact xr_i (v := (-11)) hx hb hr hlocks hK hS dX10_rows_27 (gI, gL, gA, gQ) ⟨(by decide +kernel), rfl⟩ hP hD
        · skip
          refine lv_iload_n hx hb dX10_rows_0 rfl (lv_at hl 1 rfl) ?_
          refine xj_i (wc := ([] : va_W)) (wr := (rW h cs gI gL gA gQ)) hP hD hS hA [] [0, 1, 2, 3, 4, 5, 6, 7, 8, 9, 10, 11, 12, 13, 14, 15, 16] rfl rfl (by decide) (by decide) (va_runS (As := [.int (nI 1)]) (rest := []) ⟨hx, hb, hml, hown, hts⟩ (a_X10_isSheet_247 l dC dI h cs H.size I L A Q ) (va_cwS 1 hts gX10_rows_X10_isSheet rfl rfl rfl (by decide +kernel) ⟨Nat.le_of_ble_eq_true rfl, Nat.le_of_ble_eq_true rfl⟩) (xpS (wc := ([] : va_W)) hP hD hK hN [] rfl (by decide) _) rfl rfl hl.1 rfl (lv_room (Nat.le_of_ble_eq_true rfl)) dX10_rows_1 ⟨Nat.zero_le _, Nat.zero_le _⟩) (fun r_35 u_34 H locs hw hP hD hS => ?_)
          obtain ⟨hf_36, rfl⟩ := hw
          have hP : va_P (dC, dI) vwCl (rW h cs gI gL gA gQ) H := hP
          have hD : va_D A0 (rW h cs gI gL gA gQ) := hD
          obtain rfl := hf_36
          refine lv_if_eq (tgt := 14) hx hb dX10_rows_4 (by decide) (fun c9 => False.elim (by revert c9; decide +kernel)) (fun _ => ?_)
          refine lv_iload_n hx hb dX10_rows_7 rfl (lv_at hl 2 rfl) ?_
          refine xj_i (wc := ([] : va_W)) (wr := (rW h cs gI gL gA gQ)) hP hD hS hA [] [0, 1, 2, 3, 4, 5, 6, 7, 8, 9, 10, 11, 12, 13, 14, 15, 16] rfl rfl (by decide) (by decide) (va_runS (As := [.int (nI 1)]) (rest := []) ⟨hx, hb, hml, hown, hts⟩ (a_X10_isLane_252 l dC dI h cs H.size I L A Q ) (va_cwS 1 hts gX10_rows_X10_isLane rfl rfl rfl (by decide +kernel) ⟨Nat.le_of_ble_eq_true rfl, Nat.le_of_ble_eq_true rfl⟩) (xpS (wc := ([] : va_W)) hP hD hK hN [] rfl (by decide) _) rfl rfl hl.1 rfl (lv_room (Nat.le_of_ble_eq_true rfl)) dX10_rows_8 ⟨Nat.zero_le _, Nat.zero_le _⟩) (fun r_38 u_37 H locs hw hP hD hS => ?_)
          obtain ⟨hf_39, rfl⟩ := hw
          have hP : va_P (dC, dI) vwCl (rW h cs gI gL gA gQ) H := hP
          have hD : va_D A0 (rW h cs gI gL gA gQ) := hD
          obtain rfl := hf_39
          refine lv_if_ne (tgt := 16) hx hb dX10_rows_11 (by decide) (fun _ => ?_) (fun c9 => False.elim (by revert c9; decide +kernel))
          refine lv_aload_n hx hb dX10_rows_16 rfl (lv_at hl 0 rfl) ?_
          refine va_get (D := (dC, dI)) (ci := 10) (v := .ref (h 25)) (C := RX10) (T := TX10) (N := 28) hx hb hts hinX10 hown hK hP 0 rfl rfl 25 (by decide) (hts (.fieldLink RX10 60 "MixedWordsModel" "lanes" "[I") (by decide +kernel)) (fun _ h9 => h9) rfl dX10_rows_17 ?_
          refine lv_iload_n hx hb dX10_rows_20 rfl (lv_at hl 1 rfl) ?_
          refine xa_iald hx hb hK hP 14 0 rfl rfl (by omega) (by decide) dX10_rows_21 ?_
          refine xt_i (y := (-1 : Int32)) (by decide +kernel) ?_
          refine lv_if_ge (tgt := 28) hx hb dX10_rows_22 (by decide) (fun c9 => False.elim (by revert c9; decide +kernel)) (fun _ => ?_)
          refine lv_bipush (v := (-11)) hx hb dX10_rows_25 (by decide) ?_
          exact xr_i (v := (-11)) hx hb hr hlocks hK hS dX10_rows_27 (gI, gL, gA, gQ) ⟨(by decide +kernel), rfl⟩ hP hD
        · skip
          refine lv_iload_n hx hb dX10_rows_0 rfl (lv_at hl 1 rfl) ?_
          refine xj_i (wc := ([] : va_W)) (wr := (rW h cs gI gL gA gQ)) hP hD hS hA [] [0, 1, 2, 3, 4, 5, 6, 7, 8, 9, 10, 11, 12, 13, 14, 15, 16] rfl rfl (by decide) (by decide) (va_runS (As := [.int (nI 1)]) (rest := []) ⟨hx, hb, hml, hown, hts⟩ (a_X10_isSheet_247 l dC dI h cs H.size I L A Q ) (va_cwS 1 hts gX10_rows_X10_isSheet rfl rfl rfl (by decide +kernel) ⟨Nat.le_of_ble_eq_true rfl, Nat.le_of_ble_eq_true rfl⟩) (xpS (wc := ([] : va_W)) hP hD hK hN [] rfl (by decide) _) rfl rfl hl.1 rfl (lv_room (Nat.le_of_ble_eq_true rfl)) dX10_rows_1 ⟨Nat.zero_le _, Nat.zero_le _⟩) (fun r_41 u_40 H locs hw hP hD hS => ?_)
          obtain ⟨hf_42, rfl⟩ := hw
          have hP : va_P (dC, dI) vwCl (rW h cs gI gL gA gQ) H := hP
          have hD : va_D A0 (rW h cs gI gL gA gQ) := hD
          obtain rfl := hf_42
          refine lv_if_eq (tgt := 14) hx hb dX10_rows_4 (by decide) (fun c9 => False.elim (by revert c9; decide +kernel)) (fun _ => ?_)
          refine lv_iload_n hx hb dX10_rows_7 rfl (lv_at hl 2 rfl) ?_
          refine xj_i (wc := ([] : va_W)) (wr := (rW h cs gI gL gA gQ)) hP hD hS hA [] [0, 1, 2, 3, 4, 5, 6, 7, 8, 9, 10, 11, 12, 13, 14, 15, 16] rfl rfl (by decide) (by decide) (va_runS (As := [.int (nI 2)]) (rest := []) ⟨hx, hb, hml, hown, hts⟩ (a_X10_isLane_254 l dC dI h cs H.size I L A Q ) (va_cwS 1 hts gX10_rows_X10_isLane rfl rfl rfl (by decide +kernel) ⟨Nat.le_of_ble_eq_true rfl, Nat.le_of_ble_eq_true rfl⟩) (xpS (wc := ([] : va_W)) hP hD hK hN [] rfl (by decide) _) rfl rfl hl.1 rfl (lv_room (Nat.le_of_ble_eq_true rfl)) dX10_rows_8 ⟨Nat.zero_le _, Nat.zero_le _⟩) (fun r_44 u_43 H locs hw hP hD hS => ?_)
          obtain ⟨hf_45, rfl⟩ := hw
          have hP : va_P (dC, dI) vwCl (rW h cs gI gL gA gQ) H := hP
          have hD : va_D A0 (rW h cs gI gL gA gQ) := hD
          obtain rfl := hf_45
          refine lv_if_ne (tgt := 16) hx hb dX10_rows_11 (by decide) (fun _ => ?_) (fun c9 => False.elim (by revert c9; decide +kernel))
          refine lv_aload_n hx hb dX10_rows_16 rfl (lv_at hl 0 rfl) ?_
          refine va_get (D := (dC, dI)) (ci := 10) (v := .ref (h 25)) (C := RX10) (T := TX10) (N := 28) hx hb hts hinX10 hown hK hP 0 rfl rfl 25 (by decide) (hts (.fieldLink RX10 60 "MixedWordsModel" "lanes" "[I") (by decide +kernel)) (fun _ h9 => h9) rfl dX10_rows_17 ?_
          refine lv_iload_n hx hb dX10_rows_20 rfl (lv_at hl 1 rfl) ?_
          refine xa_iald hx hb hK hP 14 0 rfl rfl (by omega) (by decide) dX10_rows_21 ?_
          refine xt_i (y := (-1 : Int32)) (by decide +kernel) ?_
          refine lv_if_ge (tgt := 28) hx hb dX10_rows_22 (by decide) (fun c9 => False.elim (by revert c9; decide +kernel)) (fun _ => ?_)
          refine lv_bipush (v := (-11)) hx hb dX10_rows_25 (by decide) ?_
          exact xr_i (v := (-11)) hx hb hr hlocks hK hS dX10_rows_27 (gI, gL, gA, gQ) ⟨(by decide +kernel), rfl⟩ hP hD
      · skip
        refine lv_iload_n hx hb dX10_rows_0 rfl (lv_at hl 1 rfl) ?_
        refine xj_i (wc := ([] : va_W)) (wr := (rW h cs gI gL gA gQ)) hP hD hS hA [] [0, 1, 2, 3, 4, 5, 6, 7, 8, 9, 10, 11, 12, 13, 14, 15, 16] rfl rfl (by decide) (by decide) (va_runS (As := [.int (nI 1)]) (rest := []) ⟨hx, hb, hml, hown, hts⟩ (a_X10_isSheet_247 l dC dI h cs H.size I L A Q ) (va_cwS 1 hts gX10_rows_X10_isSheet rfl rfl rfl (by decide +kernel) ⟨Nat.le_of_ble_eq_true rfl, Nat.le_of_ble_eq_true rfl⟩) (xpS (wc := ([] : va_W)) hP hD hK hN [] rfl (by decide) _) rfl rfl hl.1 rfl (lv_room (Nat.le_of_ble_eq_true rfl)) dX10_rows_1 ⟨Nat.zero_le _, Nat.zero_le _⟩) (fun r_47 u_46 H locs hw hP hD hS => ?_)
        obtain ⟨hf_48, rfl⟩ := hw
        have hP : va_P (dC, dI) vwCl (rW h cs gI gL gA gQ) H := hP
        have hD : va_D A0 (rW h cs gI gL gA gQ) := hD
        obtain rfl := hf_48
        refine lv_if_eq (tgt := 14) hx hb dX10_rows_4 (by decide) (fun c9 => False.elim (by revert c9; decide +kernel)) (fun _ => ?_)
        refine lv_iload_n hx hb dX10_rows_7 rfl (lv_at hl 2 rfl) ?_
        refine xj_i (wc := ([] : va_W)) (wr := (rW h cs gI gL gA gQ)) hP hD hS hA [] [0, 1, 2, 3, 4, 5, 6, 7, 8, 9, 10, 11, 12, 13, 14, 15, 16] rfl rfl (by decide) (by decide) (va_runS (As := [.int y]) (rest := []) ⟨hx, hb, hml, hown, hts⟩ (k_X10_isLane l dC dI h cs H.size I L A Q y) (va_cwS 1 hts gX10_rows_X10_isLane rfl rfl rfl (by decide +kernel) ⟨Nat.le_of_ble_eq_true rfl, Nat.le_of_ble_eq_true rfl⟩) (xpS (wc := ([] : va_W)) hP hD hK hN [] rfl (by decide) _) rfl rfl hl.1 rfl (lv_room (Nat.le_of_ble_eq_true rfl)) dX10_rows_8 ⟨Nat.zero_le _, Nat.zero_le _⟩) (fun r_50 u_49 H locs hw hP hD hS => ?_)
        obtain ⟨hf_51, rfl⟩ := hw
        have hP : va_P (dC, dI) vwCl (rW h cs gI gL gA gQ) H := hP
        have hD : va_D A0 (rW h cs gI gL gA gQ) := hD
        rcases hf_51 with ⟨rfl, i_52, hh_53, ee_54⟩ | ⟨rfl, -⟩
        · skip
          exact absurd (by rw [ee_54, nI_toInt (by omega)]; omega) hz_y
        · skip
          refine lv_if_ne (tgt := 16) hx hb dX10_rows_11 (by decide) (fun c9 => False.elim (by revert c9; decide +kernel)) (fun _ => ?_)
          refine lv_iconst (v := (-1)) hx hb dX10_rows_14 (by decide) ?_
          exact xr_i (v := (-1)) hx hb hr hlocks hK hS dX10_rows_15 (gI, gL, gA, gQ) ⟨(by unfold an_item; rw [if_neg (by omega)]), rfl⟩ hP hD
    · skip
      rcases splR y 0 2 (by decide) with ⟨i_y, h_y, g_y, rfl⟩ | hz_y
      · skip
        rcases (show i_y = 0 ∨ i_y = 1 ∨ i_y = 2 by omega) with rfl | rfl | rfl
        · skip
          refine lv_iload_n hx hb dX10_rows_0 rfl (lv_at hl 1 rfl) ?_
          refine xj_i (wc := ([] : va_W)) (wr := (rW h cs gI gL gA gQ)) hP hD hS hA [] [0, 1, 2, 3, 4, 5, 6, 7, 8, 9, 10, 11, 12, 13, 14, 15, 16] rfl rfl (by decide) (by decide) (va_runS (As := [.int (nI 2)]) (rest := []) ⟨hx, hb, hml, hown, hts⟩ (a_X10_isSheet_248 l dC dI h cs H.size I L A Q ) (va_cwS 1 hts gX10_rows_X10_isSheet rfl rfl rfl (by decide +kernel) ⟨Nat.le_of_ble_eq_true rfl, Nat.le_of_ble_eq_true rfl⟩) (xpS (wc := ([] : va_W)) hP hD hK hN [] rfl (by decide) _) rfl rfl hl.1 rfl (lv_room (Nat.le_of_ble_eq_true rfl)) dX10_rows_1 ⟨Nat.zero_le _, Nat.zero_le _⟩) (fun r_56 u_55 H locs hw hP hD hS => ?_)
          obtain ⟨hf_57, rfl⟩ := hw
          have hP : va_P (dC, dI) vwCl (rW h cs gI gL gA gQ) H := hP
          have hD : va_D A0 (rW h cs gI gL gA gQ) := hD
          obtain rfl := hf_57
          refine lv_if_eq (tgt := 14) hx hb dX10_rows_4 (by decide) (fun c9 => False.elim (by revert c9; decide +kernel)) (fun _ => ?_)
          refine lv_iload_n hx hb dX10_rows_7 rfl (lv_at hl 2 rfl) ?_
          refine xj_i (wc := ([] : va_W)) (wr := (rW h cs gI gL gA gQ)) hP hD hS hA [] [0, 1, 2, 3, 4, 5, 6, 7, 8, 9, 10, 11, 12, 13, 14, 15, 16] rfl rfl (by decide) (by decide) (va_runS (As := [.int (nI 0)]) (rest := []) ⟨hx, hb, hml, hown, hts⟩ (a_X10_isLane_250 l dC dI h cs H.size I L A Q ) (va_cwS 1 hts gX10_rows_X10_isLane rfl rfl rfl (by decide +kernel) ⟨Nat.le_of_ble_eq_true rfl, Nat.le_of_ble_eq_true rfl⟩) (xpS (wc := ([] : va_W)) hP hD hK hN [] rfl (by decide) _) rfl rfl hl.1 rfl (lv_room (Nat.le_of_ble_eq_true rfl)) dX10_rows_8 ⟨Nat.zero_le _, Nat.zero_le _⟩) (fun r_59 u_58 H locs hw hP hD hS => ?_)
          obtain ⟨hf_60, rfl⟩ := hw
          have hP : va_P (dC, dI) vwCl (rW h cs gI gL gA gQ) H := hP
          have hD : va_D A0 (rW h cs gI gL gA gQ) := hD
          obtain rfl := hf_60
          refine lv_if_ne (tgt := 16) hx hb dX10_rows_11 (by decide) (fun _ => ?_) (fun c9 => False.elim (by revert c9; decide +kernel))
          refine lv_aload_n hx hb dX10_rows_16 rfl (lv_at hl 0 rfl) ?_
          refine va_get (D := (dC, dI)) (ci := 10) (v := .ref (h 25)) (C := RX10) (T := TX10) (N := 28) hx hb hts hinX10 hown hK hP 0 rfl rfl 25 (by decide) (hts (.fieldLink RX10 60 "MixedWordsModel" "lanes" "[I") (by decide +kernel)) (fun _ h9 => h9) rfl dX10_rows_17 ?_
          refine lv_iload_n hx hb dX10_rows_20 rfl (lv_at hl 1 rfl) ?_
          refine xa_iald hx hb hK hP 14 0 rfl rfl (by omega) (by decide) dX10_rows_21 ?_
          refine xt_i (y := (-1 : Int32)) (by decide +kernel) ?_
          refine lv_if_ge (tgt := 28) hx hb dX10_rows_22 (by decide) (fun c9 => False.elim (by revert c9; decide +kernel)) (fun _ => ?_)
          refine lv_bipush (v := (-11)) hx hb dX10_rows_25 (by decide) ?_
          exact xr_i (v := (-11)) hx hb hr hlocks hK hS dX10_rows_27 (gI, gL, gA, gQ) ⟨(by decide +kernel), rfl⟩ hP hD
        · skip
          refine lv_iload_n hx hb dX10_rows_0 rfl (lv_at hl 1 rfl) ?_
          refine xj_i (wc := ([] : va_W)) (wr := (rW h cs gI gL gA gQ)) hP hD hS hA [] [0, 1, 2, 3, 4, 5, 6, 7, 8, 9, 10, 11, 12, 13, 14, 15, 16] rfl rfl (by decide) (by decide) (va_runS (As := [.int (nI 2)]) (rest := []) ⟨hx, hb, hml, hown, hts⟩ (a_X10_isSheet_248 l dC dI h cs H.size I L A Q ) (va_cwS 1 hts gX10_rows_X10_isSheet rfl rfl rfl (by decide +kernel) ⟨Nat.le_of_ble_eq_true rfl, Nat.le_of_ble_eq_true rfl⟩) (xpS (wc := ([] : va_W)) hP hD hK hN [] rfl (by decide) _) rfl rfl hl.1 rfl (lv_room (Nat.le_of_ble_eq_true rfl)) dX10_rows_1 ⟨Nat.zero_le _, Nat.zero_le _⟩) (fun r_62 u_61 H locs hw hP hD hS => ?_)
          obtain ⟨hf_63, rfl⟩ := hw
          have hP : va_P (dC, dI) vwCl (rW h cs gI gL gA gQ) H := hP
          have hD : va_D A0 (rW h cs gI gL gA gQ) := hD
          obtain rfl := hf_63
          refine lv_if_eq (tgt := 14) hx hb dX10_rows_4 (by decide) (fun c9 => False.elim (by revert c9; decide +kernel)) (fun _ => ?_)
          refine lv_iload_n hx hb dX10_rows_7 rfl (lv_at hl 2 rfl) ?_
          refine xj_i (wc := ([] : va_W)) (wr := (rW h cs gI gL gA gQ)) hP hD hS hA [] [0, 1, 2, 3, 4, 5, 6, 7, 8, 9, 10, 11, 12, 13, 14, 15, 16] rfl rfl (by decide) (by decide) (va_runS (As := [.int (nI 1)]) (rest := []) ⟨hx, hb, hml, hown, hts⟩ (a_X10_isLane_252 l dC dI h cs H.size I L A Q ) (va_cwS 1 hts gX10_rows_X10_isLane rfl rfl rfl (by decide +kernel) ⟨Nat.le_of_ble_eq_true rfl, Nat.le_of_ble_eq_true rfl⟩) (xpS (wc := ([] : va_W)) hP hD hK hN [] rfl (by decide) _) rfl rfl hl.1 rfl (lv_room (Nat.le_of_ble_eq_true rfl)) dX10_rows_8 ⟨Nat.zero_le _, Nat.zero_le _⟩) (fun r_65 u_64 H locs hw hP hD hS => ?_)
          obtain ⟨hf_66, rfl⟩ := hw
          have hP : va_P (dC, dI) vwCl (rW h cs gI gL gA gQ) H := hP
          have hD : va_D A0 (rW h cs gI gL gA gQ) := hD
          obtain rfl := hf_66
          refine lv_if_ne (tgt := 16) hx hb dX10_rows_11 (by decide) (fun _ => ?_) (fun c9 => False.elim (by revert c9; decide +kernel))
          refine lv_aload_n hx hb dX10_rows_16 rfl (lv_at hl 0 rfl) ?_
          refine va_get (D := (dC, dI)) (ci := 10) (v := .ref (h 25)) (C := RX10) (T := TX10) (N := 28) hx hb hts hinX10 hown hK hP 0 rfl rfl 25 (by decide) (hts (.fieldLink RX10 60 "MixedWordsModel" "lanes" "[I") (by decide +kernel)) (fun _ h9 => h9) rfl dX10_rows_17 ?_
          refine lv_iload_n hx hb dX10_rows_20 rfl (lv_at hl 1 rfl) ?_
          refine xa_iald hx hb hK hP 14 0 rfl rfl (by omega) (by decide) dX10_rows_21 ?_
          refine xt_i (y := (-1 : Int32)) (by decide +kernel) ?_
          refine lv_if_ge (tgt := 28) hx hb dX10_rows_22 (by decide) (fun c9 => False.elim (by revert c9; decide +kernel)) (fun _ => ?_)
          refine lv_bipush (v := (-11)) hx hb dX10_rows_25 (by decide) ?_
          exact xr_i (v := (-11)) hx hb hr hlocks hK hS dX10_rows_27 (gI, gL, gA, gQ) ⟨(by decide +kernel), rfl⟩ hP hD
        · skip
          refine lv_iload_n hx hb dX10_rows_0 rfl (lv_at hl 1 rfl) ?_
          refine xj_i (wc := ([] : va_W)) (wr := (rW h cs gI gL gA gQ)) hP hD hS hA [] [0, 1, 2, 3, 4, 5, 6, 7, 8, 9, 10, 11, 12, 13, 14, 15, 16] rfl rfl (by decide) (by decide) (va_runS (As := [.int (nI 2)]) (rest := []) ⟨hx, hb, hml, hown, hts⟩ (a_X10_isSheet_248 l dC dI h cs H.size I L A Q ) (va_cwS 1 hts gX10_rows_X10_isSheet rfl rfl rfl (by decide +kernel) ⟨Nat.le_of_ble_eq_true rfl, Nat.le_of_ble_eq_true rfl⟩) (xpS (wc := ([] : va_W)) hP hD hK hN [] rfl (by decide) _) rfl rfl hl.1 rfl (lv_room (Nat.le_of_ble_eq_true rfl)) dX10_rows_1 ⟨Nat.zero_le _, Nat.zero_le _⟩) (fun r_68 u_67 H locs hw hP hD hS => ?_)
          obtain ⟨hf_69, rfl⟩ := hw
          have hP : va_P (dC, dI) vwCl (rW h cs gI gL gA gQ) H := hP
          have hD : va_D A0 (rW h cs gI gL gA gQ) := hD
          obtain rfl := hf_69
          refine lv_if_eq (tgt := 14) hx hb dX10_rows_4 (by decide) (fun c9 => False.elim (by revert c9; decide +kernel)) (fun _ => ?_)
          refine lv_iload_n hx hb dX10_rows_7 rfl (lv_at hl 2 rfl) ?_
          refine xj_i (wc := ([] : va_W)) (wr := (rW h cs gI gL gA gQ)) hP hD hS hA [] [0, 1, 2, 3, 4, 5, 6, 7, 8, 9, 10, 11, 12, 13, 14, 15, 16] rfl rfl (by decide) (by decide) (va_runS (As := [.int (nI 2)]) (rest := []) ⟨hx, hb, hml, hown, hts⟩ (a_X10_isLane_254 l dC dI h cs H.size I L A Q ) (va_cwS 1 hts gX10_rows_X10_isLane rfl rfl rfl (by decide +kernel) ⟨Nat.le_of_ble_eq_true rfl, Nat.le_of_ble_eq_true rfl⟩) (xpS (wc := ([] : va_W)) hP hD hK hN [] rfl (by decide) _) rfl rfl hl.1 rfl (lv_room (Nat.le_of_ble_eq_true rfl)) dX10_rows_8 ⟨Nat.zero_le _, Nat.zero_le _⟩) (fun r_71 u_70 H locs hw hP hD hS => ?_)
          obtain ⟨hf_72, rfl⟩ := hw
          have hP : va_P (dC, dI) vwCl (rW h cs gI gL gA gQ) H := hP
          have hD : va_D A0 (rW h cs gI gL gA gQ) := hD
          obtain rfl := hf_72
          refine lv_if_ne (tgt := 16) hx hb dX10_rows_11 (by decide) (fun _ => ?_) (fun c9 => False.elim (by revert c9; decide +kernel))
          refine lv_aload_n hx hb dX10_rows_16 rfl (lv_at hl 0 rfl) ?_
          refine va_get (D := (dC, dI)) (ci := 10) (v := .ref (h 25)) (C := RX10) (T := TX10) (N := 28) hx hb hts hinX10 hown hK hP 0 rfl rfl 25 (by decide) (hts (.fieldLink RX10 60 "MixedWordsModel" "lanes" "[I") (by decide +kernel)) (fun _ h9 => h9) rfl dX10_rows_17 ?_
          refine lv_iload_n hx hb dX10_rows_20 rfl (lv_at hl 1 rfl) ?_
          refine xa_iald hx hb hK hP 14 0 rfl rfl (by omega) (by decide) dX10_rows_21 ?_
          refine xt_i (y := (-1 : Int32)) (by decide +kernel) ?_
          refine lv_if_ge (tgt := 28) hx hb dX10_rows_22 (by decide) (fun c9 => False.elim (by revert c9; decide +kernel)) (fun _ => ?_)
          refine lv_bipush (v := (-11)) hx hb dX10_rows_25 (by decide) ?_
          exact xr_i (v := (-11)) hx hb hr hlocks hK hS dX10_rows_27 (gI, gL, gA, gQ) ⟨(by decide +kernel), rfl⟩ hP hD
      · skip
        refine lv_iload_n hx hb dX10_rows_0 rfl (lv_at hl 1 rfl) ?_
        refine xj_i (wc := ([] : va_W)) (wr := (rW h cs gI gL gA gQ)) hP hD hS hA [] [0, 1, 2, 3, 4, 5, 6, 7, 8, 9, 10, 11, 12, 13, 14, 15, 16] rfl rfl (by decide) (by decide) (va_runS (As := [.int (nI 2)]) (rest := []) ⟨hx, hb, hml, hown, hts⟩ (a_X10_isSheet_248 l dC dI h cs H.size I L A Q ) (va_cwS 1 hts gX10_rows_X10_isSheet rfl rfl rfl (by decide +kernel) ⟨Nat.le_of_ble_eq_true rfl, Nat.le_of_ble_eq_true rfl⟩) (xpS (wc := ([] : va_W)) hP hD hK hN [] rfl (by decide) _) rfl rfl hl.1 rfl (lv_room (Nat.le_of_ble_eq_true rfl)) dX10_rows_1 ⟨Nat.zero_le _, Nat.zero_le _⟩) (fun r_74 u_73 H locs hw hP hD hS => ?_)
        obtain ⟨hf_75, rfl⟩ := hw
        have hP : va_P (dC, dI) vwCl (rW h cs gI gL gA gQ) H := hP
        have hD : va_D A0 (rW h cs gI gL gA gQ) := hD
        obtain rfl := hf_75
        refine lv_if_eq (tgt := 14) hx hb dX10_rows_4 (by decide) (fun c9 => False.elim (by revert c9; decide +kernel)) (fun _ => ?_)
        refine lv_iload_n hx hb dX10_rows_7 rfl (lv_at hl 2 rfl) ?_
        refine xj_i (wc := ([] : va_W)) (wr := (rW h cs gI gL gA gQ)) hP hD hS hA [] [0, 1, 2, 3, 4, 5, 6, 7, 8, 9, 10, 11, 12, 13, 14, 15, 16] rfl rfl (by decide) (by decide) (va_runS (As := [.int y]) (rest := []) ⟨hx, hb, hml, hown, hts⟩ (k_X10_isLane l dC dI h cs H.size I L A Q y) (va_cwS 1 hts gX10_rows_X10_isLane rfl rfl rfl (by decide +kernel) ⟨Nat.le_of_ble_eq_true rfl, Nat.le_of_ble_eq_true rfl⟩) (xpS (wc := ([] : va_W)) hP hD hK hN [] rfl (by decide) _) rfl rfl hl.1 rfl (lv_room (Nat.le_of_ble_eq_true rfl)) dX10_rows_8 ⟨Nat.zero_le _, Nat.zero_le _⟩) (fun r_77 u_76 H locs hw hP hD hS => ?_)
        obtain ⟨hf_78, rfl⟩ := hw
        have hP : va_P (dC, dI) vwCl (rW h cs gI gL gA gQ) H := hP
        have hD : va_D A0 (rW h cs gI gL gA gQ) := hD
        rcases hf_78 with ⟨rfl, i_79, hh_80, ee_81⟩ | ⟨rfl, -⟩
        · skip
          exact absurd (by rw [ee_81, nI_toInt (by omega)]; omega) hz_y
        · skip
          refine lv_if_ne (tgt := 16) hx hb dX10_rows_11 (by decide) (fun c9 => False.elim (by revert c9; decide +kernel)) (fun _ => ?_)
          refine lv_iconst (v := (-1)) hx hb dX10_rows_14 (by decide) ?_
          exact xr_i (v := (-1)) hx hb hr hlocks hK hS dX10_rows_15 (gI, gL, gA, gQ) ⟨(by unfold an_item; rw [if_neg (by omega)]), rfl⟩ hP hD
    · skip
      rcases splR y 0 2 (by decide) with ⟨i_y, h_y, g_y, rfl⟩ | hz_y
      · skip
        rcases (show i_y = 0 ∨ i_y = 1 ∨ i_y = 2 by omega) with rfl | rfl | rfl
        · skip
          refine lv_iload_n hx hb dX10_rows_0 rfl (lv_at hl 1 rfl) ?_
          refine xj_i (wc := ([] : va_W)) (wr := (rW h cs gI gL gA gQ)) hP hD hS hA [] [0, 1, 2, 3, 4, 5, 6, 7, 8, 9, 10, 11, 12, 13, 14, 15, 16] rfl rfl (by decide) (by decide) (va_runS (As := [.int (nI 3)]) (rest := []) ⟨hx, hb, hml, hown, hts⟩ (a_X10_isSheet_249 l dC dI h cs H.size I L A Q ) (va_cwS 1 hts gX10_rows_X10_isSheet rfl rfl rfl (by decide +kernel) ⟨Nat.le_of_ble_eq_true rfl, Nat.le_of_ble_eq_true rfl⟩) (xpS (wc := ([] : va_W)) hP hD hK hN [] rfl (by decide) _) rfl rfl hl.1 rfl (lv_room (Nat.le_of_ble_eq_true rfl)) dX10_rows_1 ⟨Nat.zero_le _, Nat.zero_le _⟩) (fun r_83 u_82 H locs hw hP hD hS => ?_)
          obtain ⟨hf_84, rfl⟩ := hw
          have hP : va_P (dC, dI) vwCl (rW h cs gI gL gA gQ) H := hP
          have hD : va_D A0 (rW h cs gI gL gA gQ) := hD
          obtain rfl := hf_84
          refine lv_if_eq (tgt := 14) hx hb dX10_rows_4 (by decide) (fun c9 => False.elim (by revert c9; decide +kernel)) (fun _ => ?_)
          refine lv_iload_n hx hb dX10_rows_7 rfl (lv_at hl 2 rfl) ?_
          refine xj_i (wc := ([] : va_W)) (wr := (rW h cs gI gL gA gQ)) hP hD hS hA [] [0, 1, 2, 3, 4, 5, 6, 7, 8, 9, 10, 11, 12, 13, 14, 15, 16] rfl rfl (by decide) (by decide) (va_runS (As := [.int (nI 0)]) (rest := []) ⟨hx, hb, hml, hown, hts⟩ (a_X10_isLane_250 l dC dI h cs H.size I L A Q ) (va_cwS 1 hts gX10_rows_X10_isLane rfl rfl rfl (by decide +kernel) ⟨Nat.le_of_ble_eq_true rfl, Nat.le_of_ble_eq_true rfl⟩) (xpS (wc := ([] : va_W)) hP hD hK hN [] rfl (by decide) _) rfl rfl hl.1 rfl (lv_room (Nat.le_of_ble_eq_true rfl)) dX10_rows_8 ⟨Nat.zero_le _, Nat.zero_le _⟩) (fun r_86 u_85 H locs hw hP hD hS => ?_)
          obtain ⟨hf_87, rfl⟩ := hw
          have hP : va_P (dC, dI) vwCl (rW h cs gI gL gA gQ) H := hP
          have hD : va_D A0 (rW h cs gI gL gA gQ) := hD
          obtain rfl := hf_87
          refine lv_if_ne (tgt := 16) hx hb dX10_rows_11 (by decide) (fun _ => ?_) (fun c9 => False.elim (by revert c9; decide +kernel))
          refine lv_aload_n hx hb dX10_rows_16 rfl (lv_at hl 0 rfl) ?_
          refine va_get (D := (dC, dI)) (ci := 10) (v := .ref (h 25)) (C := RX10) (T := TX10) (N := 28) hx hb hts hinX10 hown hK hP 0 rfl rfl 25 (by decide) (hts (.fieldLink RX10 60 "MixedWordsModel" "lanes" "[I") (by decide +kernel)) (fun _ h9 => h9) rfl dX10_rows_17 ?_
          refine lv_iload_n hx hb dX10_rows_20 rfl (lv_at hl 1 rfl) ?_
          refine xa_iald hx hb hK hP 14 0 rfl rfl (by omega) (by decide) dX10_rows_21 ?_
          refine xt_i (y := (-1 : Int32)) (by decide +kernel) ?_
          refine lv_if_ge (tgt := 28) hx hb dX10_rows_22 (by decide) (fun c9 => False.elim (by revert c9; decide +kernel)) (fun _ => ?_)
          refine lv_bipush (v := (-11)) hx hb dX10_rows_25 (by decide) ?_
          exact xr_i (v := (-11)) hx hb hr hlocks hK hS dX10_rows_27 (gI, gL, gA, gQ) ⟨(by decide +kernel), rfl⟩ hP hD
        · skip
          refine lv_iload_n hx hb dX10_rows_0 rfl (lv_at hl 1 rfl) ?_
          refine xj_i (wc := ([] : va_W)) (wr := (rW h cs gI gL gA gQ)) hP hD hS hA [] [0, 1, 2, 3, 4, 5, 6, 7, 8, 9, 10, 11, 12, 13, 14, 15, 16] rfl rfl (by decide) (by decide) (va_runS (As := [.int (nI 3)]) (rest := []) ⟨hx, hb, hml, hown, hts⟩ (a_X10_isSheet_249 l dC dI h cs H.size I L A Q ) (va_cwS 1 hts gX10_rows_X10_isSheet rfl rfl rfl (by decide +kernel) ⟨Nat.le_of_ble_eq_true rfl, Nat.le_of_ble_eq_true rfl⟩) (xpS (wc := ([] : va_W)) hP hD hK hN [] rfl (by decide) _) rfl rfl hl.1 rfl (lv_room (Nat.le_of_ble_eq_true rfl)) dX10_rows_1 ⟨Nat.zero_le _, Nat.zero_le _⟩) (fun r_89 u_88 H locs hw hP hD hS => ?_)
          obtain ⟨hf_90, rfl⟩ := hw
          have hP : va_P (dC, dI) vwCl (rW h cs gI gL gA gQ) H := hP
          have hD : va_D A0 (rW h cs gI gL gA gQ) := hD
          obtain rfl := hf_90
          refine lv_if_eq (tgt := 14) hx hb dX10_rows_4 (by decide) (fun c9 => False.elim (by revert c9; decide +kernel)) (fun _ => ?_)
          refine lv_iload_n hx hb dX10_rows_7 rfl (lv_at hl 2 rfl) ?_
          refine xj_i (wc := ([] : va_W)) (wr := (rW h cs gI gL gA gQ)) hP hD hS hA [] [0, 1, 2, 3, 4, 5, 6, 7, 8, 9, 10, 11, 12, 13, 14, 15, 16] rfl rfl (by decide) (by decide) (va_runS (As := [.int (nI 1)]) (rest := []) ⟨hx, hb, hml, hown, hts⟩ (a_X10_isLane_252 l dC dI h cs H.size I L A Q ) (va_cwS 1 hts gX10_rows_X10_isLane rfl rfl rfl (by decide +kernel) ⟨Nat.le_of_ble_eq_true rfl, Nat.le_of_ble_eq_true rfl⟩) (xpS (wc := ([] : va_W)) hP hD hK hN [] rfl (by decide) _) rfl rfl hl.1 rfl (lv_room (Nat.le_of_ble_eq_true rfl)) dX10_rows_8 ⟨Nat.zero_le _, Nat.zero_le _⟩) (fun r_92 u_91 H locs hw hP hD hS => ?_)
          obtain ⟨hf_93, rfl⟩ := hw
          have hP : va_P (dC, dI) vwCl (rW h cs gI gL gA gQ) H := hP
          have hD : va_D A0 (rW h cs gI gL gA gQ) := hD
          obtain rfl := hf_93
          refine lv_if_ne (tgt := 16) hx hb dX10_rows_11 (by decide) (fun _ => ?_) (fun c9 => False.elim (by revert c9; decide +kernel))
          refine lv_aload_n hx hb dX10_rows_16 rfl (lv_at hl 0 rfl) ?_
          refine va_get (D := (dC, dI)) (ci := 10) (v := .ref (h 25)) (C := RX10) (T := TX10) (N := 28) hx hb hts hinX10 hown hK hP 0 rfl rfl 25 (by decide) (hts (.fieldLink RX10 60 "MixedWordsModel" "lanes" "[I") (by decide +kernel)) (fun _ h9 => h9) rfl dX10_rows_17 ?_
          refine lv_iload_n hx hb dX10_rows_20 rfl (lv_at hl 1 rfl) ?_
          refine xa_iald hx hb hK hP 14 0 rfl rfl (by omega) (by decide) dX10_rows_21 ?_
          refine xt_i (y := (-1 : Int32)) (by decide +kernel) ?_
          refine lv_if_ge (tgt := 28) hx hb dX10_rows_22 (by decide) (fun c9 => False.elim (by revert c9; decide +kernel)) (fun _ => ?_)
          refine lv_bipush (v := (-11)) hx hb dX10_rows_25 (by decide) ?_
          exact xr_i (v := (-11)) hx hb hr hlocks hK hS dX10_rows_27 (gI, gL, gA, gQ) ⟨(by decide +kernel), rfl⟩ hP hD
        · skip
          refine lv_iload_n hx hb dX10_rows_0 rfl (lv_at hl 1 rfl) ?_
          refine xj_i (wc := ([] : va_W)) (wr := (rW h cs gI gL gA gQ)) hP hD hS hA [] [0, 1, 2, 3, 4, 5, 6, 7, 8, 9, 10, 11, 12, 13, 14, 15, 16] rfl rfl (by decide) (by decide) (va_runS (As := [.int (nI 3)]) (rest := []) ⟨hx, hb, hml, hown, hts⟩ (a_X10_isSheet_249 l dC dI h cs H.size I L A Q ) (va_cwS 1 hts gX10_rows_X10_isSheet rfl rfl rfl (by decide +kernel) ⟨Nat.le_of_ble_eq_true rfl, Nat.le_of_ble_eq_true rfl⟩) (xpS (wc := ([] : va_W)) hP hD hK hN [] rfl (by decide) _) rfl rfl hl.1 rfl (lv_room (Nat.le_of_ble_eq_true rfl)) dX10_rows_1 ⟨Nat.zero_le _, Nat.zero_le _⟩) (fun r_95 u_94 H locs hw hP hD hS => ?_)
          obtain ⟨hf_96, rfl⟩ := hw
          have hP : va_P (dC, dI) vwCl (rW h cs gI gL gA gQ) H := hP
          have hD : va_D A0 (rW h cs gI gL gA gQ) := hD
          obtain rfl := hf_96
          refine lv_if_eq (tgt := 14) hx hb dX10_rows_4 (by decide) (fun c9 => False.elim (by revert c9; decide +kernel)) (fun _ => ?_)
          refine lv_iload_n hx hb dX10_rows_7 rfl (lv_at hl 2 rfl) ?_
          refine xj_i (wc := ([] : va_W)) (wr := (rW h cs gI gL gA gQ)) hP hD hS hA [] [0, 1, 2, 3, 4, 5, 6, 7, 8, 9, 10, 11, 12, 13, 14, 15, 16] rfl rfl (by decide) (by decide) (va_runS (As := [.int (nI 2)]) (rest := []) ⟨hx, hb, hml, hown, hts⟩ (a_X10_isLane_254 l dC dI h cs H.size I L A Q ) (va_cwS 1 hts gX10_rows_X10_isLane rfl rfl rfl (by decide +kernel) ⟨Nat.le_of_ble_eq_true rfl, Nat.le_of_ble_eq_true rfl⟩) (xpS (wc := ([] : va_W)) hP hD hK hN [] rfl (by decide) _) rfl rfl hl.1 rfl (lv_room (Nat.le_of_ble_eq_true rfl)) dX10_rows_8 ⟨Nat.zero_le _, Nat.zero_le _⟩) (fun r_98 u_97 H locs hw hP hD hS => ?_)
          obtain ⟨hf_99, rfl⟩ := hw
          have hP : va_P (dC, dI) vwCl (rW h cs gI gL gA gQ) H := hP
          have hD : va_D A0 (rW h cs gI gL gA gQ) := hD
          obtain rfl := hf_99
          refine lv_if_ne (tgt := 16) hx hb dX10_rows_11 (by decide) (fun _ => ?_) (fun c9 => False.elim (by revert c9; decide +kernel))
          refine lv_aload_n hx hb dX10_rows_16 rfl (lv_at hl 0 rfl) ?_
          refine va_get (D := (dC, dI)) (ci := 10) (v := .ref (h 25)) (C := RX10) (T := TX10) (N := 28) hx hb hts hinX10 hown hK hP 0 rfl rfl 25 (by decide) (hts (.fieldLink RX10 60 "MixedWordsModel" "lanes" "[I") (by decide +kernel)) (fun _ h9 => h9) rfl dX10_rows_17 ?_
          refine lv_iload_n hx hb dX10_rows_20 rfl (lv_at hl 1 rfl) ?_
          refine xa_iald hx hb hK hP 14 0 rfl rfl (by omega) (by decide) dX10_rows_21 ?_
          refine xt_i (y := (-1 : Int32)) (by decide +kernel) ?_
          refine lv_if_ge (tgt := 28) hx hb dX10_rows_22 (by decide) (fun c9 => False.elim (by revert c9; decide +kernel)) (fun _ => ?_)
          refine lv_bipush (v := (-11)) hx hb dX10_rows_25 (by decide) ?_
          exact xr_i (v := (-11)) hx hb hr hlocks hK hS dX10_rows_27 (gI, gL, gA, gQ) ⟨(by decide +kernel), rfl⟩ hP hD
      · skip
        refine lv_iload_n hx hb dX10_rows_0 rfl (lv_at hl 1 rfl) ?_
        refine xj_i (wc := ([] : va_W)) (wr := (rW h cs gI gL gA gQ)) hP hD hS hA [] [0, 1, 2, 3, 4, 5, 6, 7, 8, 9, 10, 11, 12, 13, 14, 15, 16] rfl rfl (by decide) (by decide) (va_runS (As := [.int (nI 3)]) (rest := []) ⟨hx, hb, hml, hown, hts⟩ (a_X10_isSheet_249 l dC dI h cs H.size I L A Q ) (va_cwS 1 hts gX10_rows_X10_isSheet rfl rfl rfl (by decide +kernel) ⟨Nat.le_of_ble_eq_true rfl, Nat.le_of_ble_eq_true rfl⟩) (xpS (wc := ([] : va_W)) hP hD hK hN [] rfl (by decide) _) rfl rfl hl.1 rfl (lv_room (Nat.le_of_ble_eq_true rfl)) dX10_rows_1 ⟨Nat.zero_le _, Nat.zero_le _⟩) (fun r_101 u_100 H locs hw hP hD hS => ?_)
        obtain ⟨hf_102, rfl⟩ := hw
        have hP : va_P (dC, dI) vwCl (rW h cs gI gL gA gQ) H := hP
        have hD : va_D A0 (rW h cs gI gL gA gQ) := hD
        obtain rfl := hf_102
        refine lv_if_eq (tgt := 14) hx hb dX10_rows_4 (by decide) (fun c9 => False.elim (by revert c9; decide +kernel)) (fun _ => ?_)
        refine lv_iload_n hx hb dX10_rows_7 rfl (lv_at hl 2 rfl) ?_
        refine xj_i (wc := ([] : va_W)) (wr := (rW h cs gI gL gA gQ)) hP hD hS hA [] [0, 1, 2, 3, 4, 5, 6, 7, 8, 9, 10, 11, 12, 13, 14, 15, 16] rfl rfl (by decide) (by decide) (va_runS (As := [.int y]) (rest := []) ⟨hx, hb, hml, hown, hts⟩ (k_X10_isLane l dC dI h cs H.size I L A Q y) (va_cwS 1 hts gX10_rows_X10_isLane rfl rfl rfl (by decide +kernel) ⟨Nat.le_of_ble_eq_true rfl, Nat.le_of_ble_eq_true rfl⟩) (xpS (wc := ([] : va_W)) hP hD hK hN [] rfl (by decide) _) rfl rfl hl.1 rfl (lv_room (Nat.le_of_ble_eq_true rfl)) dX10_rows_8 ⟨Nat.zero_le _, Nat.zero_le _⟩) (fun r_104 u_103 H locs hw hP hD hS => ?_)
        obtain ⟨hf_105, rfl⟩ := hw
        have hP : va_P (dC, dI) vwCl (rW h cs gI gL gA gQ) H := hP
        have hD : va_D A0 (rW h cs gI gL gA gQ) := hD
        rcases hf_105 with ⟨rfl, i_106, hh_107, ee_108⟩ | ⟨rfl, -⟩
        · skip
          exact absurd (by rw [ee_108, nI_toInt (by omega)]; omega) hz_y
        · skip
          refine lv_if_ne (tgt := 16) hx hb dX10_rows_11 (by decide) (fun c9 => False.elim (by revert c9; decide +kernel)) (fun _ => ?_)
          refine lv_iconst (v := (-1)) hx hb dX10_rows_14 (by decide) ?_
          exact xr_i (v := (-1)) hx hb hr hlocks hK hS dX10_rows_15 (gI, gL, gA, gQ) ⟨(by unfold an_item; rw [if_neg (by omega)]), rfl⟩ hP hD
  · skip
    refine lv_iload_n hx hb dX10_rows_0 rfl (lv_at hl 1 rfl) ?_
    refine xj_i (wc := ([] : va_W)) (wr := (rW h cs gI gL gA gQ)) hP hD hS hA [] [0, 1, 2, 3, 4, 5, 6, 7, 8, 9, 10, 11, 12, 13, 14, 15, 16] rfl rfl (by decide) (by decide) (va_runS (As := [.int x]) (rest := []) ⟨hx, hb, hml, hown, hts⟩ (k_X10_isSheet l dC dI h cs H.size I L A Q x) (va_cwS 1 hts gX10_rows_X10_isSheet rfl rfl rfl (by decide +kernel) ⟨Nat.le_of_ble_eq_true rfl, Nat.le_of_ble_eq_true rfl⟩) (xpS (wc := ([] : va_W)) hP hD hK hN [] rfl (by decide) _) rfl rfl hl.1 rfl (lv_room (Nat.le_of_ble_eq_true rfl)) dX10_rows_1 ⟨Nat.zero_le _, Nat.zero_le _⟩) (fun r_110 u_109 H locs hw hP hD hS => ?_)
    obtain ⟨hf_111, rfl⟩ := hw
    have hP : va_P (dC, dI) vwCl (rW h cs gI gL gA gQ) H := hP
    have hD : va_D A0 (rW h cs gI gL gA gQ) := hD
    rcases hf_111 with ⟨rfl, i_112, hh_113, ee_114⟩ | ⟨rfl, -⟩
    · skip
      exact absurd (by rw [ee_114, nI_toInt (by omega)]; omega) hz_x
    · skip
      refine lv_if_eq (tgt := 14) hx hb dX10_rows_4 (by decide) (fun _ => ?_) (fun c9 => False.elim (by revert c9; decide +kernel))
      refine lv_iconst (v := (-1)) hx hb dX10_rows_14 (by decide) ?_
      exact xr_i (v := (-1)) hx hb hr hlocks hK hS dX10_rows_15 (gI, gL, gA, gQ) ⟨(by unfold an_item; rw [if_neg (by omega)]), rfl⟩ hP hD
