set_option maxHeartbeats 4000000 in
set_option maxRecDepth 100000 in
theorem a_X10_in_201 (l : Launch) (dC : Nat → ClassId) (dI : Nat → Nat → Nat) (h : Nat → Nat) (cs : Nat → ClassId) (sz : Nat) (I : Nat → Int32) (L : Nat → Int64) (A : Nat → Nat → Int32) (Q : Nat → Nat → Int64) : Met l yX10_in wsX10_in ({ frames := 0, cells := 0, slots := 0, locals := 0 }) (va_Pc [.long (0 : Int64), .long (0 : Int64), .long (1 : Int64)] (xPre (dC, dI) ([] : va_W) (tysA cs) sz)) (va_Qi (fun (r : Int32) (u : RS) => (r = nI 1) ∧ u = (I, L, A, Q)) (xB (dC, dI) (tysA cs) (va_A ([] : va_W) sz) (fun _ : RS => ([] : va_W))) (va_A ([] : va_W) sz)) 0 0 (va_A ([] : va_W) sz) := by
  refine Met.ofW (cc := cX10_in) (maxL := 6) (ret := (some .boolean)) (by decide) rfl ?_
  intro p e s m args below meth c s₁ B hml hv
  obtain ⟨rfl, hsz, hP, hK, hD0, hN⟩ := hv
  have hx := B.exec
  have hb := B.bytes
  have hr := B.returns
  have hts := atoms_spec (ws := wsX10_in) B.pre
  have hown : s.vm.findClass RX10 = some m.cls := findClass_of_methodNamed B.named
  have hlocks := B.notSynchronized
  subst hsz
  have hD := hD0.self (sz := s.heap.size)
  generalize hAe : va_A ([] : va_W) s.heap.size = A0 at hD ⊢
  have hA : ∀ q : Nat, s.heap.size ≤ q → A0 q := fun q h => by rw [← hAe]; exact Or.inr h
  have hl := lv_entry ([.long (0 : Int64), .long (0 : Int64), .long (1 : Int64)]) (n := 6) (Nat.le_of_ble_eq_true rfl)
  rw [lg_entry_eq]
  generalize (lg_sl ([.long (0 : Int64), .long (0 : Int64), .long (1 : Int64)]) ++ List.replicate (6 - (lg_sl ([.long (0 : Int64), .long (0 : Int64), .long (1 : Int64)])).length) Slot.unset).toArray = ls at hl ⊢
  have hl : lv_has ls 6 [(0, .long (0 : Int64)), (2, .long (0 : Int64)), (4, .long (1 : Int64))] := hl
  generalize hH : s.heap = H at hP ⊢
  have hS : va_S A0 s.heap H [] := by rw [← hH]; exact va_S.rf
  refine lv_lload_n hx hb dX10_in_0 rfl (lv_at hl 0 rfl) ?_
  refine lv_lload_n hx hb dX10_in_1 rfl (lv_at hl 1 rfl) ?_
  refine xl_lt (tgt := 17) hx hb dX10_in_2 dX10_in_3 (by decide) (fun c9 => False.elim (by revert c9; decide +kernel)) (fun _ => ?_)
  refine lv_lload_n hx hb dX10_in_6 rfl (lv_at hl 0 rfl) ?_
  refine lv_lload hx hb dX10_in_7 (lv_at hl 2 rfl) ?_
  refine xl_gt (tgt := 17) hx hb dX10_in_9 dX10_in_10 (by decide) (fun c9 => False.elim (by revert c9; decide +kernel)) (fun _ => ?_)
  refine lv_iconst (v := nI 1) hx hb dX10_in_13 (by decide) ?_
  refine lv_goto (tgt := 18) hx hb dX10_in_14 (by decide) ?_
  exact xr_z (v := (nI 1)) hx hb hr hlocks hK hS dX10_in_18 (rfl) (I, L, A, Q) ⟨rfl, rfl⟩ hP hD
set_option maxHeartbeats 4000000 in
set_option maxRecDepth 100000 in
theorem a_X10_isColumn_200 (l : Launch) (dC : Nat → ClassId) (dI : Nat → Nat → Nat) (h : Nat → Nat) (cs : Nat → ClassId) (sz : Nat) (I : Nat → Int32) (L : Nat → Int64) (A : Nat → Nat → Int32) (Q : Nat → Nat → Int64) : Met l yX10_isColumn wsX10_isColumn ({ frames := 1, cells := 0, slots := 0, locals := 25 }) (va_Pc [.ref (h 0), .int (nI 0)] (xPre (dC, dI) (wD_177 h cs gI gL gA gQ) (tysA cs) sz)) (va_Qi (fun (r : Int32) (u : RS) => (r = nI 1) ∧ u = (gI, gL, gA, gQ)) (xB (dC, dI) (tysA cs) (va_A (wD_177 h cs gI gL gA gQ) sz) (fun u : RS => wD_177 h cs u.1 u.2.1 u.2.2.1 u.2.2.2)) (va_A (wD_177 h cs gI gL gA gQ) sz)) 0 0 (va_A (wD_177 h cs gI gL gA gQ) sz) := by
  refine Met.ofW (cc := cX10_isColumn) (maxL := 2) (ret := (some .boolean)) (by decide) rfl ?_
  intro p e s m args below meth c s₁ B hml hv
  obtain ⟨rfl, hsz, hP, hK, hD0, hN⟩ := hv
  have hx := B.exec
  have hb := B.bytes
  have hr := B.returns
  have hts := atoms_spec (ws := wsX10_isColumn) B.pre
  have hown : s.vm.findClass RX10 = some m.cls := findClass_of_methodNamed B.named
  have hlocks := B.notSynchronized
  subst hsz
  have hD := hD0.self (sz := s.heap.size)
  generalize hAe : va_A (wD_177 h cs gI gL gA gQ) s.heap.size = A0 at hD ⊢
  have hA : ∀ q : Nat, s.heap.size ≤ q → A0 q := fun q h => by rw [← hAe]; exact Or.inr h
  have hl := lv_entry ([.ref (h 0), .int (nI 0)]) (n := 2) (Nat.le_of_ble_eq_true rfl)
  rw [lg_entry_eq]
  generalize (lg_sl ([.ref (h 0), .int (nI 0)]) ++ List.replicate (2 - (lg_sl ([.ref (h 0), .int (nI 0)])).length) Slot.unset).toArray = ls at hl ⊢
  have hl : lv_has ls 2 [(0, .ref (h 0)), (1, .int (nI 0))] := hl
  generalize hH : s.heap = H at hP ⊢
  have hS : va_S A0 s.heap H [] := by rw [← hH]; exact va_S.rf
  have hinX10 : ∀ w ∈ wsX100, w ∈ wsX10_isColumn := by decide +kernel
  refine lv_iload_n hx hb dX10_isColumn_0 rfl (lv_at hl 1 rfl) ?_
  refine lv_i2l (v := (0 : Int64)) hx hb dX10_isColumn_1 (by decide +kernel) ?_
  refine lv_lconst (v := 0) hx hb dX10_isColumn_2 rfl ?_
  refine lv_aload_n hx hb dX10_isColumn_3 rfl (lv_at hl 0 rfl) ?_
  refine va_get (D := (dC, dI)) (ci := 10) (v := .int (gI 1)) (C := RX10) (T := TX10) (N := 28) hx hb hts hinX10 hown hK hP 0 rfl rfl 1 (by decide) (hts (.fieldLink RX10 13 "MixedWordsModel" "columns" "I") (by decide +kernel)) (fun _ h9 => h9) rfl dX10_isColumn_4 ?_
  refine xt_i (y := nI 2) (by decide +kernel) ?_
  refine lv_iconst (v := nI 1) hx hb dX10_isColumn_7 (by decide) ?_
  refine lv_isub hx hb dX10_isColumn_8 ?_
  refine xt_i (y := nI 1) (by decide +kernel) ?_
  refine lv_i2l (v := (1 : Int64)) hx hb dX10_isColumn_9 (by decide +kernel) ?_
  refine xj_i (wc := ([] : va_W)) (wr := (wD_177 h cs gI gL gA gQ)) hP hD hS hA [] [0, 1, 2, 3, 4, 5, 6, 7, 8, 9, 10, 11, 12, 13, 14, 15, 16] rfl rfl (by decide) (by decide) (va_runS (As := [.long (0 : Int64), .long (0 : Int64), .long (1 : Int64)]) (rest := []) ⟨hx, hb, hml, hown, hts⟩ (a_X10_in_201 l dC dI h cs H.size I L A Q ) (va_cwS 3 hts gX10_isColumn_X10_in rfl rfl rfl (by decide +kernel) ⟨Nat.le_of_ble_eq_true rfl, Nat.le_of_ble_eq_true rfl⟩) (xpS (wc := ([] : va_W)) hP hD hK hN [] rfl (by decide) _) rfl rfl hl.1 rfl (lv_room (Nat.le_of_ble_eq_true rfl)) dX10_isColumn_10 ⟨Nat.zero_le _, Nat.zero_le _⟩) (fun r_2 u_1 H locs hw hP hD hS => ?_)
  obtain ⟨hf_3, rfl⟩ := hw
  have hP : va_P (dC, dI) vwCl (wD_177 h cs gI gL gA gQ) H := hP
  have hD : va_D A0 (wD_177 h cs gI gL gA gQ) := hD
  obtain rfl := hf_3
  exact xr_z (v := (nI 1)) hx hb hr hlocks hK hS dX10_isColumn_13 (rfl) (gI, gL, gA, gQ) ⟨rfl, rfl⟩ hP hD
set_option maxHeartbeats 4000000 in
set_option maxRecDepth 100000 in
theorem a_X10_in_202 (l : Launch) (dC : Nat → ClassId) (dI : Nat → Nat → Nat) (h : Nat → Nat) (cs : Nat → ClassId) (sz : Nat) (I : Nat → Int32) (L : Nat → Int64) (A : Nat → Nat → Int32) (Q : Nat → Nat → Int64) : Met l yX10_in wsX10_in ({ frames := 0, cells := 0, slots := 0, locals := 0 }) (va_Pc [.long (0 : Int64), .long (0 : Int64), .long (0 : Int64)] (xPre (dC, dI) ([] : va_W) (tysA cs) sz)) (va_Qi (fun (r : Int32) (u : RS) => (r = nI 1) ∧ u = (I, L, A, Q)) (xB (dC, dI) (tysA cs) (va_A ([] : va_W) sz) (fun _ : RS => ([] : va_W))) (va_A ([] : va_W) sz)) 0 0 (va_A ([] : va_W) sz) := by
  refine Met.ofW (cc := cX10_in) (maxL := 6) (ret := (some .boolean)) (by decide) rfl ?_
  intro p e s m args below meth c s₁ B hml hv
  obtain ⟨rfl, hsz, hP, hK, hD0, hN⟩ := hv
  have hx := B.exec
  have hb := B.bytes
  have hr := B.returns
  have hts := atoms_spec (ws := wsX10_in) B.pre
  have hown : s.vm.findClass RX10 = some m.cls := findClass_of_methodNamed B.named
  have hlocks := B.notSynchronized
  subst hsz
  have hD := hD0.self (sz := s.heap.size)
  generalize hAe : va_A ([] : va_W) s.heap.size = A0 at hD ⊢
  have hA : ∀ q : Nat, s.heap.size ≤ q → A0 q := fun q h => by rw [← hAe]; exact Or.inr h
  have hl := lv_entry ([.long (0 : Int64), .long (0 : Int64), .long (0 : Int64)]) (n := 6) (Nat.le_of_ble_eq_true rfl)
  rw [lg_entry_eq]
  generalize (lg_sl ([.long (0 : Int64), .long (0 : Int64), .long (0 : Int64)]) ++ List.replicate (6 - (lg_sl ([.long (0 : Int64), .long (0 : Int64), .long (0 : Int64)])).length) Slot.unset).toArray = ls at hl ⊢
  have hl : lv_has ls 6 [(0, .long (0 : Int64)), (2, .long (0 : Int64)), (4, .long (0 : Int64))] := hl
  generalize hH : s.heap = H at hP ⊢
  have hS : va_S A0 s.heap H [] := by rw [← hH]; exact va_S.rf
  refine lv_lload_n hx hb dX10_in_0 rfl (lv_at hl 0 rfl) ?_
  refine lv_lload_n hx hb dX10_in_1 rfl (lv_at hl 1 rfl) ?_
  refine xl_lt (tgt := 17) hx hb dX10_in_2 dX10_in_3 (by decide) (fun c9 => False.elim (by revert c9; decide +kernel)) (fun _ => ?_)
  refine lv_lload_n hx hb dX10_in_6 rfl (lv_at hl 0 rfl) ?_
  refine lv_lload hx hb dX10_in_7 (lv_at hl 2 rfl) ?_
  refine xl_gt (tgt := 17) hx hb dX10_in_9 dX10_in_10 (by decide) (fun c9 => False.elim (by revert c9; decide +kernel)) (fun _ => ?_)
  refine lv_iconst (v := nI 1) hx hb dX10_in_13 (by decide) ?_
  refine lv_goto (tgt := 18) hx hb dX10_in_14 (by decide) ?_
  exact xr_z (v := (nI 1)) hx hb hr hlocks hK hS dX10_in_18 (rfl) (I, L, A, Q) ⟨rfl, rfl⟩ hP hD
set_option maxHeartbeats 4000000 in
set_option maxRecDepth 100000 in
theorem a_X10_bit_203 (l : Launch) (dC : Nat → ClassId) (dI : Nat → Nat → Nat) (h : Nat → Nat) (cs : Nat → ClassId) (sz : Nat) (I : Nat → Int32) (L : Nat → Int64) (A : Nat → Nat → Int32) (Q : Nat → Nat → Int64) : Met l yX10_bit wsX10_bit ({ frames := 0, cells := 0, slots := 0, locals := 0 }) (va_Pc [.ref (h 0), .int (-1 : Int32), .int (nI 0)] (xPre (dC, dI) (wD_177 h cs gI gL gA gQ) (tysA cs) sz)) (va_Qi (fun (r : Int32) (u : RS) => (r = nI 0) ∧ u = (gI, gL, gA, gQ)) (xB (dC, dI) (tysA cs) (va_A (wD_177 h cs gI gL gA gQ) sz) (fun u : RS => wD_177 h cs u.1 u.2.1 u.2.2.1 u.2.2.2)) (va_A (wD_177 h cs gI gL gA gQ) sz)) 0 0 (va_A (wD_177 h cs gI gL gA gQ) sz) := by
  refine Met.ofW (cc := cX10_bit) (maxL := 3) (ret := (some .int)) (by decide) rfl ?_
  intro p e s m args below meth c s₁ B hml hv
  obtain ⟨rfl, hsz, hP, hK, hD0, hN⟩ := hv
  have hx := B.exec
  have hb := B.bytes
  have hr := B.returns
  have hts := atoms_spec (ws := wsX10_bit) B.pre
  have hown : s.vm.findClass RX10 = some m.cls := findClass_of_methodNamed B.named
  have hlocks := B.notSynchronized
  subst hsz
  have hD := hD0.self (sz := s.heap.size)
  generalize hAe : va_A (wD_177 h cs gI gL gA gQ) s.heap.size = A0 at hD ⊢
  have hA : ∀ q : Nat, s.heap.size ≤ q → A0 q := fun q h => by rw [← hAe]; exact Or.inr h
  have hl := lv_entry ([.ref (h 0), .int (-1 : Int32), .int (nI 0)]) (n := 3) (Nat.le_of_ble_eq_true rfl)
  rw [lg_entry_eq]
  generalize (lg_sl ([.ref (h 0), .int (-1 : Int32), .int (nI 0)]) ++ List.replicate (3 - (lg_sl ([.ref (h 0), .int (-1 : Int32), .int (nI 0)])).length) Slot.unset).toArray = ls at hl ⊢
  have hl : lv_has ls 3 [(0, .ref (h 0)), (1, .int (-1 : Int32)), (2, .int (nI 0))] := hl
  generalize hH : s.heap = H at hP ⊢
  have hS : va_S A0 s.heap H [] := by rw [← hH]; exact va_S.rf
  refine lv_iload_n hx hb dX10_bit_0 rfl (lv_at hl 2 rfl) ?_
  refine lv_if_ne (tgt := 14) hx hb dX10_bit_1 (by decide) (fun c9 => False.elim (by revert c9; decide +kernel)) (fun _ => ?_)
  refine lv_iload_n hx hb dX10_bit_4 rfl (lv_at hl 1 rfl) ?_
  refine lv_if_le (tgt := 12) hx hb dX10_bit_5 (by decide) (fun _ => ?_) (fun c9 => False.elim (by revert c9; decide +kernel))
  refine lv_iconst (v := nI 0) hx hb dX10_bit_12 (by decide) ?_
  exact xr_i (v := (nI 0)) hx hb hr hlocks hK hS dX10_bit_13 (gI, gL, gA, gQ) ⟨rfl, rfl⟩ hP hD
set_option maxHeartbeats 4000000 in
set_option maxRecDepth 100000 in
theorem a_X10_bit_204 (l : Launch) (dC : Nat → ClassId) (dI : Nat → Nat → Nat) (h : Nat → Nat) (cs : Nat → ClassId) (sz : Nat) (I : Nat → Int32) (L : Nat → Int64) (A : Nat → Nat → Int32) (Q : Nat → Nat → Int64) : Met l yX10_bit wsX10_bit ({ frames := 0, cells := 0, slots := 0, locals := 0 }) (va_Pc [.ref (h 0), .int (nI 1), .int (nI 0)] (xPre (dC, dI) (wD_177 h cs gI gL gA gQ) (tysA cs) sz)) (va_Qi (fun (r : Int32) (u : RS) => (r = nI 1) ∧ u = (gI, gL, gA, gQ)) (xB (dC, dI) (tysA cs) (va_A (wD_177 h cs gI gL gA gQ) sz) (fun u : RS => wD_177 h cs u.1 u.2.1 u.2.2.1 u.2.2.2)) (va_A (wD_177 h cs gI gL gA gQ) sz)) 0 0 (va_A (wD_177 h cs gI gL gA gQ) sz) := by
  refine Met.ofW (cc := cX10_bit) (maxL := 3) (ret := (some .int)) (by decide) rfl ?_
  intro p e s m args below meth c s₁ B hml hv
  obtain ⟨rfl, hsz, hP, hK, hD0, hN⟩ := hv
  have hx := B.exec
  have hb := B.bytes
  have hr := B.returns
  have hts := atoms_spec (ws := wsX10_bit) B.pre
  have hown : s.vm.findClass RX10 = some m.cls := findClass_of_methodNamed B.named
  have hlocks := B.notSynchronized
  subst hsz
  have hD := hD0.self (sz := s.heap.size)
  generalize hAe : va_A (wD_177 h cs gI gL gA gQ) s.heap.size = A0 at hD ⊢
  have hA : ∀ q : Nat, s.heap.size ≤ q → A0 q := fun q h => by rw [← hAe]; exact Or.inr h
  have hl := lv_entry ([.ref (h 0), .int (nI 1), .int (nI 0)]) (n := 3) (Nat.le_of_ble_eq_true rfl)
  rw [lg_entry_eq]
  generalize (lg_sl ([.ref (h 0), .int (nI 1), .int (nI 0)]) ++ List.replicate (3 - (lg_sl ([.ref (h 0), .int (nI 1), .int (nI 0)])).length) Slot.unset).toArray = ls at hl ⊢
  have hl : lv_has ls 3 [(0, .ref (h 0)), (1, .int (nI 1)), (2, .int (nI 0))] := hl
  generalize hH : s.heap = H at hP ⊢
  have hS : va_S A0 s.heap H [] := by rw [← hH]; exact va_S.rf
  refine lv_iload_n hx hb dX10_bit_0 rfl (lv_at hl 2 rfl) ?_
  refine lv_if_ne (tgt := 14) hx hb dX10_bit_1 (by decide) (fun c9 => False.elim (by revert c9; decide +kernel)) (fun _ => ?_)
  refine lv_iload_n hx hb dX10_bit_4 rfl (lv_at hl 1 rfl) ?_
  refine lv_if_le (tgt := 12) hx hb dX10_bit_5 (by decide) (fun c9 => False.elim (by revert c9; decide +kernel)) (fun _ => ?_)
  refine lv_iconst (v := nI 1) hx hb dX10_bit_8 (by decide) ?_
  refine lv_goto (tgt := 13) hx hb dX10_bit_9 (by decide) ?_
  exact xr_i (v := (nI 1)) hx hb hr hlocks hK hS dX10_bit_13 (gI, gL, gA, gQ) ⟨rfl, rfl⟩ hP hD
set_option maxHeartbeats 4000000 in
set_option maxRecDepth 100000 in
theorem a_X10_in_206 (l : Launch) (dC : Nat → ClassId) (dI : Nat → Nat → Nat) (h : Nat → Nat) (cs : Nat → ClassId) (sz : Nat) (I : Nat → Int32) (L : Nat → Int64) (A : Nat → Nat → Int32) (Q : Nat → Nat → Int64) : Met l yX10_in wsX10_in ({ frames := 0, cells := 0, slots := 0, locals := 0 }) (va_Pc [.long (1 : Int64), .long (0 : Int64), .long (1 : Int64)] (xPre (dC, dI) ([] : va_W) (tysA cs) sz)) (va_Qi (fun (r : Int32) (u : RS) => (r = nI 1) ∧ u = (I, L, A, Q)) (xB (dC, dI) (tysA cs) (va_A ([] : va_W) sz) (fun _ : RS => ([] : va_W))) (va_A ([] : va_W) sz)) 0 0 (va_A ([] : va_W) sz) := by
  refine Met.ofW (cc := cX10_in) (maxL := 6) (ret := (some .boolean)) (by decide) rfl ?_
  intro p e s m args below meth c s₁ B hml hv
  obtain ⟨rfl, hsz, hP, hK, hD0, hN⟩ := hv
  have hx := B.exec
  have hb := B.bytes
  have hr := B.returns
  have hts := atoms_spec (ws := wsX10_in) B.pre
  have hown : s.vm.findClass RX10 = some m.cls := findClass_of_methodNamed B.named
  have hlocks := B.notSynchronized
  subst hsz
  have hD := hD0.self (sz := s.heap.size)
  generalize hAe : va_A ([] : va_W) s.heap.size = A0 at hD ⊢
  have hA : ∀ q : Nat, s.heap.size ≤ q → A0 q := fun q h => by rw [← hAe]; exact Or.inr h
  have hl := lv_entry ([.long (1 : Int64), .long (0 : Int64), .long (1 : Int64)]) (n := 6) (Nat.le_of_ble_eq_true rfl)
  rw [lg_entry_eq]
  generalize (lg_sl ([.long (1 : Int64), .long (0 : Int64), .long (1 : Int64)]) ++ List.replicate (6 - (lg_sl ([.long (1 : Int64), .long (0 : Int64), .long (1 : Int64)])).length) Slot.unset).toArray = ls at hl ⊢
  have hl : lv_has ls 6 [(0, .long (1 : Int64)), (2, .long (0 : Int64)), (4, .long (1 : Int64))] := hl
  generalize hH : s.heap = H at hP ⊢
  have hS : va_S A0 s.heap H [] := by rw [← hH]; exact va_S.rf
  refine lv_lload_n hx hb dX10_in_0 rfl (lv_at hl 0 rfl) ?_
  refine lv_lload_n hx hb dX10_in_1 rfl (lv_at hl 1 rfl) ?_
  refine xl_lt (tgt := 17) hx hb dX10_in_2 dX10_in_3 (by decide) (fun c9 => False.elim (by revert c9; decide +kernel)) (fun _ => ?_)
  refine lv_lload_n hx hb dX10_in_6 rfl (lv_at hl 0 rfl) ?_
  refine lv_lload hx hb dX10_in_7 (lv_at hl 2 rfl) ?_
  refine xl_gt (tgt := 17) hx hb dX10_in_9 dX10_in_10 (by decide) (fun c9 => False.elim (by revert c9; decide +kernel)) (fun _ => ?_)
  refine lv_iconst (v := nI 1) hx hb dX10_in_13 (by decide) ?_
  refine lv_goto (tgt := 18) hx hb dX10_in_14 (by decide) ?_
  exact xr_z (v := (nI 1)) hx hb hr hlocks hK hS dX10_in_18 (rfl) (I, L, A, Q) ⟨rfl, rfl⟩ hP hD
set_option maxHeartbeats 4000000 in
set_option maxRecDepth 100000 in
theorem a_X10_isColumn_205 (l : Launch) (dC : Nat → ClassId) (dI : Nat → Nat → Nat) (h : Nat → Nat) (cs : Nat → ClassId) (sz : Nat) (I : Nat → Int32) (L : Nat → Int64) (A : Nat → Nat → Int32) (Q : Nat → Nat → Int64) : Met l yX10_isColumn wsX10_isColumn ({ frames := 1, cells := 0, slots := 0, locals := 25 }) (va_Pc [.ref (h 0), .int (nI 1)] (xPre (dC, dI) (wD_177 h cs gI gL gA gQ) (tysA cs) sz)) (va_Qi (fun (r : Int32) (u : RS) => (r = nI 1) ∧ u = (gI, gL, gA, gQ)) (xB (dC, dI) (tysA cs) (va_A (wD_177 h cs gI gL gA gQ) sz) (fun u : RS => wD_177 h cs u.1 u.2.1 u.2.2.1 u.2.2.2)) (va_A (wD_177 h cs gI gL gA gQ) sz)) 0 0 (va_A (wD_177 h cs gI gL gA gQ) sz) := by
  refine Met.ofW (cc := cX10_isColumn) (maxL := 2) (ret := (some .boolean)) (by decide) rfl ?_
  intro p e s m args below meth c s₁ B hml hv
  obtain ⟨rfl, hsz, hP, hK, hD0, hN⟩ := hv
  have hx := B.exec
  have hb := B.bytes
  have hr := B.returns
  have hts := atoms_spec (ws := wsX10_isColumn) B.pre
  have hown : s.vm.findClass RX10 = some m.cls := findClass_of_methodNamed B.named
  have hlocks := B.notSynchronized
  subst hsz
  have hD := hD0.self (sz := s.heap.size)
  generalize hAe : va_A (wD_177 h cs gI gL gA gQ) s.heap.size = A0 at hD ⊢
  have hA : ∀ q : Nat, s.heap.size ≤ q → A0 q := fun q h => by rw [← hAe]; exact Or.inr h
  have hl := lv_entry ([.ref (h 0), .int (nI 1)]) (n := 2) (Nat.le_of_ble_eq_true rfl)
  rw [lg_entry_eq]
  generalize (lg_sl ([.ref (h 0), .int (nI 1)]) ++ List.replicate (2 - (lg_sl ([.ref (h 0), .int (nI 1)])).length) Slot.unset).toArray = ls at hl ⊢
  have hl : lv_has ls 2 [(0, .ref (h 0)), (1, .int (nI 1))] := hl
  generalize hH : s.heap = H at hP ⊢
  have hS : va_S A0 s.heap H [] := by rw [← hH]; exact va_S.rf
  have hinX10 : ∀ w ∈ wsX100, w ∈ wsX10_isColumn := by decide +kernel
  refine lv_iload_n hx hb dX10_isColumn_0 rfl (lv_at hl 1 rfl) ?_
  refine lv_i2l (v := (1 : Int64)) hx hb dX10_isColumn_1 (by decide +kernel) ?_
  refine lv_lconst (v := 0) hx hb dX10_isColumn_2 rfl ?_
  refine lv_aload_n hx hb dX10_isColumn_3 rfl (lv_at hl 0 rfl) ?_
  refine va_get (D := (dC, dI)) (ci := 10) (v := .int (gI 1)) (C := RX10) (T := TX10) (N := 28) hx hb hts hinX10 hown hK hP 0 rfl rfl 1 (by decide) (hts (.fieldLink RX10 13 "MixedWordsModel" "columns" "I") (by decide +kernel)) (fun _ h9 => h9) rfl dX10_isColumn_4 ?_
  refine xt_i (y := nI 2) (by decide +kernel) ?_
  refine lv_iconst (v := nI 1) hx hb dX10_isColumn_7 (by decide) ?_
  refine lv_isub hx hb dX10_isColumn_8 ?_
  refine xt_i (y := nI 1) (by decide +kernel) ?_
  refine lv_i2l (v := (1 : Int64)) hx hb dX10_isColumn_9 (by decide +kernel) ?_
  refine xj_i (wc := ([] : va_W)) (wr := (wD_177 h cs gI gL gA gQ)) hP hD hS hA [] [0, 1, 2, 3, 4, 5, 6, 7, 8, 9, 10, 11, 12, 13, 14, 15, 16] rfl rfl (by decide) (by decide) (va_runS (As := [.long (1 : Int64), .long (0 : Int64), .long (1 : Int64)]) (rest := []) ⟨hx, hb, hml, hown, hts⟩ (a_X10_in_206 l dC dI h cs H.size I L A Q ) (va_cwS 3 hts gX10_isColumn_X10_in rfl rfl rfl (by decide +kernel) ⟨Nat.le_of_ble_eq_true rfl, Nat.le_of_ble_eq_true rfl⟩) (xpS (wc := ([] : va_W)) hP hD hK hN [] rfl (by decide) _) rfl rfl hl.1 rfl (lv_room (Nat.le_of_ble_eq_true rfl)) dX10_isColumn_10 ⟨Nat.zero_le _, Nat.zero_le _⟩) (fun r_2 u_1 H locs hw hP hD hS => ?_)
  obtain ⟨hf_3, rfl⟩ := hw
  have hP : va_P (dC, dI) vwCl (wD_177 h cs gI gL gA gQ) H := hP
  have hD : va_D A0 (wD_177 h cs gI gL gA gQ) := hD
  obtain rfl := hf_3
  exact xr_z (v := (nI 1)) hx hb hr hlocks hK hS dX10_isColumn_13 (rfl) (gI, gL, gA, gQ) ⟨rfl, rfl⟩ hP hD
set_option maxHeartbeats 4000000 in
set_option maxRecDepth 100000 in
theorem f_X10_soft (l : Launch) (dC : Nat → ClassId) (dI : Nat → Nat → Nat) (h : Nat → Nat) (cs : Nat → ClassId) (sz : Nat) (I : Nat → Int32) (L : Nat → Int64) (A : Nat → Nat → Int32) (Q : Nat → Nat → Int64) (x y : Int32) : Met l yX10_soft wsX10_soft ({ frames := 3, cells := 0, slots := 0, locals := 70 }) (va_Pc [.ref (h 0), .int x, .int y] (xPre (dC, dI) (rW h cs gI gL gA gQ) (tysA cs) sz)) (va_Qi (fun (r : Int32) (u : RS) => (r = an_soft x y) ∧ u = (gI, gL, gA, gQ)) (xB (dC, dI) (tysA cs) (va_A (rW h cs gI gL gA gQ) sz) (fun u : RS => rW h cs u.1 u.2.1 u.2.2.1 u.2.2.2)) (va_A (rW h cs gI gL gA gQ) sz)) 0 0 (va_A (rW h cs gI gL gA gQ) sz) := by
  refine Met.ofW (cc := cX10_soft) (maxL := 6) (ret := (some .int)) (by decide) rfl ?_
  intro p e s m args below meth c s₁ B hml hv
  obtain ⟨rfl, hsz, hP, hK, hD0, hN⟩ := hv
  have hx := B.exec
  have hb := B.bytes
  have hr := B.returns
  have hts := atoms_spec (ws := wsX10_soft) B.pre
  have hown : s.vm.findClass RX10 = some m.cls := findClass_of_methodNamed B.named
  have hlocks := B.notSynchronized
  subst hsz
  have hD := hD0.self (sz := s.heap.size)
  generalize hAe : va_A (rW h cs gI gL gA gQ) s.heap.size = A0 at hD ⊢
  have hA : ∀ q : Nat, s.heap.size ≤ q → A0 q := fun q h => by rw [← hAe]; exact Or.inr h
  have hl := lv_entry ([.ref (h 0), .int x, .int y]) (n := 6) (Nat.le_of_ble_eq_true rfl)
  rw [lg_entry_eq]
  generalize (lg_sl ([.ref (h 0), .int x, .int y]) ++ List.replicate (6 - (lg_sl ([.ref (h 0), .int x, .int y])).length) Slot.unset).toArray = ls at hl ⊢
  have hl : lv_has ls 6 [(0, .ref (h 0)), (1, .int x), (2, .int y)] := hl
  generalize hH : s.heap = H at hP ⊢
  have hS : va_S A0 s.heap H [] := by rw [← hH]; exact va_S.rf
  have hinX10 : ∀ w ∈ wsX100, w ∈ wsX10_soft := by decide +kernel
  rcases splR x 0 1 (by decide) with ⟨i_x, h_x, g_x, rfl⟩ | hz_x
  · skip
    rcases (show i_x = 0 ∨ i_x = 1 by omega) with rfl | rfl
    · skip
      rcases splR y 0 0 (by decide) with ⟨i_y, h_y, g_y, rfl⟩ | hz_y
      · skip
        rcases (show i_y = 0 by omega) with rfl
        · skip
          refine lv_aload_n hx hb dX10_soft_0 rfl (lv_at hl 0 rfl) ?_
          refine lv_iload_n hx hb dX10_soft_1 rfl (lv_at hl 1 rfl) ?_
          refine xj_i (wc := (wD_177 h cs gI gL gA gQ)) (wr := ([] : va_W)) hP hD hS hA [0, 1, 2, 3, 4, 5, 6, 7, 8, 9, 10, 11, 12, 13, 14, 15, 16] [] rfl rfl (by decide) (by decide) (va_runV (As := [.int (nI 0)]) (rest := []) ⟨hx, hb, hml, hown, hts⟩ (a_X10_isColumn_200 l dC dI h cs H.size gI gL gA gQ ) (cwV 1 hts gX10_soft_X10_isColumn rfl rfl rfl (by decide +kernel) ⟨Nat.le_of_ble_eq_true rfl, Nat.le_of_ble_eq_true rfl⟩) (xpV (wc := (wD_177 h cs gI gL gA gQ)) hP hD hK hN [0, 1, 2, 3, 4, 5, 6, 7, 8, 9, 10, 11, 12, 13, 14, 15, 16] rfl (by decide) 0 (ci := 10) rfl rfl _) rfl rfl hl.1 rfl (lv_room (Nat.le_of_ble_eq_true rfl)) dX10_soft_2 ⟨Nat.zero_le _, Nat.zero_le _⟩) (fun r_2 u_1 H locs hw hP hD hS => ?_)
          obtain ⟨hf_3, rfl⟩ := hw
          have hP : va_P (dC, dI) vwCl (rW h cs gI gL gA gQ) H := hP
          have hD : va_D A0 (rW h cs gI gL gA gQ) := hD
          obtain rfl := hf_3
          refine lv_if_eq (tgt := 26) hx hb dX10_soft_5 (by decide) (fun c9 => False.elim (by revert c9; decide +kernel)) (fun _ => ?_)
          refine lv_iload_n hx hb dX10_soft_8 rfl (lv_at hl 2 rfl) ?_
          refine lv_i2l (v := (0 : Int64)) hx hb dX10_soft_9 (by decide +kernel) ?_
          refine lv_lconst (v := 0) hx hb dX10_soft_10 rfl ?_
          refine lv_aload_n hx hb dX10_soft_11 rfl (lv_at hl 0 rfl) ?_
          refine va_get (D := (dC, dI)) (ci := 10) (v := .int (gI 2)) (C := RX10) (T := TX10) (N := 28) hx hb hts hinX10 hown hK hP 0 rfl rfl 2 (by decide) (hts (.fieldLink RX10 16 "MixedWordsModel" "a" "I") (by decide +kernel)) (fun _ h9 => h9) rfl dX10_soft_12 ?_
          refine xt_i (y := nI 2) (by decide +kernel) ?_
          refine lv_iconst (v := nI 2) hx hb dX10_soft_15 (by decide) ?_
          refine lv_idiv hx hb dX10_soft_16 (by decide +kernel) ?_
          refine xt_i (y := nI 1) (by decide +kernel) ?_
          refine lv_iconst (v := nI 1) hx hb dX10_soft_17 (by decide) ?_
          refine lv_isub hx hb dX10_soft_18 ?_
          refine xt_i (y := nI 0) (by decide +kernel) ?_
          refine lv_i2l (v := (0 : Int64)) hx hb dX10_soft_19 (by decide +kernel) ?_
          refine xj_i (wc := ([] : va_W)) (wr := (rW h cs gI gL gA gQ)) hP hD hS hA [] [0, 1, 2, 3, 4, 5, 6, 7, 8, 9, 10, 11, 12, 13, 14, 15, 16] rfl rfl (by decide) (by decide) (va_runS (As := [.long (0 : Int64), .long (0 : Int64), .long (0 : Int64)]) (rest := []) ⟨hx, hb, hml, hown, hts⟩ (a_X10_in_202 l dC dI h cs H.size I L A Q ) (va_cwS 3 hts gX10_soft_X10_in rfl rfl rfl (by decide +kernel) ⟨Nat.le_of_ble_eq_true rfl, Nat.le_of_ble_eq_true rfl⟩) (xpS (wc := ([] : va_W)) hP hD hK hN [] rfl (by decide) _) rfl rfl hl.1 rfl (lv_room (Nat.le_of_ble_eq_true rfl)) dX10_soft_20 ⟨Nat.zero_le _, Nat.zero_le _⟩) (fun r_5 u_4 H locs hw hP hD hS => ?_)
          obtain ⟨hf_6, rfl⟩ := hw
          have hP : va_P (dC, dI) vwCl (rW h cs gI gL gA gQ) H := hP
          have hD : va_D A0 (rW h cs gI gL gA gQ) := hD
          obtain rfl := hf_6
          refine lv_if_ne (tgt := 29) hx hb dX10_soft_23 (by decide) (fun _ => ?_) (fun c9 => False.elim (by revert c9; decide +kernel))
          refine lv_aload_n hx hb dX10_soft_29 rfl (lv_at hl 0 rfl) ?_
          refine xj_v (wc := (wD_177 h cs gI gL gA gQ)) (wr := ([] : va_W)) hP hD hS hA [0, 1, 2, 3, 4, 5, 6, 7, 8, 9, 10, 11, 12, 13, 14, 15, 16] [] rfl rfl (by decide) (by decide) (va_runV (As := []) (rest := []) ⟨hx, hb, hml, hown, hts⟩ (a_X10_offAll_199 l dC dI h cs H.size gI gL gA gQ ) (cwV 0 hts gX10_soft_X10_offAll rfl rfl rfl (by decide +kernel) ⟨Nat.le_of_ble_eq_true rfl, Nat.le_of_ble_eq_true rfl⟩) (xpV (wc := (wD_177 h cs gI gL gA gQ)) hP hD hK hN [0, 1, 2, 3, 4, 5, 6, 7, 8, 9, 10, 11, 12, 13, 14, 15, 16] rfl (by decide) 0 (ci := 10) rfl rfl _) rfl rfl hl.1 rfl (lv_room (Nat.le_of_ble_eq_true rfl)) dX10_soft_30 ⟨Nat.zero_le _, Nat.zero_le _⟩) (fun u_7 H locs hw hP hD hS => ?_)
          obtain ⟨hf_9, rfl⟩ := hw
          have hP : va_P (dC, dI) vwCl (rW h cs gI gL gA gQ) H := hP
          have hD : va_D A0 (rW h cs gI gL gA gQ) := hD
          refine lv_iconst (v := (-1)) hx hb dX10_soft_33 (by decide) ?_
          refine lv_istore_n (lv' := [(3, .int (-1)), (0, .ref (h 0)), (1, .int (nI 0)), (2, .int (nI 0))]) hx hb dX10_soft_34 rfl hl (by decide) rfl (fun ls hl => ?_)
          refine lv_iconst (v := (-1)) hx hb dX10_soft_35 (by decide) ?_
          refine lv_istore (lv' := [(4, .int (-1)), (3, .int (-1)), (0, .ref (h 0)), (1, .int (nI 0)), (2, .int (nI 0))]) hx hb dX10_soft_36 hl (by decide) rfl (fun ls hl => ?_)
          refine lv_iconst (v := nI 0) hx hb dX10_soft_38 (by decide) ?_
          refine lv_istore (lv' := [(5, .int (nI 0)), (4, .int (-1)), (3, .int (-1)), (0, .ref (h 0)), (1, .int (nI 0)), (2, .int (nI 0))]) hx hb dX10_soft_39 hl (by decide) rfl (fun ls hl => ?_)
          refine lv_iload hx hb dX10_soft_41 (lv_at hl 0 rfl) ?_
          refine lv_aload_n hx hb dX10_soft_43 rfl (lv_at hl 3 rfl) ?_
          refine xj_i (wc := (wD_177 h cs gI gL gA gQ)) (wr := ([] : va_W)) hP hD hS hA [0, 1, 2, 3, 4, 5, 6, 7, 8, 9, 10, 11, 12, 13, 14, 15, 16] [] rfl rfl (by decide) (by decide) (va_runV (As := []) (rest := [.int (nI 0)]) ⟨hx, hb, hml, hown, hts⟩ (a_X10_words_179 l dC dI h cs H.size gI gL gA gQ ) (cwV 0 hts gX10_soft_X10_words rfl rfl rfl (by decide +kernel) ⟨Nat.le_of_ble_eq_true rfl, Nat.le_of_ble_eq_true rfl⟩) (xpV (wc := (wD_177 h cs gI gL gA gQ)) hP hD hK hN [0, 1, 2, 3, 4, 5, 6, 7, 8, 9, 10, 11, 12, 13, 14, 15, 16] rfl (by decide) 0 (ci := 10) rfl rfl _) rfl rfl hl.1 rfl (lv_room (Nat.le_of_ble_eq_true rfl)) dX10_soft_44 ⟨Nat.zero_le _, Nat.zero_le _⟩) (fun r_11 u_10 H locs hw hP hD hS => ?_)
          obtain ⟨hf_12, rfl⟩ := hw
          have hP : va_P (dC, dI) vwCl (rW h cs gI gL gA gQ) H := hP
          have hD : va_D A0 (rW h cs gI gL gA gQ) := hD
          obtain rfl := hf_12
          refine lv_icmp_ge (tgt := 132) hx hb dX10_soft_47 (by decide) (fun c9 => False.elim (by revert c9; decide +kernel)) (fun _ => ?_)
          refine lv_aload_n hx hb dX10_soft_50 rfl (lv_at hl 3 rfl) ?_
          refine lv_aload_n hx hb dX10_soft_51 rfl (lv_at hl 3 rfl) ?_
          refine lv_iload hx hb dX10_soft_52 (lv_at hl 0 rfl) ?_
          refine lv_iload_n hx hb dX10_soft_54 rfl (lv_at hl 4 rfl) ?_
          refine xj_i (wc := (wD_177 h cs gI gL gA gQ)) (wr := ([] : va_W)) hP hD hS hA [0, 1, 2, 3, 4, 5, 6, 7, 8, 9, 10, 11, 12, 13, 14, 15, 16] [] rfl rfl (by decide) (by decide) (va_runV (As := [.int (nI 0), .int (nI 0)]) (rest := [.ref (h 0)]) ⟨hx, hb, hml, hown, hts⟩ (a_X10_letter_182 l dC dI h cs H.size gI gL gA gQ ) (cwV 2 hts gX10_soft_X10_letter rfl rfl rfl (by decide +kernel) ⟨Nat.le_of_ble_eq_true rfl, Nat.le_of_ble_eq_true rfl⟩) (xpV (wc := (wD_177 h cs gI gL gA gQ)) hP hD hK hN [0, 1, 2, 3, 4, 5, 6, 7, 8, 9, 10, 11, 12, 13, 14, 15, 16] rfl (by decide) 0 (ci := 10) rfl rfl _) rfl rfl hl.1 rfl (lv_room (Nat.le_of_ble_eq_true rfl)) dX10_soft_55 ⟨Nat.zero_le _, Nat.zero_le _⟩) (fun r_14 u_13 H locs hw hP hD hS => ?_)
          obtain ⟨hf_15, rfl⟩ := hw
          have hP : va_P (dC, dI) vwCl (rW h cs gI gL gA gQ) H := hP
          have hD : va_D A0 (rW h cs gI gL gA gQ) := hD
          obtain rfl := hf_15
          refine lv_iload_n hx hb dX10_soft_58 rfl (lv_at hl 5 rfl) ?_
          refine xj_i (wc := (wD_177 h cs gI gL gA gQ)) (wr := ([] : va_W)) hP hD hS hA [0, 1, 2, 3, 4, 5, 6, 7, 8, 9, 10, 11, 12, 13, 14, 15, 16] [] rfl rfl (by decide) (by decide) (va_runV (As := [.int (-1 : Int32), .int (nI 0)]) (rest := []) ⟨hx, hb, hml, hown, hts⟩ (a_X10_bit_203 l dC dI h cs H.size gI gL gA gQ ) (cwV 2 hts gX10_soft_X10_bit rfl rfl rfl (by decide +kernel) ⟨Nat.le_of_ble_eq_true rfl, Nat.le_of_ble_eq_true rfl⟩) (xpV (wc := (wD_177 h cs gI gL gA gQ)) hP hD hK hN [0, 1, 2, 3, 4, 5, 6, 7, 8, 9, 10, 11, 12, 13, 14, 15, 16] rfl (by decide) 0 (ci := 10) rfl rfl _) rfl rfl hl.1 rfl (lv_room (Nat.le_of_ble_eq_true rfl)) dX10_soft_59 ⟨Nat.zero_le _, Nat.zero_le _⟩) (fun r_17 u_16 H locs hw hP hD hS => ?_)
          obtain ⟨hf_18, rfl⟩ := hw
          have hP : va_P (dC, dI) vwCl (rW h cs gI gL gA gQ) H := hP
          have hD : va_D A0 (rW h cs gI gL gA gQ) := hD
          obtain rfl := hf_18
          refine lv_if_ne (tgt := 95) hx hb dX10_soft_62 (by decide) (fun c9 => False.elim (by revert c9; decide +kernel)) (fun _ => ?_)
          refine lv_iload_n hx hb dX10_soft_65 rfl (lv_at hl 2 rfl) ?_
          refine lv_if_lt (tgt := 80) hx hb dX10_soft_66 (by decide) (fun _ => ?_) (fun c9 => False.elim (by revert c9; decide +kernel))
          refine lv_aload_n hx hb dX10_soft_80 rfl (lv_at hl 3 rfl) ?_
          refine va_get (D := (dC, dI)) (ci := 10) (v := .ref (h 16)) (C := RX10) (T := TX10) (N := 28) hx hb hts hinX10 hown hK hP 0 rfl rfl 16 (by decide) (hts (.fieldLink RX10 38 "MixedWordsModel" "offs" "[I") (by decide +kernel)) (fun _ h9 => h9) rfl dX10_soft_81 ?_
          refine lv_iload hx hb dX10_soft_84 (lv_at hl 0 rfl) ?_
          refine xa_iald hx hb hK hP 7 0 rfl rfl (by omega) (by decide) dX10_soft_86 ?_
          refine xt_i (y := nI 0) (by decide +kernel) ?_
          refine lv_goto (tgt := 91) hx hb dX10_soft_87 (by decide) ?_
          refine lv_istore_n (lv' := [(3, .int (nI 0)), (5, .int (nI 0)), (4, .int (-1)), (0, .ref (h 0)), (1, .int (nI 0)), (2, .int (nI 0))]) hx hb dX10_soft_91 rfl hl (by decide) rfl (fun ls hl => ?_)
          refine lv_goto (tgt := 126) hx hb dX10_soft_92 (by decide) ?_
          refine lv_iinc (v := nI 1) (lv' := [(5, .int (nI 1)), (3, .int (nI 0)), (4, .int (-1)), (0, .ref (h 0)), (1, .int (nI 0)), (2, .int (nI 0))]) hx hb dX10_soft_126 hl (k := 1) rfl (by decide +kernel) (by decide) rfl (fun ls hl => ?_)
          refine lv_goto (tgt := 41) hx hb dX10_soft_129 (by decide) ?_
          refine lv_iload hx hb dX10_soft_41 (lv_at hl 0 rfl) ?_
          refine lv_aload_n hx hb dX10_soft_43 rfl (lv_at hl 3 rfl) ?_
          refine xj_i (wc := (wD_177 h cs gI gL gA gQ)) (wr := ([] : va_W)) hP hD hS hA [0, 1, 2, 3, 4, 5, 6, 7, 8, 9, 10, 11, 12, 13, 14, 15, 16] [] rfl rfl (by decide) (by decide) (va_runV (As := []) (rest := [.int (nI 1)]) ⟨hx, hb, hml, hown, hts⟩ (a_X10_words_179 l dC dI h cs H.size gI gL gA gQ ) (cwV 0 hts gX10_soft_X10_words rfl rfl rfl (by decide +kernel) ⟨Nat.le_of_ble_eq_true rfl, Nat.le_of_ble_eq_true rfl⟩) (xpV (wc := (wD_177 h cs gI gL gA gQ)) hP hD hK hN [0, 1, 2, 3, 4, 5, 6, 7, 8, 9, 10, 11, 12, 13, 14, 15, 16] rfl (by decide) 0 (ci := 10) rfl rfl _) rfl rfl hl.1 rfl (lv_room (Nat.le_of_ble_eq_true rfl)) dX10_soft_44 ⟨Nat.zero_le _, Nat.zero_le _⟩) (fun r_20 u_19 H locs hw hP hD hS => ?_)
          obtain ⟨hf_21, rfl⟩ := hw
          have hP : va_P (dC, dI) vwCl (rW h cs gI gL gA gQ) H := hP
          have hD : va_D A0 (rW h cs gI gL gA gQ) := hD
          obtain rfl := hf_21
          refine lv_icmp_ge (tgt := 132) hx hb dX10_soft_47 (by decide) (fun c9 => False.elim (by revert c9; decide +kernel)) (fun _ => ?_)
          refine lv_aload_n hx hb dX10_soft_50 rfl (lv_at hl 3 rfl) ?_
          refine lv_aload_n hx hb dX10_soft_51 rfl (lv_at hl 3 rfl) ?_
          refine lv_iload hx hb dX10_soft_52 (lv_at hl 0 rfl) ?_
          refine lv_iload_n hx hb dX10_soft_54 rfl (lv_at hl 4 rfl) ?_
          refine xj_i (wc := (wD_177 h cs gI gL gA gQ)) (wr := ([] : va_W)) hP hD hS hA [0, 1, 2, 3, 4, 5, 6, 7, 8, 9, 10, 11, 12, 13, 14, 15, 16] [] rfl rfl (by decide) (by decide) (va_runV (As := [.int (nI 1), .int (nI 0)]) (rest := [.ref (h 0)]) ⟨hx, hb, hml, hown, hts⟩ (a_X10_letter_187 l dC dI h cs H.size gI gL gA gQ ) (cwV 2 hts gX10_soft_X10_letter rfl rfl rfl (by decide +kernel) ⟨Nat.le_of_ble_eq_true rfl, Nat.le_of_ble_eq_true rfl⟩) (xpV (wc := (wD_177 h cs gI gL gA gQ)) hP hD hK hN [0, 1, 2, 3, 4, 5, 6, 7, 8, 9, 10, 11, 12, 13, 14, 15, 16] rfl (by decide) 0 (ci := 10) rfl rfl _) rfl rfl hl.1 rfl (lv_room (Nat.le_of_ble_eq_true rfl)) dX10_soft_55 ⟨Nat.zero_le _, Nat.zero_le _⟩) (fun r_23 u_22 H locs hw hP hD hS => ?_)
          obtain ⟨hf_24, rfl⟩ := hw
          have hP : va_P (dC, dI) vwCl (rW h cs gI gL gA gQ) H := hP
          have hD : va_D A0 (rW h cs gI gL gA gQ) := hD
          obtain rfl := hf_24
          refine lv_iload_n hx hb dX10_soft_58 rfl (lv_at hl 5 rfl) ?_
          refine xj_i (wc := (wD_177 h cs gI gL gA gQ)) (wr := ([] : va_W)) hP hD hS hA [0, 1, 2, 3, 4, 5, 6, 7, 8, 9, 10, 11, 12, 13, 14, 15, 16] [] rfl rfl (by decide) (by decide) (va_runV (As := [.int (-1 : Int32), .int (nI 0)]) (rest := []) ⟨hx, hb, hml, hown, hts⟩ (a_X10_bit_203 l dC dI h cs H.size gI gL gA gQ ) (cwV 2 hts gX10_soft_X10_bit rfl rfl rfl (by decide +kernel) ⟨Nat.le_of_ble_eq_true rfl, Nat.le_of_ble_eq_true rfl⟩) (xpV (wc := (wD_177 h cs gI gL gA gQ)) hP hD hK hN [0, 1, 2, 3, 4, 5, 6, 7, 8, 9, 10, 11, 12, 13, 14, 15, 16] rfl (by decide) 0 (ci := 10) rfl rfl _) rfl rfl hl.1 rfl (lv_room (Nat.le_of_ble_eq_true rfl)) dX10_soft_59 ⟨Nat.zero_le _, Nat.zero_le _⟩) (fun r_26 u_25 H locs hw hP hD hS => ?_)
          obtain ⟨hf_27, rfl⟩ := hw
          have hP : va_P (dC, dI) vwCl (rW h cs gI gL gA gQ) H := hP
          have hD : va_D A0 (rW h cs gI gL gA gQ) := hD
          obtain rfl := hf_27
          refine lv_if_ne (tgt := 95) hx hb dX10_soft_62 (by decide) (fun c9 => False.elim (by revert c9; decide +kernel)) (fun _ => ?_)
          refine lv_iload_n hx hb dX10_soft_65 rfl (lv_at hl 1 rfl) ?_
          refine lv_if_lt (tgt := 80) hx hb dX10_soft_66 (by decide) (fun c9 => False.elim (by revert c9; decide +kernel)) (fun _ => ?_)
          refine lv_aload_n hx hb dX10_soft_69 rfl (lv_at hl 3 rfl) ?_
          refine va_get (D := (dC, dI)) (ci := 10) (v := .ref (h 16)) (C := RX10) (T := TX10) (N := 28) hx hb hts hinX10 hown hK hP 0 rfl rfl 16 (by decide) (hts (.fieldLink RX10 38 "MixedWordsModel" "offs" "[I") (by decide +kernel)) (fun _ h9 => h9) rfl dX10_soft_70 ?_
          refine lv_iload hx hb dX10_soft_73 (lv_at hl 0 rfl) ?_
          refine xa_iald hx hb hK hP 7 0 rfl rfl (by omega) (by decide) dX10_soft_75 ?_
          refine xt_i (y := nI 0) (by decide +kernel) ?_
          refine lv_iload_n hx hb dX10_soft_76 rfl (lv_at hl 1 rfl) ?_
          refine lv_icmp_ge (tgt := 90) hx hb dX10_soft_77 (by decide) (fun _ => ?_) (fun c9 => False.elim (by revert c9; decide +kernel))
          refine lv_iload_n hx hb dX10_soft_90 rfl (lv_at hl 1 rfl) ?_
          refine lv_istore_n (lv' := [(3, .int (nI 0)), (5, .int (nI 1)), (4, .int (-1)), (0, .ref (h 0)), (1, .int (nI 0)), (2, .int (nI 0))]) hx hb dX10_soft_91 rfl hl (by decide) rfl (fun ls hl => ?_)
          refine lv_goto (tgt := 126) hx hb dX10_soft_92 (by decide) ?_
          refine lv_iinc (v := nI 2) (lv' := [(5, .int (nI 2)), (3, .int (nI 0)), (4, .int (-1)), (0, .ref (h 0)), (1, .int (nI 0)), (2, .int (nI 0))]) hx hb dX10_soft_126 hl (k := 1) rfl (by decide +kernel) (by decide) rfl (fun ls hl => ?_)
          refine lv_goto (tgt := 41) hx hb dX10_soft_129 (by decide) ?_
          refine lv_iload hx hb dX10_soft_41 (lv_at hl 0 rfl) ?_
          refine lv_aload_n hx hb dX10_soft_43 rfl (lv_at hl 3 rfl) ?_
          refine xj_i (wc := (wD_177 h cs gI gL gA gQ)) (wr := ([] : va_W)) hP hD hS hA [0, 1, 2, 3, 4, 5, 6, 7, 8, 9, 10, 11, 12, 13, 14, 15, 16] [] rfl rfl (by decide) (by decide) (va_runV (As := []) (rest := [.int (nI 2)]) ⟨hx, hb, hml, hown, hts⟩ (a_X10_words_179 l dC dI h cs H.size gI gL gA gQ ) (cwV 0 hts gX10_soft_X10_words rfl rfl rfl (by decide +kernel) ⟨Nat.le_of_ble_eq_true rfl, Nat.le_of_ble_eq_true rfl⟩) (xpV (wc := (wD_177 h cs gI gL gA gQ)) hP hD hK hN [0, 1, 2, 3, 4, 5, 6, 7, 8, 9, 10, 11, 12, 13, 14, 15, 16] rfl (by decide) 0 (ci := 10) rfl rfl _) rfl rfl hl.1 rfl (lv_room (Nat.le_of_ble_eq_true rfl)) dX10_soft_44 ⟨Nat.zero_le _, Nat.zero_le _⟩) (fun r_29 u_28 H locs hw hP hD hS => ?_)
          obtain ⟨hf_30, rfl⟩ := hw
          have hP : va_P (dC, dI) vwCl (rW h cs gI gL gA gQ) H := hP
          have hD : va_D A0 (rW h cs gI gL gA gQ) := hD
          obtain rfl := hf_30
          refine lv_icmp_ge (tgt := 132) hx hb dX10_soft_47 (by decide) (fun c9 => False.elim (by revert c9; decide +kernel)) (fun _ => ?_)
          refine lv_aload_n hx hb dX10_soft_50 rfl (lv_at hl 3 rfl) ?_
          refine lv_aload_n hx hb dX10_soft_51 rfl (lv_at hl 3 rfl) ?_
          refine lv_iload hx hb dX10_soft_52 (lv_at hl 0 rfl) ?_
          refine lv_iload_n hx hb dX10_soft_54 rfl (lv_at hl 4 rfl) ?_
          refine xj_i (wc := (wD_177 h cs gI gL gA gQ)) (wr := ([] : va_W)) hP hD hS hA [0, 1, 2, 3, 4, 5, 6, 7, 8, 9, 10, 11, 12, 13, 14, 15, 16] [] rfl rfl (by decide) (by decide) (va_runV (As := [.int (nI 2), .int (nI 0)]) (rest := [.ref (h 0)]) ⟨hx, hb, hml, hown, hts⟩ (a_X10_letter_192 l dC dI h cs H.size gI gL gA gQ ) (cwV 2 hts gX10_soft_X10_letter rfl rfl rfl (by decide +kernel) ⟨Nat.le_of_ble_eq_true rfl, Nat.le_of_ble_eq_true rfl⟩) (xpV (wc := (wD_177 h cs gI gL gA gQ)) hP hD hK hN [0, 1, 2, 3, 4, 5, 6, 7, 8, 9, 10, 11, 12, 13, 14, 15, 16] rfl (by decide) 0 (ci := 10) rfl rfl _) rfl rfl hl.1 rfl (lv_room (Nat.le_of_ble_eq_true rfl)) dX10_soft_55 ⟨Nat.zero_le _, Nat.zero_le _⟩) (fun r_32 u_31 H locs hw hP hD hS => ?_)
          obtain ⟨hf_33, rfl⟩ := hw
          have hP : va_P (dC, dI) vwCl (rW h cs gI gL gA gQ) H := hP
          have hD : va_D A0 (rW h cs gI gL gA gQ) := hD
          obtain rfl := hf_33
          refine lv_iload_n hx hb dX10_soft_58 rfl (lv_at hl 5 rfl) ?_
          refine xj_i (wc := (wD_177 h cs gI gL gA gQ)) (wr := ([] : va_W)) hP hD hS hA [0, 1, 2, 3, 4, 5, 6, 7, 8, 9, 10, 11, 12, 13, 14, 15, 16] [] rfl rfl (by decide) (by decide) (va_runV (As := [.int (nI 1), .int (nI 0)]) (rest := []) ⟨hx, hb, hml, hown, hts⟩ (a_X10_bit_204 l dC dI h cs H.size gI gL gA gQ ) (cwV 2 hts gX10_soft_X10_bit rfl rfl rfl (by decide +kernel) ⟨Nat.le_of_ble_eq_true rfl, Nat.le_of_ble_eq_true rfl⟩) (xpV (wc := (wD_177 h cs gI gL gA gQ)) hP hD hK hN [0, 1, 2, 3, 4, 5, 6, 7, 8, 9, 10, 11, 12, 13, 14, 15, 16] rfl (by decide) 0 (ci := 10) rfl rfl _) rfl rfl hl.1 rfl (lv_room (Nat.le_of_ble_eq_true rfl)) dX10_soft_59 ⟨Nat.zero_le _, Nat.zero_le _⟩) (fun r_35 u_34 H locs hw hP hD hS => ?_)
          obtain ⟨hf_36, rfl⟩ := hw
          have hP : va_P (dC, dI) vwCl (rW h cs gI gL gA gQ) H := hP
          have hD : va_D A0 (rW h cs gI gL gA gQ) := hD
          obtain rfl := hf_36
          refine lv_if_ne (tgt := 95) hx hb dX10_soft_62 (by decide) (fun _ => ?_) (fun c9 => False.elim (by revert c9; decide +kernel))
          refine lv_iload hx hb dX10_soft_95 (lv_at hl 2 rfl) ?_
          refine lv_if_lt (tgt := 112) hx hb dX10_soft_97 (by decide) (fun _ => ?_) (fun c9 => False.elim (by revert c9; decide +kernel))
          refine lv_aload_n hx hb dX10_soft_112 rfl (lv_at hl 3 rfl) ?_
          refine va_get (D := (dC, dI)) (ci := 10) (v := .ref (h 16)) (C := RX10) (T := TX10) (N := 28) hx hb hts hinX10 hown hK hP 0 rfl rfl 16 (by decide) (hts (.fieldLink RX10 38 "MixedWordsModel" "offs" "[I") (by decide +kernel)) (fun _ h9 => h9) rfl dX10_soft_113 ?_
          refine lv_iload hx hb dX10_soft_116 (lv_at hl 0 rfl) ?_
          refine xa_iald hx hb hK hP 7 0 rfl rfl (by omega) (by decide) dX10_soft_118 ?_
          refine xt_i (y := nI 0) (by decide +kernel) ?_
          refine lv_goto (tgt := 124) hx hb dX10_soft_119 (by decide) ?_
          refine lv_istore (lv' := [(4, .int (nI 0)), (5, .int (nI 2)), (3, .int (nI 0)), (0, .ref (h 0)), (1, .int (nI 0)), (2, .int (nI 0))]) hx hb dX10_soft_124 hl (by decide) rfl (fun ls hl => ?_)
          refine lv_iinc (v := nI 3) (lv' := [(5, .int (nI 3)), (4, .int (nI 0)), (3, .int (nI 0)), (0, .ref (h 0)), (1, .int (nI 0)), (2, .int (nI 0))]) hx hb dX10_soft_126 hl (k := 1) rfl (by decide +kernel) (by decide) rfl (fun ls hl => ?_)
          refine lv_goto (tgt := 41) hx hb dX10_soft_129 (by decide) ?_
          refine lv_iload hx hb dX10_soft_41 (lv_at hl 0 rfl) ?_
          refine lv_aload_n hx hb dX10_soft_43 rfl (lv_at hl 3 rfl) ?_
          refine xj_i (wc := (wD_177 h cs gI gL gA gQ)) (wr := ([] : va_W)) hP hD hS hA [0, 1, 2, 3, 4, 5, 6, 7, 8, 9, 10, 11, 12, 13, 14, 15, 16] [] rfl rfl (by decide) (by decide) (va_runV (As := []) (rest := [.int (nI 3)]) ⟨hx, hb, hml, hown, hts⟩ (a_X10_words_179 l dC dI h cs H.size gI gL gA gQ ) (cwV 0 hts gX10_soft_X10_words rfl rfl rfl (by decide +kernel) ⟨Nat.le_of_ble_eq_true rfl, Nat.le_of_ble_eq_true rfl⟩) (xpV (wc := (wD_177 h cs gI gL gA gQ)) hP hD hK hN [0, 1, 2, 3, 4, 5, 6, 7, 8, 9, 10, 11, 12, 13, 14, 15, 16] rfl (by decide) 0 (ci := 10) rfl rfl _) rfl rfl hl.1 rfl (lv_room (Nat.le_of_ble_eq_true rfl)) dX10_soft_44 ⟨Nat.zero_le _, Nat.zero_le _⟩) (fun r_38 u_37 H locs hw hP hD hS => ?_)
          obtain ⟨hf_39, rfl⟩ := hw
          have hP : va_P (dC, dI) vwCl (rW h cs gI gL gA gQ) H := hP
          have hD : va_D A0 (rW h cs gI gL gA gQ) := hD
          obtain rfl := hf_39
          refine lv_icmp_ge (tgt := 132) hx hb dX10_soft_47 (by decide) (fun c9 => False.elim (by revert c9; decide +kernel)) (fun _ => ?_)
          refine lv_aload_n hx hb dX10_soft_50 rfl (lv_at hl 3 rfl) ?_
          refine lv_aload_n hx hb dX10_soft_51 rfl (lv_at hl 3 rfl) ?_
          refine lv_iload hx hb dX10_soft_52 (lv_at hl 0 rfl) ?_
          refine lv_iload_n hx hb dX10_soft_54 rfl (lv_at hl 4 rfl) ?_
          refine xj_i (wc := (wD_177 h cs gI gL gA gQ)) (wr := ([] : va_W)) hP hD hS hA [0, 1, 2, 3, 4, 5, 6, 7, 8, 9, 10, 11, 12, 13, 14, 15, 16] [] rfl rfl (by decide) (by decide) (va_runV (As := [.int (nI 3), .int (nI 0)]) (rest := [.ref (h 0)]) ⟨hx, hb, hml, hown, hts⟩ (a_X10_letter_197 l dC dI h cs H.size gI gL gA gQ ) (cwV 2 hts gX10_soft_X10_letter rfl rfl rfl (by decide +kernel) ⟨Nat.le_of_ble_eq_true rfl, Nat.le_of_ble_eq_true rfl⟩) (xpV (wc := (wD_177 h cs gI gL gA gQ)) hP hD hK hN [0, 1, 2, 3, 4, 5, 6, 7, 8, 9, 10, 11, 12, 13, 14, 15, 16] rfl (by decide) 0 (ci := 10) rfl rfl _) rfl rfl hl.1 rfl (lv_room (Nat.le_of_ble_eq_true rfl)) dX10_soft_55 ⟨Nat.zero_le _, Nat.zero_le _⟩) (fun r_41 u_40 H locs hw hP hD hS => ?_)
          obtain ⟨hf_42, rfl⟩ := hw
          have hP : va_P (dC, dI) vwCl (rW h cs gI gL gA gQ) H := hP
          have hD : va_D A0 (rW h cs gI gL gA gQ) := hD
          obtain rfl := hf_42
          refine lv_iload_n hx hb dX10_soft_58 rfl (lv_at hl 5 rfl) ?_
          refine xj_i (wc := (wD_177 h cs gI gL gA gQ)) (wr := ([] : va_W)) hP hD hS hA [0, 1, 2, 3, 4, 5, 6, 7, 8, 9, 10, 11, 12, 13, 14, 15, 16] [] rfl rfl (by decide) (by decide) (va_runV (As := [.int (nI 1), .int (nI 0)]) (rest := []) ⟨hx, hb, hml, hown, hts⟩ (a_X10_bit_204 l dC dI h cs H.size gI gL gA gQ ) (cwV 2 hts gX10_soft_X10_bit rfl rfl rfl (by decide +kernel) ⟨Nat.le_of_ble_eq_true rfl, Nat.le_of_ble_eq_true rfl⟩) (xpV (wc := (wD_177 h cs gI gL gA gQ)) hP hD hK hN [0, 1, 2, 3, 4, 5, 6, 7, 8, 9, 10, 11, 12, 13, 14, 15, 16] rfl (by decide) 0 (ci := 10) rfl rfl _) rfl rfl hl.1 rfl (lv_room (Nat.le_of_ble_eq_true rfl)) dX10_soft_59 ⟨Nat.zero_le _, Nat.zero_le _⟩) (fun r_44 u_43 H locs hw hP hD hS => ?_)
          obtain ⟨hf_45, rfl⟩ := hw
          have hP : va_P (dC, dI) vwCl (rW h cs gI gL gA gQ) H := hP
          have hD : va_D A0 (rW h cs gI gL gA gQ) := hD
          obtain rfl := hf_45
          refine lv_if_ne (tgt := 95) hx hb dX10_soft_62 (by decide) (fun _ => ?_) (fun c9 => False.elim (by revert c9; decide +kernel))
          refine lv_iload hx hb dX10_soft_95 (lv_at hl 1 rfl) ?_
          refine lv_if_lt (tgt := 112) hx hb dX10_soft_97 (by decide) (fun c9 => False.elim (by revert c9; decide +kernel)) (fun _ => ?_)
          refine lv_aload_n hx hb dX10_soft_100 rfl (lv_at hl 3 rfl) ?_
          refine va_get (D := (dC, dI)) (ci := 10) (v := .ref (h 16)) (C := RX10) (T := TX10) (N := 28) hx hb hts hinX10 hown hK hP 0 rfl rfl 16 (by decide) (hts (.fieldLink RX10 38 "MixedWordsModel" "offs" "[I") (by decide +kernel)) (fun _ h9 => h9) rfl dX10_soft_101 ?_
          refine lv_iload hx hb dX10_soft_104 (lv_at hl 0 rfl) ?_
          refine xa_iald hx hb hK hP 7 0 rfl rfl (by omega) (by decide) dX10_soft_106 ?_
          refine xt_i (y := nI 0) (by decide +kernel) ?_
          refine lv_iload hx hb dX10_soft_107 (lv_at hl 1 rfl) ?_
          refine lv_icmp_ge (tgt := 122) hx hb dX10_soft_109 (by decide) (fun _ => ?_) (fun c9 => False.elim (by revert c9; decide +kernel))
          refine lv_iload hx hb dX10_soft_122 (lv_at hl 1 rfl) ?_
          refine lv_istore (lv' := [(4, .int (nI 0)), (5, .int (nI 3)), (3, .int (nI 0)), (0, .ref (h 0)), (1, .int (nI 0)), (2, .int (nI 0))]) hx hb dX10_soft_124 hl (by decide) rfl (fun ls hl => ?_)
          refine lv_iinc (v := nI 4) (lv' := [(5, .int (nI 4)), (4, .int (nI 0)), (3, .int (nI 0)), (0, .ref (h 0)), (1, .int (nI 0)), (2, .int (nI 0))]) hx hb dX10_soft_126 hl (k := 1) rfl (by decide +kernel) (by decide) rfl (fun ls hl => ?_)
          refine lv_goto (tgt := 41) hx hb dX10_soft_129 (by decide) ?_
          refine lv_iload hx hb dX10_soft_41 (lv_at hl 0 rfl) ?_
          refine lv_aload_n hx hb dX10_soft_43 rfl (lv_at hl 3 rfl) ?_
          refine xj_i (wc := (wD_177 h cs gI gL gA gQ)) (wr := ([] : va_W)) hP hD hS hA [0, 1, 2, 3, 4, 5, 6, 7, 8, 9, 10, 11, 12, 13, 14, 15, 16] [] rfl rfl (by decide) (by decide) (va_runV (As := []) (rest := [.int (nI 4)]) ⟨hx, hb, hml, hown, hts⟩ (a_X10_words_179 l dC dI h cs H.size gI gL gA gQ ) (cwV 0 hts gX10_soft_X10_words rfl rfl rfl (by decide +kernel) ⟨Nat.le_of_ble_eq_true rfl, Nat.le_of_ble_eq_true rfl⟩) (xpV (wc := (wD_177 h cs gI gL gA gQ)) hP hD hK hN [0, 1, 2, 3, 4, 5, 6, 7, 8, 9, 10, 11, 12, 13, 14, 15, 16] rfl (by decide) 0 (ci := 10) rfl rfl _) rfl rfl hl.1 rfl (lv_room (Nat.le_of_ble_eq_true rfl)) dX10_soft_44 ⟨Nat.zero_le _, Nat.zero_le _⟩) (fun r_47 u_46 H locs hw hP hD hS => ?_)
          obtain ⟨hf_48, rfl⟩ := hw
          have hP : va_P (dC, dI) vwCl (rW h cs gI gL gA gQ) H := hP
          have hD : va_D A0 (rW h cs gI gL gA gQ) := hD
          obtain rfl := hf_48
          refine lv_icmp_ge (tgt := 132) hx hb dX10_soft_47 (by decide) (fun _ => ?_) (fun c9 => False.elim (by revert c9; decide +kernel))
          refine lv_iload hx hb dX10_soft_132 (lv_at hl 1 rfl) ?_
          refine lv_iload_n hx hb dX10_soft_134 rfl (lv_at hl 2 rfl) ?_
          refine lv_isub hx hb dX10_soft_135 ?_
          refine xt_i (y := nI 0) (by decide +kernel) ?_
          exact xr_i (v := (nI 0)) hx hb hr hlocks hK hS dX10_soft_136 (gI, gL, gA, gQ) ⟨(by decide +kernel), rfl⟩ hP hD
      · skip
        refine lv_aload_n hx hb dX10_soft_0 rfl (lv_at hl 0 rfl) ?_
        refine lv_iload_n hx hb dX10_soft_1 rfl (lv_at hl 1 rfl) ?_
        refine xj_i (wc := (wD_177 h cs gI gL gA gQ)) (wr := ([] : va_W)) hP hD hS hA [0, 1, 2, 3, 4, 5, 6, 7, 8, 9, 10, 11, 12, 13, 14, 15, 16] [] rfl rfl (by decide) (by decide) (va_runV (As := [.int (nI 0)]) (rest := []) ⟨hx, hb, hml, hown, hts⟩ (a_X10_isColumn_200 l dC dI h cs H.size gI gL gA gQ ) (cwV 1 hts gX10_soft_X10_isColumn rfl rfl rfl (by decide +kernel) ⟨Nat.le_of_ble_eq_true rfl, Nat.le_of_ble_eq_true rfl⟩) (xpV (wc := (wD_177 h cs gI gL gA gQ)) hP hD hK hN [0, 1, 2, 3, 4, 5, 6, 7, 8, 9, 10, 11, 12, 13, 14, 15, 16] rfl (by decide) 0 (ci := 10) rfl rfl _) rfl rfl hl.1 rfl (lv_room (Nat.le_of_ble_eq_true rfl)) dX10_soft_2 ⟨Nat.zero_le _, Nat.zero_le _⟩) (fun r_50 u_49 H locs hw hP hD hS => ?_)
        obtain ⟨hf_51, rfl⟩ := hw
        have hP : va_P (dC, dI) vwCl (rW h cs gI gL gA gQ) H := hP
        have hD : va_D A0 (rW h cs gI gL gA gQ) := hD
        obtain rfl := hf_51
        refine lv_if_eq (tgt := 26) hx hb dX10_soft_5 (by decide) (fun c9 => False.elim (by revert c9; decide +kernel)) (fun _ => ?_)
        refine lv_iload_n hx hb dX10_soft_8 rfl (lv_at hl 2 rfl) ?_
        refine lv_i2l (v := y.toInt64) hx hb dX10_soft_9 rfl ?_
        refine lv_lconst (v := 0) hx hb dX10_soft_10 rfl ?_
        refine lv_aload_n hx hb dX10_soft_11 rfl (lv_at hl 0 rfl) ?_
        refine va_get (D := (dC, dI)) (ci := 10) (v := .int (gI 2)) (C := RX10) (T := TX10) (N := 28) hx hb hts hinX10 hown hK hP 0 rfl rfl 2 (by decide) (hts (.fieldLink RX10 16 "MixedWordsModel" "a" "I") (by decide +kernel)) (fun _ h9 => h9) rfl dX10_soft_12 ?_
        refine xt_i (y := nI 2) (by decide +kernel) ?_
        refine lv_iconst (v := nI 2) hx hb dX10_soft_15 (by decide) ?_
        refine lv_idiv hx hb dX10_soft_16 (by decide +kernel) ?_
        refine xt_i (y := nI 1) (by decide +kernel) ?_
        refine lv_iconst (v := nI 1) hx hb dX10_soft_17 (by decide) ?_
        refine lv_isub hx hb dX10_soft_18 ?_
        refine xt_i (y := nI 0) (by decide +kernel) ?_
        refine lv_i2l (v := (0 : Int64)) hx hb dX10_soft_19 (by decide +kernel) ?_
        refine xj_i (wc := ([] : va_W)) (wr := (rW h cs gI gL gA gQ)) hP hD hS hA [] [0, 1, 2, 3, 4, 5, 6, 7, 8, 9, 10, 11, 12, 13, 14, 15, 16] rfl rfl (by decide) (by decide) (va_runS (As := [.long y.toInt64, .long (0 : Int64), .long (0 : Int64)]) (rest := []) ⟨hx, hb, hml, hown, hts⟩ (k_X10_in l dC dI h cs H.size I L A Q y.toInt64 (0 : Int64) (0 : Int64)) (va_cwS 3 hts gX10_soft_X10_in rfl rfl rfl (by decide +kernel) ⟨Nat.le_of_ble_eq_true rfl, Nat.le_of_ble_eq_true rfl⟩) (xpS (wc := ([] : va_W)) hP hD hK hN [] rfl (by decide) _) rfl rfl hl.1 rfl (lv_room (Nat.le_of_ble_eq_true rfl)) dX10_soft_20 ⟨Nat.zero_le _, Nat.zero_le _⟩) (fun r_53 u_52 H locs hw hP hD hS => ?_)
        obtain ⟨hf_54, rfl⟩ := hw
        have hP : va_P (dC, dI) vwCl (rW h cs gI gL gA gQ) H := hP
        have hD : va_D A0 (rW h cs gI gL gA gQ) := hD
        rcases in_Z (a := 0) (b := 0) (by decide +kernel) (by decide +kernel) hf_54 with ⟨rfl, za_y, zb_y⟩ | ⟨rfl, -⟩
        · skip
          exact absurd hz_y (by omega)
        · skip
          refine lv_if_ne (tgt := 29) hx hb dX10_soft_23 (by decide) (fun c9 => False.elim (by revert c9; decide +kernel)) (fun _ => ?_)
          refine lv_ldc (v := (-100000001)) hx hb hown (hts (.constant RX10 168 (-100000001)) (by decide +kernel)) dX10_soft_26 ?_
          exact xr_i (v := (-100000001 : Int32)) hx hb hr hlocks hK hS dX10_soft_28 (gI, gL, gA, gQ) ⟨(by unfold an_soft; rw [if_neg (by omega)]), rfl⟩ hP hD
    · skip
      rcases splR y 0 0 (by decide) with ⟨i_y, h_y, g_y, rfl⟩ | hz_y
      · skip
        rcases (show i_y = 0 by omega) with rfl
        · skip
          refine lv_aload_n hx hb dX10_soft_0 rfl (lv_at hl 0 rfl) ?_
          refine lv_iload_n hx hb dX10_soft_1 rfl (lv_at hl 1 rfl) ?_
          refine xj_i (wc := (wD_177 h cs gI gL gA gQ)) (wr := ([] : va_W)) hP hD hS hA [0, 1, 2, 3, 4, 5, 6, 7, 8, 9, 10, 11, 12, 13, 14, 15, 16] [] rfl rfl (by decide) (by decide) (va_runV (As := [.int (nI 1)]) (rest := []) ⟨hx, hb, hml, hown, hts⟩ (a_X10_isColumn_205 l dC dI h cs H.size gI gL gA gQ ) (cwV 1 hts gX10_soft_X10_isColumn rfl rfl rfl (by decide +kernel) ⟨Nat.le_of_ble_eq_true rfl, Nat.le_of_ble_eq_true rfl⟩) (xpV (wc := (wD_177 h cs gI gL gA gQ)) hP hD hK hN [0, 1, 2, 3, 4, 5, 6, 7, 8, 9, 10, 11, 12, 13, 14, 15, 16] rfl (by decide) 0 (ci := 10) rfl rfl _) rfl rfl hl.1 rfl (lv_room (Nat.le_of_ble_eq_true rfl)) dX10_soft_2 ⟨Nat.zero_le _, Nat.zero_le _⟩) (fun r_56 u_55 H locs hw hP hD hS => ?_)
          obtain ⟨hf_57, rfl⟩ := hw
          have hP : va_P (dC, dI) vwCl (rW h cs gI gL gA gQ) H := hP
          have hD : va_D A0 (rW h cs gI gL gA gQ) := hD
          obtain rfl := hf_57
          refine lv_if_eq (tgt := 26) hx hb dX10_soft_5 (by decide) (fun c9 => False.elim (by revert c9; decide +kernel)) (fun _ => ?_)
          refine lv_iload_n hx hb dX10_soft_8 rfl (lv_at hl 2 rfl) ?_
          refine lv_i2l (v := (0 : Int64)) hx hb dX10_soft_9 (by decide +kernel) ?_
          refine lv_lconst (v := 0) hx hb dX10_soft_10 rfl ?_
          refine lv_aload_n hx hb dX10_soft_11 rfl (lv_at hl 0 rfl) ?_
          refine va_get (D := (dC, dI)) (ci := 10) (v := .int (gI 2)) (C := RX10) (T := TX10) (N := 28) hx hb hts hinX10 hown hK hP 0 rfl rfl 2 (by decide) (hts (.fieldLink RX10 16 "MixedWordsModel" "a" "I") (by decide +kernel)) (fun _ h9 => h9) rfl dX10_soft_12 ?_
          refine xt_i (y := nI 2) (by decide +kernel) ?_
          refine lv_iconst (v := nI 2) hx hb dX10_soft_15 (by decide) ?_
          refine lv_idiv hx hb dX10_soft_16 (by decide +kernel) ?_
          refine xt_i (y := nI 1) (by decide +kernel) ?_
          refine lv_iconst (v := nI 1) hx hb dX10_soft_17 (by decide) ?_
          refine lv_isub hx hb dX10_soft_18 ?_
          refine xt_i (y := nI 0) (by decide +kernel) ?_
          refine lv_i2l (v := (0 : Int64)) hx hb dX10_soft_19 (by decide +kernel) ?_
          refine xj_i (wc := ([] : va_W)) (wr := (rW h cs gI gL gA gQ)) hP hD hS hA [] [0, 1, 2, 3, 4, 5, 6, 7, 8, 9, 10, 11, 12, 13, 14, 15, 16] rfl rfl (by decide) (by decide) (va_runS (As := [.long (0 : Int64), .long (0 : Int64), .long (0 : Int64)]) (rest := []) ⟨hx, hb, hml, hown, hts⟩ (a_X10_in_202 l dC dI h cs H.size I L A Q ) (va_cwS 3 hts gX10_soft_X10_in rfl rfl rfl (by decide +kernel) ⟨Nat.le_of_ble_eq_true rfl, Nat.le_of_ble_eq_true rfl⟩) (xpS (wc := ([] : va_W)) hP hD hK hN [] rfl (by decide) _) rfl rfl hl.1 rfl (lv_room (Nat.le_of_ble_eq_true rfl)) dX10_soft_20 ⟨Nat.zero_le _, Nat.zero_le _⟩) (fun r_59 u_58 H locs hw hP hD hS => ?_)
          obtain ⟨hf_60, rfl⟩ := hw
          have hP : va_P (dC, dI) vwCl (rW h cs gI gL gA gQ) H := hP
          have hD : va_D A0 (rW h cs gI gL gA gQ) := hD
          obtain rfl := hf_60
          refine lv_if_ne (tgt := 29) hx hb dX10_soft_23 (by decide) (fun _ => ?_) (fun c9 => False.elim (by revert c9; decide +kernel))
          refine lv_aload_n hx hb dX10_soft_29 rfl (lv_at hl 0 rfl) ?_
          refine xj_v (wc := (wD_177 h cs gI gL gA gQ)) (wr := ([] : va_W)) hP hD hS hA [0, 1, 2, 3, 4, 5, 6, 7, 8, 9, 10, 11, 12, 13, 14, 15, 16] [] rfl rfl (by decide) (by decide) (va_runV (As := []) (rest := []) ⟨hx, hb, hml, hown, hts⟩ (a_X10_offAll_199 l dC dI h cs H.size gI gL gA gQ ) (cwV 0 hts gX10_soft_X10_offAll rfl rfl rfl (by decide +kernel) ⟨Nat.le_of_ble_eq_true rfl, Nat.le_of_ble_eq_true rfl⟩) (xpV (wc := (wD_177 h cs gI gL gA gQ)) hP hD hK hN [0, 1, 2, 3, 4, 5, 6, 7, 8, 9, 10, 11, 12, 13, 14, 15, 16] rfl (by decide) 0 (ci := 10) rfl rfl _) rfl rfl hl.1 rfl (lv_room (Nat.le_of_ble_eq_true rfl)) dX10_soft_30 ⟨Nat.zero_le _, Nat.zero_le _⟩) (fun u_61 H locs hw hP hD hS => ?_)
          obtain ⟨hf_63, rfl⟩ := hw
          have hP : va_P (dC, dI) vwCl (rW h cs gI gL gA gQ) H := hP
          have hD : va_D A0 (rW h cs gI gL gA gQ) := hD
          refine lv_iconst (v := (-1)) hx hb dX10_soft_33 (by decide) ?_
          refine lv_istore_n (lv' := [(3, .int (-1)), (0, .ref (h 0)), (1, .int (nI 1)), (2, .int (nI 0))]) hx hb dX10_soft_34 rfl hl (by decide) rfl (fun ls hl => ?_)
          refine lv_iconst (v := (-1)) hx hb dX10_soft_35 (by decide) ?_
          refine lv_istore (lv' := [(4, .int (-1)), (3, .int (-1)), (0, .ref (h 0)), (1, .int (nI 1)), (2, .int (nI 0))]) hx hb dX10_soft_36 hl (by decide) rfl (fun ls hl => ?_)
          refine lv_iconst (v := nI 0) hx hb dX10_soft_38 (by decide) ?_
          refine lv_istore (lv' := [(5, .int (nI 0)), (4, .int (-1)), (3, .int (-1)), (0, .ref (h 0)), (1, .int (nI 1)), (2, .int (nI 0))]) hx hb dX10_soft_39 hl (by decide) rfl (fun ls hl => ?_)
          refine lv_iload hx hb dX10_soft_41 (lv_at hl 0 rfl) ?_
          refine lv_aload_n hx hb dX10_soft_43 rfl (lv_at hl 3 rfl) ?_
          refine xj_i (wc := (wD_177 h cs gI gL gA gQ)) (wr := ([] : va_W)) hP hD hS hA [0, 1, 2, 3, 4, 5, 6, 7, 8, 9, 10, 11, 12, 13, 14, 15, 16] [] rfl rfl (by decide) (by decide) (va_runV (As := []) (rest := [.int (nI 0)]) ⟨hx, hb, hml, hown, hts⟩ (a_X10_words_179 l dC dI h cs H.size gI gL gA gQ ) (cwV 0 hts gX10_soft_X10_words rfl rfl rfl (by decide +kernel) ⟨Nat.le_of_ble_eq_true rfl, Nat.le_of_ble_eq_true rfl⟩) (xpV (wc := (wD_177 h cs gI gL gA gQ)) hP hD hK hN [0, 1, 2, 3, 4, 5, 6, 7, 8, 9, 10, 11, 12, 13, 14, 15, 16] rfl (by decide) 0 (ci := 10) rfl rfl _) rfl rfl hl.1 rfl (lv_room (Nat.le_of_ble_eq_true rfl)) dX10_soft_44 ⟨Nat.zero_le _, Nat.zero_le _⟩) (fun r_65 u_64 H locs hw hP hD hS => ?_)
          obtain ⟨hf_66, rfl⟩ := hw
          have hP : va_P (dC, dI) vwCl (rW h cs gI gL gA gQ) H := hP
          have hD : va_D A0 (rW h cs gI gL gA gQ) := hD
          obtain rfl := hf_66
          refine lv_icmp_ge (tgt := 132) hx hb dX10_soft_47 (by decide) (fun c9 => False.elim (by revert c9; decide +kernel)) (fun _ => ?_)
          refine lv_aload_n hx hb dX10_soft_50 rfl (lv_at hl 3 rfl) ?_
          refine lv_aload_n hx hb dX10_soft_51 rfl (lv_at hl 3 rfl) ?_
          refine lv_iload hx hb dX10_soft_52 (lv_at hl 0 rfl) ?_
          refine lv_iload_n hx hb dX10_soft_54 rfl (lv_at hl 4 rfl) ?_
          refine xj_i (wc := (wD_177 h cs gI gL gA gQ)) (wr := ([] : va_W)) hP hD hS hA [0, 1, 2, 3, 4, 5, 6, 7, 8, 9, 10, 11, 12, 13, 14, 15, 16] [] rfl rfl (by decide) (by decide) (va_runV (As := [.int (nI 0), .int (nI 1)]) (rest := [.ref (h 0)]) ⟨hx, hb, hml, hown, hts⟩ (a_X10_letter_183 l dC dI h cs H.size gI gL gA gQ ) (cwV 2 hts gX10_soft_X10_letter rfl rfl rfl (by decide +kernel) ⟨Nat.le_of_ble_eq_true rfl, Nat.le_of_ble_eq_true rfl⟩) (xpV (wc := (wD_177 h cs gI gL gA gQ)) hP hD hK hN [0, 1, 2, 3, 4, 5, 6, 7, 8, 9, 10, 11, 12, 13, 14, 15, 16] rfl (by decide) 0 (ci := 10) rfl rfl _) rfl rfl hl.1 rfl (lv_room (Nat.le_of_ble_eq_true rfl)) dX10_soft_55 ⟨Nat.zero_le _, Nat.zero_le _⟩) (fun r_68 u_67 H locs hw hP hD hS => ?_)
          obtain ⟨hf_69, rfl⟩ := hw
          have hP : va_P (dC, dI) vwCl (rW h cs gI gL gA gQ) H := hP
          have hD : va_D A0 (rW h cs gI gL gA gQ) := hD
          obtain rfl := hf_69
          refine lv_iload_n hx hb dX10_soft_58 rfl (lv_at hl 5 rfl) ?_
          refine xj_i (wc := (wD_177 h cs gI gL gA gQ)) (wr := ([] : va_W)) hP hD hS hA [0, 1, 2, 3, 4, 5, 6, 7, 8, 9, 10, 11, 12, 13, 14, 15, 16] [] rfl rfl (by decide) (by decide) (va_runV (As := [.int (-1 : Int32), .int (nI 0)]) (rest := []) ⟨hx, hb, hml, hown, hts⟩ (a_X10_bit_203 l dC dI h cs H.size gI gL gA gQ ) (cwV 2 hts gX10_soft_X10_bit rfl rfl rfl (by decide +kernel) ⟨Nat.le_of_ble_eq_true rfl, Nat.le_of_ble_eq_true rfl⟩) (xpV (wc := (wD_177 h cs gI gL gA gQ)) hP hD hK hN [0, 1, 2, 3, 4, 5, 6, 7, 8, 9, 10, 11, 12, 13, 14, 15, 16] rfl (by decide) 0 (ci := 10) rfl rfl _) rfl rfl hl.1 rfl (lv_room (Nat.le_of_ble_eq_true rfl)) dX10_soft_59 ⟨Nat.zero_le _, Nat.zero_le _⟩) (fun r_71 u_70 H locs hw hP hD hS => ?_)
          obtain ⟨hf_72, rfl⟩ := hw
          have hP : va_P (dC, dI) vwCl (rW h cs gI gL gA gQ) H := hP
          have hD : va_D A0 (rW h cs gI gL gA gQ) := hD
          obtain rfl := hf_72
          refine lv_if_ne (tgt := 95) hx hb dX10_soft_62 (by decide) (fun c9 => False.elim (by revert c9; decide +kernel)) (fun _ => ?_)
          refine lv_iload_n hx hb dX10_soft_65 rfl (lv_at hl 2 rfl) ?_
          refine lv_if_lt (tgt := 80) hx hb dX10_soft_66 (by decide) (fun _ => ?_) (fun c9 => False.elim (by revert c9; decide +kernel))
          refine lv_aload_n hx hb dX10_soft_80 rfl (lv_at hl 3 rfl) ?_
          refine va_get (D := (dC, dI)) (ci := 10) (v := .ref (h 16)) (C := RX10) (T := TX10) (N := 28) hx hb hts hinX10 hown hK hP 0 rfl rfl 16 (by decide) (hts (.fieldLink RX10 38 "MixedWordsModel" "offs" "[I") (by decide +kernel)) (fun _ h9 => h9) rfl dX10_soft_81 ?_
          refine lv_iload hx hb dX10_soft_84 (lv_at hl 0 rfl) ?_
          refine xa_iald hx hb hK hP 7 0 rfl rfl (by omega) (by decide) dX10_soft_86 ?_
          refine xt_i (y := nI 0) (by decide +kernel) ?_
          refine lv_goto (tgt := 91) hx hb dX10_soft_87 (by decide) ?_
          refine lv_istore_n (lv' := [(3, .int (nI 0)), (5, .int (nI 0)), (4, .int (-1)), (0, .ref (h 0)), (1, .int (nI 1)), (2, .int (nI 0))]) hx hb dX10_soft_91 rfl hl (by decide) rfl (fun ls hl => ?_)
          refine lv_goto (tgt := 126) hx hb dX10_soft_92 (by decide) ?_
          refine lv_iinc (v := nI 1) (lv' := [(5, .int (nI 1)), (3, .int (nI 0)), (4, .int (-1)), (0, .ref (h 0)), (1, .int (nI 1)), (2, .int (nI 0))]) hx hb dX10_soft_126 hl (k := 1) rfl (by decide +kernel) (by decide) rfl (fun ls hl => ?_)
          refine lv_goto (tgt := 41) hx hb dX10_soft_129 (by decide) ?_
          refine lv_iload hx hb dX10_soft_41 (lv_at hl 0 rfl) ?_
          refine lv_aload_n hx hb dX10_soft_43 rfl (lv_at hl 3 rfl) ?_
          refine xj_i (wc := (wD_177 h cs gI gL gA gQ)) (wr := ([] : va_W)) hP hD hS hA [0, 1, 2, 3, 4, 5, 6, 7, 8, 9, 10, 11, 12, 13, 14, 15, 16] [] rfl rfl (by decide) (by decide) (va_runV (As := []) (rest := [.int (nI 1)]) ⟨hx, hb, hml, hown, hts⟩ (a_X10_words_179 l dC dI h cs H.size gI gL gA gQ ) (cwV 0 hts gX10_soft_X10_words rfl rfl rfl (by decide +kernel) ⟨Nat.le_of_ble_eq_true rfl, Nat.le_of_ble_eq_true rfl⟩) (xpV (wc := (wD_177 h cs gI gL gA gQ)) hP hD hK hN [0, 1, 2, 3, 4, 5, 6, 7, 8, 9, 10, 11, 12, 13, 14, 15, 16] rfl (by decide) 0 (ci := 10) rfl rfl _) rfl rfl hl.1 rfl (lv_room (Nat.le_of_ble_eq_true rfl)) dX10_soft_44 ⟨Nat.zero_le _, Nat.zero_le _⟩) (fun r_74 u_73 H locs hw hP hD hS => ?_)
          obtain ⟨hf_75, rfl⟩ := hw
          have hP : va_P (dC, dI) vwCl (rW h cs gI gL gA gQ) H := hP
          have hD : va_D A0 (rW h cs gI gL gA gQ) := hD
          obtain rfl := hf_75
          refine lv_icmp_ge (tgt := 132) hx hb dX10_soft_47 (by decide) (fun c9 => False.elim (by revert c9; decide +kernel)) (fun _ => ?_)
          refine lv_aload_n hx hb dX10_soft_50 rfl (lv_at hl 3 rfl) ?_
          refine lv_aload_n hx hb dX10_soft_51 rfl (lv_at hl 3 rfl) ?_
          refine lv_iload hx hb dX10_soft_52 (lv_at hl 0 rfl) ?_
          refine lv_iload_n hx hb dX10_soft_54 rfl (lv_at hl 4 rfl) ?_
          refine xj_i (wc := (wD_177 h cs gI gL gA gQ)) (wr := ([] : va_W)) hP hD hS hA [0, 1, 2, 3, 4, 5, 6, 7, 8, 9, 10, 11, 12, 13, 14, 15, 16] [] rfl rfl (by decide) (by decide) (va_runV (As := [.int (nI 1), .int (nI 1)]) (rest := [.ref (h 0)]) ⟨hx, hb, hml, hown, hts⟩ (a_X10_letter_188 l dC dI h cs H.size gI gL gA gQ ) (cwV 2 hts gX10_soft_X10_letter rfl rfl rfl (by decide +kernel) ⟨Nat.le_of_ble_eq_true rfl, Nat.le_of_ble_eq_true rfl⟩) (xpV (wc := (wD_177 h cs gI gL gA gQ)) hP hD hK hN [0, 1, 2, 3, 4, 5, 6, 7, 8, 9, 10, 11, 12, 13, 14, 15, 16] rfl (by decide) 0 (ci := 10) rfl rfl _) rfl rfl hl.1 rfl (lv_room (Nat.le_of_ble_eq_true rfl)) dX10_soft_55 ⟨Nat.zero_le _, Nat.zero_le _⟩) (fun r_77 u_76 H locs hw hP hD hS => ?_)
          obtain ⟨hf_78, rfl⟩ := hw
          have hP : va_P (dC, dI) vwCl (rW h cs gI gL gA gQ) H := hP
          have hD : va_D A0 (rW h cs gI gL gA gQ) := hD
          obtain rfl := hf_78
          refine lv_iload_n hx hb dX10_soft_58 rfl (lv_at hl 5 rfl) ?_
          refine xj_i (wc := (wD_177 h cs gI gL gA gQ)) (wr := ([] : va_W)) hP hD hS hA [0, 1, 2, 3, 4, 5, 6, 7, 8, 9, 10, 11, 12, 13, 14, 15, 16] [] rfl rfl (by decide) (by decide) (va_runV (As := [.int (nI 1), .int (nI 0)]) (rest := []) ⟨hx, hb, hml, hown, hts⟩ (a_X10_bit_204 l dC dI h cs H.size gI gL gA gQ ) (cwV 2 hts gX10_soft_X10_bit rfl rfl rfl (by decide +kernel) ⟨Nat.le_of_ble_eq_true rfl, Nat.le_of_ble_eq_true rfl⟩) (xpV (wc := (wD_177 h cs gI gL gA gQ)) hP hD hK hN [0, 1, 2, 3, 4, 5, 6, 7, 8, 9, 10, 11, 12, 13, 14, 15, 16] rfl (by decide) 0 (ci := 10) rfl rfl _) rfl rfl hl.1 rfl (lv_room (Nat.le_of_ble_eq_true rfl)) dX10_soft_59 ⟨Nat.zero_le _, Nat.zero_le _⟩) (fun r_80 u_79 H locs hw hP hD hS => ?_)
          obtain ⟨hf_81, rfl⟩ := hw
          have hP : va_P (dC, dI) vwCl (rW h cs gI gL gA gQ) H := hP
          have hD : va_D A0 (rW h cs gI gL gA gQ) := hD
          obtain rfl := hf_81
          refine lv_if_ne (tgt := 95) hx hb dX10_soft_62 (by decide) (fun _ => ?_) (fun c9 => False.elim (by revert c9; decide +kernel))
          refine lv_iload hx hb dX10_soft_95 (lv_at hl 2 rfl) ?_
          refine lv_if_lt (tgt := 112) hx hb dX10_soft_97 (by decide) (fun _ => ?_) (fun c9 => False.elim (by revert c9; decide +kernel))
          refine lv_aload_n hx hb dX10_soft_112 rfl (lv_at hl 3 rfl) ?_
          refine va_get (D := (dC, dI)) (ci := 10) (v := .ref (h 16)) (C := RX10) (T := TX10) (N := 28) hx hb hts hinX10 hown hK hP 0 rfl rfl 16 (by decide) (hts (.fieldLink RX10 38 "MixedWordsModel" "offs" "[I") (by decide +kernel)) (fun _ h9 => h9) rfl dX10_soft_113 ?_
          refine lv_iload hx hb dX10_soft_116 (lv_at hl 0 rfl) ?_
          refine xa_iald hx hb hK hP 7 0 rfl rfl (by omega) (by decide) dX10_soft_118 ?_
          refine xt_i (y := nI 0) (by decide +kernel) ?_
          refine lv_goto (tgt := 124) hx hb dX10_soft_119 (by decide) ?_
          refine lv_istore (lv' := [(4, .int (nI 0)), (5, .int (nI 1)), (3, .int (nI 0)), (0, .ref (h 0)), (1, .int (nI 1)), (2, .int (nI 0))]) hx hb dX10_soft_124 hl (by decide) rfl (fun ls hl => ?_)
          refine lv_iinc (v := nI 2) (lv' := [(5, .int (nI 2)), (4, .int (nI 0)), (3, .int (nI 0)), (0, .ref (h 0)), (1, .int (nI 1)), (2, .int (nI 0))]) hx hb dX10_soft_126 hl (k := 1) rfl (by decide +kernel) (by decide) rfl (fun ls hl => ?_)
          refine lv_goto (tgt := 41) hx hb dX10_soft_129 (by decide) ?_
          refine lv_iload hx hb dX10_soft_41 (lv_at hl 0 rfl) ?_
          refine lv_aload_n hx hb dX10_soft_43 rfl (lv_at hl 3 rfl) ?_
          refine xj_i (wc := (wD_177 h cs gI gL gA gQ)) (wr := ([] : va_W)) hP hD hS hA [0, 1, 2, 3, 4, 5, 6, 7, 8, 9, 10, 11, 12, 13, 14, 15, 16] [] rfl rfl (by decide) (by decide) (va_runV (As := []) (rest := [.int (nI 2)]) ⟨hx, hb, hml, hown, hts⟩ (a_X10_words_179 l dC dI h cs H.size gI gL gA gQ ) (cwV 0 hts gX10_soft_X10_words rfl rfl rfl (by decide +kernel) ⟨Nat.le_of_ble_eq_true rfl, Nat.le_of_ble_eq_true rfl⟩) (xpV (wc := (wD_177 h cs gI gL gA gQ)) hP hD hK hN [0, 1, 2, 3, 4, 5, 6, 7, 8, 9, 10, 11, 12, 13, 14, 15, 16] rfl (by decide) 0 (ci := 10) rfl rfl _) rfl rfl hl.1 rfl (lv_room (Nat.le_of_ble_eq_true rfl)) dX10_soft_44 ⟨Nat.zero_le _, Nat.zero_le _⟩) (fun r_83 u_82 H locs hw hP hD hS => ?_)
          obtain ⟨hf_84, rfl⟩ := hw
          have hP : va_P (dC, dI) vwCl (rW h cs gI gL gA gQ) H := hP
          have hD : va_D A0 (rW h cs gI gL gA gQ) := hD
          obtain rfl := hf_84
          refine lv_icmp_ge (tgt := 132) hx hb dX10_soft_47 (by decide) (fun c9 => False.elim (by revert c9; decide +kernel)) (fun _ => ?_)
          refine lv_aload_n hx hb dX10_soft_50 rfl (lv_at hl 3 rfl) ?_
          refine lv_aload_n hx hb dX10_soft_51 rfl (lv_at hl 3 rfl) ?_
          refine lv_iload hx hb dX10_soft_52 (lv_at hl 0 rfl) ?_
          refine lv_iload_n hx hb dX10_soft_54 rfl (lv_at hl 4 rfl) ?_
          refine xj_i (wc := (wD_177 h cs gI gL gA gQ)) (wr := ([] : va_W)) hP hD hS hA [0, 1, 2, 3, 4, 5, 6, 7, 8, 9, 10, 11, 12, 13, 14, 15, 16] [] rfl rfl (by decide) (by decide) (va_runV (As := [.int (nI 2), .int (nI 1)]) (rest := [.ref (h 0)]) ⟨hx, hb, hml, hown, hts⟩ (a_X10_letter_193 l dC dI h cs H.size gI gL gA gQ ) (cwV 2 hts gX10_soft_X10_letter rfl rfl rfl (by decide +kernel) ⟨Nat.le_of_ble_eq_true rfl, Nat.le_of_ble_eq_true rfl⟩) (xpV (wc := (wD_177 h cs gI gL gA gQ)) hP hD hK hN [0, 1, 2, 3, 4, 5, 6, 7, 8, 9, 10, 11, 12, 13, 14, 15, 16] rfl (by decide) 0 (ci := 10) rfl rfl _) rfl rfl hl.1 rfl (lv_room (Nat.le_of_ble_eq_true rfl)) dX10_soft_55 ⟨Nat.zero_le _, Nat.zero_le _⟩) (fun r_86 u_85 H locs hw hP hD hS => ?_)
          obtain ⟨hf_87, rfl⟩ := hw
          have hP : va_P (dC, dI) vwCl (rW h cs gI gL gA gQ) H := hP
          have hD : va_D A0 (rW h cs gI gL gA gQ) := hD
          obtain rfl := hf_87
          refine lv_iload_n hx hb dX10_soft_58 rfl (lv_at hl 5 rfl) ?_
          refine xj_i (wc := (wD_177 h cs gI gL gA gQ)) (wr := ([] : va_W)) hP hD hS hA [0, 1, 2, 3, 4, 5, 6, 7, 8, 9, 10, 11, 12, 13, 14, 15, 16] [] rfl rfl (by decide) (by decide) (va_runV (As := [.int (-1 : Int32), .int (nI 0)]) (rest := []) ⟨hx, hb, hml, hown, hts⟩ (a_X10_bit_203 l dC dI h cs H.size gI gL gA gQ ) (cwV 2 hts gX10_soft_X10_bit rfl rfl rfl (by decide +kernel) ⟨Nat.le_of_ble_eq_true rfl, Nat.le_of_ble_eq_true rfl⟩) (xpV (wc := (wD_177 h cs gI gL gA gQ)) hP hD hK hN [0, 1, 2, 3, 4, 5, 6, 7, 8, 9, 10, 11, 12, 13, 14, 15, 16] rfl (by decide) 0 (ci := 10) rfl rfl _) rfl rfl hl.1 rfl (lv_room (Nat.le_of_ble_eq_true rfl)) dX10_soft_59 ⟨Nat.zero_le _, Nat.zero_le _⟩) (fun r_89 u_88 H locs hw hP hD hS => ?_)
          obtain ⟨hf_90, rfl⟩ := hw
          have hP : va_P (dC, dI) vwCl (rW h cs gI gL gA gQ) H := hP
          have hD : va_D A0 (rW h cs gI gL gA gQ) := hD
          obtain rfl := hf_90
          refine lv_if_ne (tgt := 95) hx hb dX10_soft_62 (by decide) (fun c9 => False.elim (by revert c9; decide +kernel)) (fun _ => ?_)
          refine lv_iload_n hx hb dX10_soft_65 rfl (lv_at hl 2 rfl) ?_
          refine lv_if_lt (tgt := 80) hx hb dX10_soft_66 (by decide) (fun c9 => False.elim (by revert c9; decide +kernel)) (fun _ => ?_)
          refine lv_aload_n hx hb dX10_soft_69 rfl (lv_at hl 3 rfl) ?_
          refine va_get (D := (dC, dI)) (ci := 10) (v := .ref (h 16)) (C := RX10) (T := TX10) (N := 28) hx hb hts hinX10 hown hK hP 0 rfl rfl 16 (by decide) (hts (.fieldLink RX10 38 "MixedWordsModel" "offs" "[I") (by decide +kernel)) (fun _ h9 => h9) rfl dX10_soft_70 ?_
          refine lv_iload hx hb dX10_soft_73 (lv_at hl 0 rfl) ?_
          refine xa_iald hx hb hK hP 7 0 rfl rfl (by omega) (by decide) dX10_soft_75 ?_
          refine xt_i (y := nI 0) (by decide +kernel) ?_
          refine lv_iload_n hx hb dX10_soft_76 rfl (lv_at hl 2 rfl) ?_
          refine lv_icmp_ge (tgt := 90) hx hb dX10_soft_77 (by decide) (fun _ => ?_) (fun c9 => False.elim (by revert c9; decide +kernel))
          refine lv_iload_n hx hb dX10_soft_90 rfl (lv_at hl 2 rfl) ?_
          refine lv_istore_n (lv' := [(3, .int (nI 0)), (5, .int (nI 2)), (4, .int (nI 0)), (0, .ref (h 0)), (1, .int (nI 1)), (2, .int (nI 0))]) hx hb dX10_soft_91 rfl hl (by decide) rfl (fun ls hl => ?_)
          refine lv_goto (tgt := 126) hx hb dX10_soft_92 (by decide) ?_
          refine lv_iinc (v := nI 3) (lv' := [(5, .int (nI 3)), (3, .int (nI 0)), (4, .int (nI 0)), (0, .ref (h 0)), (1, .int (nI 1)), (2, .int (nI 0))]) hx hb dX10_soft_126 hl (k := 1) rfl (by decide +kernel) (by decide) rfl (fun ls hl => ?_)
          refine lv_goto (tgt := 41) hx hb dX10_soft_129 (by decide) ?_
          refine lv_iload hx hb dX10_soft_41 (lv_at hl 0 rfl) ?_
          refine lv_aload_n hx hb dX10_soft_43 rfl (lv_at hl 3 rfl) ?_
          refine xj_i (wc := (wD_177 h cs gI gL gA gQ)) (wr := ([] : va_W)) hP hD hS hA [0, 1, 2, 3, 4, 5, 6, 7, 8, 9, 10, 11, 12, 13, 14, 15, 16] [] rfl rfl (by decide) (by decide) (va_runV (As := []) (rest := [.int (nI 3)]) ⟨hx, hb, hml, hown, hts⟩ (a_X10_words_179 l dC dI h cs H.size gI gL gA gQ ) (cwV 0 hts gX10_soft_X10_words rfl rfl rfl (by decide +kernel) ⟨Nat.le_of_ble_eq_true rfl, Nat.le_of_ble_eq_true rfl⟩) (xpV (wc := (wD_177 h cs gI gL gA gQ)) hP hD hK hN [0, 1, 2, 3, 4, 5, 6, 7, 8, 9, 10, 11, 12, 13, 14, 15, 16] rfl (by decide) 0 (ci := 10) rfl rfl _) rfl rfl hl.1 rfl (lv_room (Nat.le_of_ble_eq_true rfl)) dX10_soft_44 ⟨Nat.zero_le _, Nat.zero_le _⟩) (fun r_92 u_91 H locs hw hP hD hS => ?_)
          obtain ⟨hf_93, rfl⟩ := hw
          have hP : va_P (dC, dI) vwCl (rW h cs gI gL gA gQ) H := hP
          have hD : va_D A0 (rW h cs gI gL gA gQ) := hD
          obtain rfl := hf_93
          refine lv_icmp_ge (tgt := 132) hx hb dX10_soft_47 (by decide) (fun c9 => False.elim (by revert c9; decide +kernel)) (fun _ => ?_)
          refine lv_aload_n hx hb dX10_soft_50 rfl (lv_at hl 3 rfl) ?_
          refine lv_aload_n hx hb dX10_soft_51 rfl (lv_at hl 3 rfl) ?_
          refine lv_iload hx hb dX10_soft_52 (lv_at hl 0 rfl) ?_
          refine lv_iload_n hx hb dX10_soft_54 rfl (lv_at hl 4 rfl) ?_
          refine xj_i (wc := (wD_177 h cs gI gL gA gQ)) (wr := ([] : va_W)) hP hD hS hA [0, 1, 2, 3, 4, 5, 6, 7, 8, 9, 10, 11, 12, 13, 14, 15, 16] [] rfl rfl (by decide) (by decide) (va_runV (As := [.int (nI 3), .int (nI 1)]) (rest := [.ref (h 0)]) ⟨hx, hb, hml, hown, hts⟩ (a_X10_letter_198 l dC dI h cs H.size gI gL gA gQ ) (cwV 2 hts gX10_soft_X10_letter rfl rfl rfl (by decide +kernel) ⟨Nat.le_of_ble_eq_true rfl, Nat.le_of_ble_eq_true rfl⟩) (xpV (wc := (wD_177 h cs gI gL gA gQ)) hP hD hK hN [0, 1, 2, 3, 4, 5, 6, 7, 8, 9, 10, 11, 12, 13, 14, 15, 16] rfl (by decide) 0 (ci := 10) rfl rfl _) rfl rfl hl.1 rfl (lv_room (Nat.le_of_ble_eq_true rfl)) dX10_soft_55 ⟨Nat.zero_le _, Nat.zero_le _⟩) (fun r_95 u_94 H locs hw hP hD hS => ?_)
          obtain ⟨hf_96, rfl⟩ := hw
          have hP : va_P (dC, dI) vwCl (rW h cs gI gL gA gQ) H := hP
          have hD : va_D A0 (rW h cs gI gL gA gQ) := hD
          obtain rfl := hf_96
          refine lv_iload_n hx hb dX10_soft_58 rfl (lv_at hl 5 rfl) ?_
          refine xj_i (wc := (wD_177 h cs gI gL gA gQ)) (wr := ([] : va_W)) hP hD hS hA [0, 1, 2, 3, 4, 5, 6, 7, 8, 9, 10, 11, 12, 13, 14, 15, 16] [] rfl rfl (by decide) (by decide) (va_runV (As := [.int (nI 1), .int (nI 0)]) (rest := []) ⟨hx, hb, hml, hown, hts⟩ (a_X10_bit_204 l dC dI h cs H.size gI gL gA gQ ) (cwV 2 hts gX10_soft_X10_bit rfl rfl rfl (by decide +kernel) ⟨Nat.le_of_ble_eq_true rfl, Nat.le_of_ble_eq_true rfl⟩) (xpV (wc := (wD_177 h cs gI gL gA gQ)) hP hD hK hN [0, 1, 2, 3, 4, 5, 6, 7, 8, 9, 10, 11, 12, 13, 14, 15, 16] rfl (by decide) 0 (ci := 10) rfl rfl _) rfl rfl hl.1 rfl (lv_room (Nat.le_of_ble_eq_true rfl)) dX10_soft_59 ⟨Nat.zero_le _, Nat.zero_le _⟩) (fun r_98 u_97 H locs hw hP hD hS => ?_)
          obtain ⟨hf_99, rfl⟩ := hw
          have hP : va_P (dC, dI) vwCl (rW h cs gI gL gA gQ) H := hP
          have hD : va_D A0 (rW h cs gI gL gA gQ) := hD
          obtain rfl := hf_99
          refine lv_if_ne (tgt := 95) hx hb dX10_soft_62 (by decide) (fun _ => ?_) (fun c9 => False.elim (by revert c9; decide +kernel))
          refine lv_iload hx hb dX10_soft_95 (lv_at hl 2 rfl) ?_
          refine lv_if_lt (tgt := 112) hx hb dX10_soft_97 (by decide) (fun c9 => False.elim (by revert c9; decide +kernel)) (fun _ => ?_)
          refine lv_aload_n hx hb dX10_soft_100 rfl (lv_at hl 3 rfl) ?_
          refine va_get (D := (dC, dI)) (ci := 10) (v := .ref (h 16)) (C := RX10) (T := TX10) (N := 28) hx hb hts hinX10 hown hK hP 0 rfl rfl 16 (by decide) (hts (.fieldLink RX10 38 "MixedWordsModel" "offs" "[I") (by decide +kernel)) (fun _ h9 => h9) rfl dX10_soft_101 ?_
          refine lv_iload hx hb dX10_soft_104 (lv_at hl 0 rfl) ?_
          refine xa_iald hx hb hK hP 7 0 rfl rfl (by omega) (by decide) dX10_soft_106 ?_
          refine xt_i (y := nI 0) (by decide +kernel) ?_
          refine lv_iload hx hb dX10_soft_107 (lv_at hl 2 rfl) ?_
          refine lv_icmp_ge (tgt := 122) hx hb dX10_soft_109 (by decide) (fun _ => ?_) (fun c9 => False.elim (by revert c9; decide +kernel))
          refine lv_iload hx hb dX10_soft_122 (lv_at hl 2 rfl) ?_
          refine lv_istore (lv' := [(4, .int (nI 0)), (5, .int (nI 3)), (3, .int (nI 0)), (0, .ref (h 0)), (1, .int (nI 1)), (2, .int (nI 0))]) hx hb dX10_soft_124 hl (by decide) rfl (fun ls hl => ?_)
          refine lv_iinc (v := nI 4) (lv' := [(5, .int (nI 4)), (4, .int (nI 0)), (3, .int (nI 0)), (0, .ref (h 0)), (1, .int (nI 1)), (2, .int (nI 0))]) hx hb dX10_soft_126 hl (k := 1) rfl (by decide +kernel) (by decide) rfl (fun ls hl => ?_)
          refine lv_goto (tgt := 41) hx hb dX10_soft_129 (by decide) ?_
          refine lv_iload hx hb dX10_soft_41 (lv_at hl 0 rfl) ?_
          refine lv_aload_n hx hb dX10_soft_43 rfl (lv_at hl 3 rfl) ?_
          refine xj_i (wc := (wD_177 h cs gI gL gA gQ)) (wr := ([] : va_W)) hP hD hS hA [0, 1, 2, 3, 4, 5, 6, 7, 8, 9, 10, 11, 12, 13, 14, 15, 16] [] rfl rfl (by decide) (by decide) (va_runV (As := []) (rest := [.int (nI 4)]) ⟨hx, hb, hml, hown, hts⟩ (a_X10_words_179 l dC dI h cs H.size gI gL gA gQ ) (cwV 0 hts gX10_soft_X10_words rfl rfl rfl (by decide +kernel) ⟨Nat.le_of_ble_eq_true rfl, Nat.le_of_ble_eq_true rfl⟩) (xpV (wc := (wD_177 h cs gI gL gA gQ)) hP hD hK hN [0, 1, 2, 3, 4, 5, 6, 7, 8, 9, 10, 11, 12, 13, 14, 15, 16] rfl (by decide) 0 (ci := 10) rfl rfl _) rfl rfl hl.1 rfl (lv_room (Nat.le_of_ble_eq_true rfl)) dX10_soft_44 ⟨Nat.zero_le _, Nat.zero_le _⟩) (fun r_101 u_100 H locs hw hP hD hS => ?_)
          obtain ⟨hf_102, rfl⟩ := hw
          have hP : va_P (dC, dI) vwCl (rW h cs gI gL gA gQ) H := hP
          have hD : va_D A0 (rW h cs gI gL gA gQ) := hD
          obtain rfl := hf_102
          refine lv_icmp_ge (tgt := 132) hx hb dX10_soft_47 (by decide) (fun _ => ?_) (fun c9 => False.elim (by revert c9; decide +kernel))
          refine lv_iload hx hb dX10_soft_132 (lv_at hl 1 rfl) ?_
          refine lv_iload_n hx hb dX10_soft_134 rfl (lv_at hl 2 rfl) ?_
          refine lv_isub hx hb dX10_soft_135 ?_
          refine xt_i (y := nI 0) (by decide +kernel) ?_
          exact xr_i (v := (nI 0)) hx hb hr hlocks hK hS dX10_soft_136 (gI, gL, gA, gQ) ⟨(by decide +kernel), rfl⟩ hP hD
      · skip
        refine lv_aload_n hx hb dX10_soft_0 rfl (lv_at hl 0 rfl) ?_
        refine lv_iload_n hx hb dX10_soft_1 rfl (lv_at hl 1 rfl) ?_
        refine xj_i (wc := (wD_177 h cs gI gL gA gQ)) (wr := ([] : va_W)) hP hD hS hA [0, 1, 2, 3, 4, 5, 6, 7, 8, 9, 10, 11, 12, 13, 14, 15, 16] [] rfl rfl (by decide) (by decide) (va_runV (As := [.int (nI 1)]) (rest := []) ⟨hx, hb, hml, hown, hts⟩ (a_X10_isColumn_205 l dC dI h cs H.size gI gL gA gQ ) (cwV 1 hts gX10_soft_X10_isColumn rfl rfl rfl (by decide +kernel) ⟨Nat.le_of_ble_eq_true rfl, Nat.le_of_ble_eq_true rfl⟩) (xpV (wc := (wD_177 h cs gI gL gA gQ)) hP hD hK hN [0, 1, 2, 3, 4, 5, 6, 7, 8, 9, 10, 11, 12, 13, 14, 15, 16] rfl (by decide) 0 (ci := 10) rfl rfl _) rfl rfl hl.1 rfl (lv_room (Nat.le_of_ble_eq_true rfl)) dX10_soft_2 ⟨Nat.zero_le _, Nat.zero_le _⟩) (fun r_104 u_103 H locs hw hP hD hS => ?_)
        obtain ⟨hf_105, rfl⟩ := hw
        have hP : va_P (dC, dI) vwCl (rW h cs gI gL gA gQ) H := hP
        have hD : va_D A0 (rW h cs gI gL gA gQ) := hD
        obtain rfl := hf_105
        refine lv_if_eq (tgt := 26) hx hb dX10_soft_5 (by decide) (fun c9 => False.elim (by revert c9; decide +kernel)) (fun _ => ?_)
        refine lv_iload_n hx hb dX10_soft_8 rfl (lv_at hl 2 rfl) ?_
        refine lv_i2l (v := y.toInt64) hx hb dX10_soft_9 rfl ?_
        refine lv_lconst (v := 0) hx hb dX10_soft_10 rfl ?_
        refine lv_aload_n hx hb dX10_soft_11 rfl (lv_at hl 0 rfl) ?_
        refine va_get (D := (dC, dI)) (ci := 10) (v := .int (gI 2)) (C := RX10) (T := TX10) (N := 28) hx hb hts hinX10 hown hK hP 0 rfl rfl 2 (by decide) (hts (.fieldLink RX10 16 "MixedWordsModel" "a" "I") (by decide +kernel)) (fun _ h9 => h9) rfl dX10_soft_12 ?_
        refine xt_i (y := nI 2) (by decide +kernel) ?_
        refine lv_iconst (v := nI 2) hx hb dX10_soft_15 (by decide) ?_
        refine lv_idiv hx hb dX10_soft_16 (by decide +kernel) ?_
        refine xt_i (y := nI 1) (by decide +kernel) ?_
        refine lv_iconst (v := nI 1) hx hb dX10_soft_17 (by decide) ?_
        refine lv_isub hx hb dX10_soft_18 ?_
        refine xt_i (y := nI 0) (by decide +kernel) ?_
        refine lv_i2l (v := (0 : Int64)) hx hb dX10_soft_19 (by decide +kernel) ?_
        refine xj_i (wc := ([] : va_W)) (wr := (rW h cs gI gL gA gQ)) hP hD hS hA [] [0, 1, 2, 3, 4, 5, 6, 7, 8, 9, 10, 11, 12, 13, 14, 15, 16] rfl rfl (by decide) (by decide) (va_runS (As := [.long y.toInt64, .long (0 : Int64), .long (0 : Int64)]) (rest := []) ⟨hx, hb, hml, hown, hts⟩ (k_X10_in l dC dI h cs H.size I L A Q y.toInt64 (0 : Int64) (0 : Int64)) (va_cwS 3 hts gX10_soft_X10_in rfl rfl rfl (by decide +kernel) ⟨Nat.le_of_ble_eq_true rfl, Nat.le_of_ble_eq_true rfl⟩) (xpS (wc := ([] : va_W)) hP hD hK hN [] rfl (by decide) _) rfl rfl hl.1 rfl (lv_room (Nat.le_of_ble_eq_true rfl)) dX10_soft_20 ⟨Nat.zero_le _, Nat.zero_le _⟩) (fun r_107 u_106 H locs hw hP hD hS => ?_)
        obtain ⟨hf_108, rfl⟩ := hw
        have hP : va_P (dC, dI) vwCl (rW h cs gI gL gA gQ) H := hP
        have hD : va_D A0 (rW h cs gI gL gA gQ) := hD
        rcases in_Z (a := 0) (b := 0) (by decide +kernel) (by decide +kernel) hf_108 with ⟨rfl, za_y, zb_y⟩ | ⟨rfl, -⟩
        · skip
          exact absurd hz_y (by omega)
        · skip
          refine lv_if_ne (tgt := 29) hx hb dX10_soft_23 (by decide) (fun c9 => False.elim (by revert c9; decide +kernel)) (fun _ => ?_)
          refine lv_ldc (v := (-100000001)) hx hb hown (hts (.constant RX10 168 (-100000001)) (by decide +kernel)) dX10_soft_26 ?_
          exact xr_i (v := (-100000001 : Int32)) hx hb hr hlocks hK hS dX10_soft_28 (gI, gL, gA, gQ) ⟨(by unfold an_soft; rw [if_neg (by omega)]), rfl⟩ hP hD
  · skip
    refine lv_aload_n hx hb dX10_soft_0 rfl (lv_at hl 0 rfl) ?_
    refine lv_iload_n hx hb dX10_soft_1 rfl (lv_at hl 1 rfl) ?_
    refine xj_i (wc := (rW h cs gI gL gA gQ)) (wr := ([] : va_W)) hP hD hS hA [0, 1, 2, 3, 4, 5, 6, 7, 8, 9, 10, 11, 12, 13, 14, 15, 16] [] rfl rfl (by decide) (by decide) (va_runV (As := [.int x]) (rest := []) ⟨hx, hb, hml, hown, hts⟩ (k_X10_isColumn l dC dI h cs H.size gI gL gA gQ x 2 (by decide +kernel) (by first | assumption | omega) (by first | assumption | omega)) (cwV 1 hts gX10_soft_X10_isColumn rfl rfl rfl (by decide +kernel) ⟨Nat.le_of_ble_eq_true rfl, Nat.le_of_ble_eq_true rfl⟩) (xpV (wc := (rW h cs gI gL gA gQ)) hP hD hK hN [0, 1, 2, 3, 4, 5, 6, 7, 8, 9, 10, 11, 12, 13, 14, 15, 16] rfl (by decide) 0 (ci := 10) rfl rfl _) rfl rfl hl.1 rfl (lv_room (Nat.le_of_ble_eq_true rfl)) dX10_soft_2 ⟨Nat.zero_le _, Nat.zero_le _⟩) (fun r_110 u_109 H locs hw hP hD hS => ?_)
    obtain ⟨hf_111, rfl⟩ := hw
    have hP : va_P (dC, dI) vwCl (rW h cs gI gL gA gQ) H := hP
    have hD : va_D A0 (rW h cs gI gL gA gQ) := hD
    rcases hf_111 with ⟨rfl, i_112, hh_113, ee_114⟩ | ⟨rfl, -⟩
    · skip
      exact absurd (by rw [ee_114, nI_toInt (by omega)]; omega) hz_x
    · skip
      refine lv_if_eq (tgt := 26) hx hb dX10_soft_5 (by decide) (fun _ => ?_) (fun c9 => False.elim (by revert c9; decide +kernel))
      refine lv_ldc (v := (-100000001)) hx hb hown (hts (.constant RX10 168 (-100000001)) (by decide +kernel)) dX10_soft_26 ?_
      exact xr_i (v := (-100000001 : Int32)) hx hb hr hlocks hK hS dX10_soft_28 (gI, gL, gA, gQ) ⟨(by unfold an_soft; rw [if_neg (by omega)]), rfl⟩ hP hD
