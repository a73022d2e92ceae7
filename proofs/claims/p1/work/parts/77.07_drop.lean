set_option maxHeartbeats 4000000 in
set_option maxRecDepth 100000 in
theorem a_X9_isSheet_132 (l : Launch) (dC : Nat → ClassId) (dI : Nat → Nat → Nat) (h : Nat → Nat) (cs : Nat → ClassId) (sz : Nat) (I : Nat → Int32) (L : Nat → Int64) (A : Nat → Nat → Int32) (Q : Nat → Nat → Int64) (G : Nat → Nat → Nat → Int32) (J : Nat → Nat → Nat → Int64) : Met l yX9_isSheet wsX9_isSheet ({ frames := 0, cells := 0, slots := 0, locals := 0 }) (va_Pc [.int (nI 0)] (xPre (dC, dI) ([] : va_W) (tysA cs) sz)) (va_Qi (fun (r : Int32) (u : CS) => (r = nI 1) ∧ u = (I, L, A, Q, G, J)) (xB (dC, dI) (tysA cs) (va_A ([] : va_W) sz) (fun _ : CS => ([] : va_W))) (va_A ([] : va_W) sz)) 0 0 (va_A ([] : va_W) sz) := by
  refine Met.ofW (cc := cX9_isSheet) (maxL := 1) (ret := (some .boolean)) (by decide) rfl ?_
  intro p e s m args below meth c s₁ B hml hv
  obtain ⟨rfl, hsz, hP, hK, hD0, hN⟩ := hv
  have hx := B.exec
  have hb := B.bytes
  have hr := B.returns
  have hts := atoms_spec (ws := wsX9_isSheet) B.pre
  have hown : s.vm.findClass RX9 = some m.cls := findClass_of_methodNamed B.named
  have hlocks := B.notSynchronized
  subst hsz
  have hD := hD0.self (sz := s.heap.size)
  generalize hAe : va_A ([] : va_W) s.heap.size = A0 at hD ⊢
  have hA : ∀ q : Nat, s.heap.size ≤ q → A0 q := fun q h => by rw [← hAe]; exact Or.inr h
  have hl := lv_entry ([.int (nI 0)]) (n := 1) (Nat.le_of_ble_eq_true rfl)
  rw [lg_entry_eq]
  generalize (lg_sl ([.int (nI 0)]) ++ List.replicate (1 - (lg_sl ([.int (nI 0)])).length) Slot.unset).toArray = ls at hl ⊢
  have hl : lv_has ls 1 [(0, .int (nI 0))] := hl
  generalize hH : s.heap = H at hP ⊢
  have hS : va_S A0 s.heap H [] := by rw [← hH]; exact va_S.rf
  refine lv_iload_n hx hb dX9_isSheet_0 rfl (lv_at hl 0 rfl) ?_
  refine lv_if_lt (tgt := 13) hx hb dX9_isSheet_1 (by decide) (fun c9 => False.elim (by revert c9; decide +kernel)) (fun _ => ?_)
  refine lv_iload_n hx hb dX9_isSheet_4 rfl (lv_at hl 0 rfl) ?_
  refine lv_iconst (v := nI 4) hx hb dX9_isSheet_5 (by decide) ?_
  refine lv_icmp_ge (tgt := 13) hx hb dX9_isSheet_6 (by decide) (fun c9 => False.elim (by revert c9; decide +kernel)) (fun _ => ?_)
  refine lv_iconst (v := nI 1) hx hb dX9_isSheet_9 (by decide) ?_
  refine lv_goto (tgt := 14) hx hb dX9_isSheet_10 (by decide) ?_
  exact xr_z (v := (nI 1)) hx hb hr hlocks hK hS dX9_isSheet_14 (rfl) (I, L, A, Q, G, J) ⟨rfl, rfl⟩ hP hD
set_option maxHeartbeats 4000000 in
set_option maxRecDepth 100000 in
theorem a_X9_isSheet_133 (l : Launch) (dC : Nat → ClassId) (dI : Nat → Nat → Nat) (h : Nat → Nat) (cs : Nat → ClassId) (sz : Nat) (I : Nat → Int32) (L : Nat → Int64) (A : Nat → Nat → Int32) (Q : Nat → Nat → Int64) (G : Nat → Nat → Nat → Int32) (J : Nat → Nat → Nat → Int64) : Met l yX9_isSheet wsX9_isSheet ({ frames := 0, cells := 0, slots := 0, locals := 0 }) (va_Pc [.int (nI 1)] (xPre (dC, dI) ([] : va_W) (tysA cs) sz)) (va_Qi (fun (r : Int32) (u : CS) => (r = nI 1) ∧ u = (I, L, A, Q, G, J)) (xB (dC, dI) (tysA cs) (va_A ([] : va_W) sz) (fun _ : CS => ([] : va_W))) (va_A ([] : va_W) sz)) 0 0 (va_A ([] : va_W) sz) := by
  refine Met.ofW (cc := cX9_isSheet) (maxL := 1) (ret := (some .boolean)) (by decide) rfl ?_
  intro p e s m args below meth c s₁ B hml hv
  obtain ⟨rfl, hsz, hP, hK, hD0, hN⟩ := hv
  have hx := B.exec
  have hb := B.bytes
  have hr := B.returns
  have hts := atoms_spec (ws := wsX9_isSheet) B.pre
  have hown : s.vm.findClass RX9 = some m.cls := findClass_of_methodNamed B.named
  have hlocks := B.notSynchronized
  subst hsz
  have hD := hD0.self (sz := s.heap.size)
  generalize hAe : va_A ([] : va_W) s.heap.size = A0 at hD ⊢
  have hA : ∀ q : Nat, s.heap.size ≤ q → A0 q := fun q h => by rw [← hAe]; exact Or.inr h
  have hl := lv_entry ([.int (nI 1)]) (n := 1) (Nat.le_of_ble_eq_true rfl)
  rw [lg_entry_eq]
  generalize (lg_sl ([.int (nI 1)]) ++ List.replicate (1 - (lg_sl ([.int (nI 1)])).length) Slot.unset).toArray = ls at hl ⊢
  have hl : lv_has ls 1 [(0, .int (nI 1))] := hl
  generalize hH : s.heap = H at hP ⊢
  have hS : va_S A0 s.heap H [] := by rw [← hH]; exact va_S.rf
  refine lv_iload_n hx hb dX9_isSheet_0 rfl (lv_at hl 0 rfl) ?_
  refine lv_if_lt (tgt := 13) hx hb dX9_isSheet_1 (by decide) (fun c9 => False.elim (by revert c9; decide +kernel)) (fun _ => ?_)
  refine lv_iload_n hx hb dX9_isSheet_4 rfl (lv_at hl 0 rfl) ?_
  refine lv_iconst (v := nI 4) hx hb dX9_isSheet_5 (by decide) ?_
  refine lv_icmp_ge (tgt := 13) hx hb dX9_isSheet_6 (by decide) (fun c9 => False.elim (by revert c9; decide +kernel)) (fun _ => ?_)
  refine lv_iconst (v := nI 1) hx hb dX9_isSheet_9 (by decide) ?_
  refine lv_goto (tgt := 14) hx hb dX9_isSheet_10 (by decide) ?_
  exact xr_z (v := (nI 1)) hx hb hr hlocks hK hS dX9_isSheet_14 (rfl) (I, L, A, Q, G, J) ⟨rfl, rfl⟩ hP hD
set_option maxHeartbeats 4000000 in
set_option maxRecDepth 100000 in
theorem a_X9_isSheet_134 (l : Launch) (dC : Nat → ClassId) (dI : Nat → Nat → Nat) (h : Nat → Nat) (cs : Nat → ClassId) (sz : Nat) (I : Nat → Int32) (L : Nat → Int64) (A : Nat → Nat → Int32) (Q : Nat → Nat → Int64) (G : Nat → Nat → Nat → Int32) (J : Nat → Nat → Nat → Int64) : Met l yX9_isSheet wsX9_isSheet ({ frames := 0, cells := 0, slots := 0, locals := 0 }) (va_Pc [.int (nI 2)] (xPre (dC, dI) ([] : va_W) (tysA cs) sz)) (va_Qi (fun (r : Int32) (u : CS) => (r = nI 1) ∧ u = (I, L, A, Q, G, J)) (xB (dC, dI) (tysA cs) (va_A ([] : va_W) sz) (fun _ : CS => ([] : va_W))) (va_A ([] : va_W) sz)) 0 0 (va_A ([] : va_W) sz) := by
  refine Met.ofW (cc := cX9_isSheet) (maxL := 1) (ret := (some .boolean)) (by decide) rfl ?_
  intro p e s m args below meth c s₁ B hml hv
  obtain ⟨rfl, hsz, hP, hK, hD0, hN⟩ := hv
  have hx := B.exec
  have hb := B.bytes
  have hr := B.returns
  have hts := atoms_spec (ws := wsX9_isSheet) B.pre
  have hown : s.vm.findClass RX9 = some m.cls := findClass_of_methodNamed B.named
  have hlocks := B.notSynchronized
  subst hsz
  have hD := hD0.self (sz := s.heap.size)
  generalize hAe : va_A ([] : va_W) s.heap.size = A0 at hD ⊢
  have hA : ∀ q : Nat, s.heap.size ≤ q → A0 q := fun q h => by rw [← hAe]; exact Or.inr h
  have hl := lv_entry ([.int (nI 2)]) (n := 1) (Nat.le_of_ble_eq_true rfl)
  rw [lg_entry_eq]
  generalize (lg_sl ([.int (nI 2)]) ++ List.replicate (1 - (lg_sl ([.int (nI 2)])).length) Slot.unset).toArray = ls at hl ⊢
  have hl : lv_has ls 1 [(0, .int (nI 2))] := hl
  generalize hH : s.heap = H at hP ⊢
  have hS : va_S A0 s.heap H [] := by rw [← hH]; exact va_S.rf
  refine lv_iload_n hx hb dX9_isSheet_0 rfl (lv_at hl 0 rfl) ?_
  refine lv_if_lt (tgt := 13) hx hb dX9_isSheet_1 (by decide) (fun c9 => False.elim (by revert c9; decide +kernel)) (fun _ => ?_)
  refine lv_iload_n hx hb dX9_isSheet_4 rfl (lv_at hl 0 rfl) ?_
  refine lv_iconst (v := nI 4) hx hb dX9_isSheet_5 (by decide) ?_
  refine lv_icmp_ge (tgt := 13) hx hb dX9_isSheet_6 (by decide) (fun c9 => False.elim (by revert c9; decide +kernel)) (fun _ => ?_)
  refine lv_iconst (v := nI 1) hx hb dX9_isSheet_9 (by decide) ?_
  refine lv_goto (tgt := 14) hx hb dX9_isSheet_10 (by decide) ?_
  exact xr_z (v := (nI 1)) hx hb hr hlocks hK hS dX9_isSheet_14 (rfl) (I, L, A, Q, G, J) ⟨rfl, rfl⟩ hP hD
set_option maxHeartbeats 4000000 in
set_option maxRecDepth 100000 in
theorem a_X9_isSheet_135 (l : Launch) (dC : Nat → ClassId) (dI : Nat → Nat → Nat) (h : Nat → Nat) (cs : Nat → ClassId) (sz : Nat) (I : Nat → Int32) (L : Nat → Int64) (A : Nat → Nat → Int32) (Q : Nat → Nat → Int64) (G : Nat → Nat → Nat → Int32) (J : Nat → Nat → Nat → Int64) : Met l yX9_isSheet wsX9_isSheet ({ frames := 0, cells := 0, slots := 0, locals := 0 }) (va_Pc [.int (nI 3)] (xPre (dC, dI) ([] : va_W) (tysA cs) sz)) (va_Qi (fun (r : Int32) (u : CS) => (r = nI 1) ∧ u = (I, L, A, Q, G, J)) (xB (dC, dI) (tysA cs) (va_A ([] : va_W) sz) (fun _ : CS => ([] : va_W))) (va_A ([] : va_W) sz)) 0 0 (va_A ([] : va_W) sz) := by
  refine Met.ofW (cc := cX9_isSheet) (maxL := 1) (ret := (some .boolean)) (by decide) rfl ?_
  intro p e s m args below meth c s₁ B hml hv
  obtain ⟨rfl, hsz, hP, hK, hD0, hN⟩ := hv
  have hx := B.exec
  have hb := B.bytes
  have hr := B.returns
  have hts := atoms_spec (ws := wsX9_isSheet) B.pre
  have hown : s.vm.findClass RX9 = some m.cls := findClass_of_methodNamed B.named
  have hlocks := B.notSynchronized
  subst hsz
  have hD := hD0.self (sz := s.heap.size)
  generalize hAe : va_A ([] : va_W) s.heap.size = A0 at hD ⊢
  have hA : ∀ q : Nat, s.heap.size ≤ q → A0 q := fun q h => by rw [← hAe]; exact Or.inr h
  have hl := lv_entry ([.int (nI 3)]) (n := 1) (Nat.le_of_ble_eq_true rfl)
  rw [lg_entry_eq]
  generalize (lg_sl ([.int (nI 3)]) ++ List.replicate (1 - (lg_sl ([.int (nI 3)])).length) Slot.unset).toArray = ls at hl ⊢
  have hl : lv_has ls 1 [(0, .int (nI 3))] := hl
  generalize hH : s.heap = H at hP ⊢
  have hS : va_S A0 s.heap H [] := by rw [← hH]; exact va_S.rf
  refine lv_iload_n hx hb dX9_isSheet_0 rfl (lv_at hl 0 rfl) ?_
  refine lv_if_lt (tgt := 13) hx hb dX9_isSheet_1 (by decide) (fun c9 => False.elim (by revert c9; decide +kernel)) (fun _ => ?_)
  refine lv_iload_n hx hb dX9_isSheet_4 rfl (lv_at hl 0 rfl) ?_
  refine lv_iconst (v := nI 4) hx hb dX9_isSheet_5 (by decide) ?_
  refine lv_icmp_ge (tgt := 13) hx hb dX9_isSheet_6 (by decide) (fun c9 => False.elim (by revert c9; decide +kernel)) (fun _ => ?_)
  refine lv_iconst (v := nI 1) hx hb dX9_isSheet_9 (by decide) ?_
  refine lv_goto (tgt := 14) hx hb dX9_isSheet_10 (by decide) ?_
  exact xr_z (v := (nI 1)) hx hb hr hlocks hK hS dX9_isSheet_14 (rfl) (I, L, A, Q, G, J) ⟨rfl, rfl⟩ hP hD
set_option maxRecDepth 20000 in
theorem ggX9_drop_X9_isSheet : GoodIn wsX9_drop wsX9_isSheet := goodIn_r _ [6] (by decide +kernel) (by decide +kernel)
set_option maxRecDepth 20000 in
theorem gX9_drop_X9_isSheet : GoodIn wsX9_drop (va_wsS RX9 266 yX9_isSheet wsX9_isSheet) := goodIn_app (goodIn_of _ (by decide +kernel)) ggX9_drop_X9_isSheet
set_option maxRecDepth 20000 in
theorem ggX9_drop_X5_holds : GoodIn wsX9_drop wsX5_holds := goodIn_r _ [11, 12, 27, 28, 29] (by decide +kernel) (by decide +kernel)
set_option maxRecDepth 20000 in
theorem gX9_drop_X5_holds : GoodIn wsX9_drop (wsV RX9 275 RX5 yX5_holds wsX5_holds) := goodIn_app (goodIn_of _ (by decide +kernel)) ggX9_drop_X5_holds
set_option maxRecDepth 20000 in
theorem ggX9_drop_X5_empty : GoodIn wsX9_drop wsX5_empty := goodIn_r _ [16, 12, 17, 27, 28, 29] (by decide +kernel) (by decide +kernel)
set_option maxRecDepth 20000 in
theorem gX9_drop_X5_empty : GoodIn wsX9_drop (wsV RX9 281 RX5 yX5_empty wsX5_empty) := goodIn_app (goodIn_of _ (by decide +kernel)) ggX9_drop_X5_empty
theorem dX9_drop_0 : decode cX9_drop 0 = .ok (.iload_n 1, 1) := by decide +kernel
theorem dX9_drop_1 : decode cX9_drop 1 = .ok (.invokestatic 266, 3) := by decide +kernel
theorem dX9_drop_4 : decode cX9_drop 4 = .ok (.ifCond .ne 5, 3) := by decide +kernel
theorem dX9_drop_7 : decode cX9_drop 7 = .ok (.iconst (-1), 1) := by decide +kernel
theorem dX9_drop_8 : decode cX9_drop 8 = .ok (.ireturn, 1) := by decide +kernel
theorem dX9_drop_9 : decode cX9_drop 9 = .ok (.aload_n 0, 1) := by decide +kernel
theorem dX9_drop_10 : decode cX9_drop 10 = .ok (.getfield 71, 3) := by decide +kernel
theorem dX9_drop_13 : decode cX9_drop 13 = .ok (.iload_n 1, 1) := by decide +kernel
theorem dX9_drop_14 : decode cX9_drop 14 = .ok (.aaload, 1) := by decide +kernel
theorem dX9_drop_15 : decode cX9_drop 15 = .ok (.invokevirtual 275, 3) := by decide +kernel
theorem dX9_drop_18 : decode cX9_drop 18 = .ok (.ifCond .ne 6, 3) := by decide +kernel
theorem dX9_drop_21 : decode cX9_drop 21 = .ok (.bipush (-11), 2) := by decide +kernel
theorem dX9_drop_23 : decode cX9_drop 23 = .ok (.ireturn, 1) := by decide +kernel
theorem dX9_drop_24 : decode cX9_drop 24 = .ok (.aload_n 0, 1) := by decide +kernel
theorem dX9_drop_25 : decode cX9_drop 25 = .ok (.getfield 71, 3) := by decide +kernel
theorem dX9_drop_28 : decode cX9_drop 28 = .ok (.iload_n 1, 1) := by decide +kernel
theorem dX9_drop_29 : decode cX9_drop 29 = .ok (.aaload, 1) := by decide +kernel
theorem dX9_drop_30 : decode cX9_drop 30 = .ok (.getfield 278, 3) := by decide +kernel
theorem dX9_drop_33 : decode cX9_drop 33 = .ok (.istore_n 2, 1) := by decide +kernel
theorem dX9_drop_34 : decode cX9_drop 34 = .ok (.aload_n 0, 1) := by decide +kernel
theorem dX9_drop_35 : decode cX9_drop 35 = .ok (.getfield 71, 3) := by decide +kernel
theorem dX9_drop_38 : decode cX9_drop 38 = .ok (.iload_n 1, 1) := by decide +kernel
theorem dX9_drop_39 : decode cX9_drop 39 = .ok (.aaload, 1) := by decide +kernel
theorem dX9_drop_40 : decode cX9_drop 40 = .ok (.invokevirtual 281, 3) := by decide +kernel
theorem dX9_drop_43 : decode cX9_drop 43 = .ok (.iload_n 2, 1) := by decide +kernel
theorem dX9_drop_44 : decode cX9_drop 44 = .ok (.ireturn, 1) := by decide +kernel
set_option maxHeartbeats 4000000 in
set_option maxRecDepth 100000 in
theorem f_X9_drop (l : Launch) (dC : Nat → ClassId) (dI : Nat → Nat → Nat) (h : Nat → Nat) (cs : Nat → ClassId) (sz : Nat) (I : Nat → Int32) (L : Nat → Int64) (A : Nat → Nat → Int32) (Q : Nat → Nat → Int64) (G : Nat → Nat → Nat → Int32) (J : Nat → Nat → Nat → Int64) (x : Int32) : Met l yX9_drop wsX9_drop ({ frames := 1, cells := 0, slots := 0, locals := 20 }) (va_Pc [.ref (h 100), .int x] (xPre (dC, dI) (wAll h cs fI fL fA fQ fG fJ) (tysA cs) sz)) (va_Qi (fun (r : Int32) (u : CS) => (r = an_drop x) ∧ u = (fI, fL, fA, fQ, fG, fJ)) (xB (dC, dI) (tysA cs) (va_A (wAll h cs fI fL fA fQ fG fJ) sz) (fun u : CS => wAll h cs u.1 u.2.1 u.2.2.1 u.2.2.2.1 u.2.2.2.2.1 u.2.2.2.2.2)) (va_A (wAll h cs fI fL fA fQ fG fJ) sz)) 0 0 (va_A (wAll h cs fI fL fA fQ fG fJ) sz) := by
  refine Met.ofW (cc := cX9_drop) (maxL := 3) (ret := (some .int)) (by decide) rfl ?_
  intro p e s m args below meth c s₁ B hml hv
  obtain ⟨rfl, hsz, hP, hK, hD0, hN⟩ := hv
  have hx := B.exec
  have hb := B.bytes
  have hr := B.returns
  have hts := atoms_spec (ws := wsX9_drop) B.pre
  have hown : s.vm.findClass RX9 = some m.cls := findClass_of_methodNamed B.named
  have hlocks := B.notSynchronized
  subst hsz
  have hD := hD0.self (sz := s.heap.size)
  generalize hAe : va_A (wAll h cs fI fL fA fQ fG fJ) s.heap.size = A0 at hD ⊢
  have hA : ∀ q : Nat, s.heap.size ≤ q → A0 q := fun q h => by rw [← hAe]; exact Or.inr h
  have hl := lv_entry ([.ref (h 100), .int x]) (n := 3) (Nat.le_of_ble_eq_true rfl)
  rw [lg_entry_eq]
  generalize (lg_sl ([.ref (h 100), .int x]) ++ List.replicate (3 - (lg_sl ([.ref (h 100), .int x])).length) Slot.unset).toArray = ls at hl ⊢
  have hl : lv_has ls 3 [(0, .ref (h 100)), (1, .int x)] := hl
  generalize hH : s.heap = H at hP ⊢
  have hS : va_S A0 s.heap H [] := by rw [← hH]; exact va_S.rf
  have hinX9 : ∀ w ∈ wsX90, w ∈ wsX9_drop := by decide +kernel
  have hinX5 : ∀ w ∈ wsX50, w ∈ wsX9_drop := by decide +kernel
  rcases splR x 0 3 (by decide) with ⟨i_x, h_x, g_x, rfl⟩ | hz_x
  · skip
    rcases (show i_x = 0 ∨ i_x = 1 ∨ i_x = 2 ∨ i_x = 3 by omega) with rfl | rfl | rfl | rfl
    · skip
      refine lv_iload_n hx hb dX9_drop_0 rfl (lv_at hl 1 rfl) ?_
      refine xj_i (wc := ([] : va_W)) (wr := (wAll h cs fI fL fA fQ fG fJ)) hP hD hS hA [] [0, 1, 2, 3, 4, 5, 6, 7, 8, 9, 10, 11, 12, 13, 14, 15, 16, 17, 18, 19, 20, 21, 22, 23, 24, 25, 26, 27, 28, 29, 30, 31, 32, 33, 34, 35, 36, 37, 38, 39, 40, 41, 42, 43, 44, 45, 46, 47, 48, 49, 50, 51, 52, 53, 54, 55, 56, 57, 58, 59, 60, 61] rfl rfl (by decide) (by decide) (va_runS (As := [.int (nI 0)]) (rest := []) ⟨hx, hb, hml, hown, hts⟩ (a_X9_isSheet_132 l dC dI h cs H.size I L A Q G J ) (va_cwS 1 hts gX9_drop_X9_isSheet rfl rfl rfl (by decide +kernel) ⟨Nat.le_of_ble_eq_true rfl, Nat.le_of_ble_eq_true rfl⟩) (xpS (wc := ([] : va_W)) hP hD hK hN [] rfl (by decide) _) rfl rfl hl.1 rfl (lv_room (Nat.le_of_ble_eq_true rfl)) dX9_drop_1 ⟨Nat.zero_le _, Nat.zero_le _⟩) (fun r_2 u_1 H locs hw hP hD hS => ?_)
      obtain ⟨hf_3, rfl⟩ := hw
      have hP : va_P (dC, dI) vwCl (wAll h cs fI fL fA fQ fG fJ) H := hP
      have hD : va_D A0 (wAll h cs fI fL fA fQ fG fJ) := hD
      rcases hf_3 with ⟨rfl, i_4, hh_5, ee_6⟩ | ⟨rfl, -⟩
      · skip
        exact absurd (by rw [ee_6, nI_toInt (by omega)]; omega) hz_nI 0
      · skip
        refine lv_if_ne (tgt := 9) hx hb dX9_drop_4 (by decide) (fun c9 => False.elim (by revert c9; decide +kernel)) (fun _ => ?_)
        refine lv_iconst (v := (-1)) hx hb dX9_drop_7 (by decide) ?_
        exact xr_i (v := (-1)) hx hb hr hlocks hK hS dX9_drop_8 (fI, fL, fA, fQ, fG, fJ) ⟨(by decide +kernel), rfl⟩ hP hD
    · skip
      refine lv_iload_n hx hb dX9_drop_0 rfl (lv_at hl 1 rfl) ?_
      refine xj_i (wc := ([] : va_W)) (wr := (wAll h cs fI fL fA fQ fG fJ)) hP hD hS hA [] [0, 1, 2, 3, 4, 5, 6, 7, 8, 9, 10, 11, 12, 13, 14, 15, 16, 17, 18, 19, 20, 21, 22, 23, 24, 25, 26, 27, 28, 29, 30, 31, 32, 33, 34, 35, 36, 37, 38, 39, 40, 41, 42, 43, 44, 45, 46, 47, 48, 49, 50, 51, 52, 53, 54, 55, 56, 57, 58, 59, 60, 61] rfl rfl (by decide) (by decide) (va_runS (As := [.int (nI 1)]) (rest := []) ⟨hx, hb, hml, hown, hts⟩ (a_X9_isSheet_133 l dC dI h cs H.size I L A Q G J ) (va_cwS 1 hts gX9_drop_X9_isSheet rfl rfl rfl (by decide +kernel) ⟨Nat.le_of_ble_eq_true rfl, Nat.le_of_ble_eq_true rfl⟩) (xpS (wc := ([] : va_W)) hP hD hK hN [] rfl (by decide) _) rfl rfl hl.1 rfl (lv_room (Nat.le_of_ble_eq_true rfl)) dX9_drop_1 ⟨Nat.zero_le _, Nat.zero_le _⟩) (fun r_8 u_7 H locs hw hP hD hS => ?_)
      obtain ⟨hf_9, rfl⟩ := hw
      have hP : va_P (dC, dI) vwCl (wAll h cs fI fL fA fQ fG fJ) H := hP
      have hD : va_D A0 (wAll h cs fI fL fA fQ fG fJ) := hD
      rcases hf_9 with ⟨rfl, i_10, hh_11, ee_12⟩ | ⟨rfl, -⟩
      · skip
        exact absurd (by rw [ee_12, nI_toInt (by omega)]; omega) hz_nI 1
      · skip
        refine lv_if_ne (tgt := 9) hx hb dX9_drop_4 (by decide) (fun c9 => False.elim (by revert c9; decide +kernel)) (fun _ => ?_)
        refine lv_iconst (v := (-1)) hx hb dX9_drop_7 (by decide) ?_
        exact xr_i (v := (-1)) hx hb hr hlocks hK hS dX9_drop_8 (fI, fL, fA, fQ, fG, fJ) ⟨(by decide +kernel), rfl⟩ hP hD
    · skip
      refine lv_iload_n hx hb dX9_drop_0 rfl (lv_at hl 1 rfl) ?_
      refine xj_i (wc := ([] : va_W)) (wr := (wAll h cs fI fL fA fQ fG fJ)) hP hD hS hA [] [0, 1, 2, 3, 4, 5, 6, 7, 8, 9, 10, 11, 12, 13, 14, 15, 16, 17, 18, 19, 20, 21, 22, 23, 24, 25, 26, 27, 28, 29, 30, 31, 32, 33, 34, 35, 36, 37, 38, 39, 40, 41, 42, 43, 44, 45, 46, 47, 48, 49, 50, 51, 52, 53, 54, 55, 56, 57, 58, 59, 60, 61] rfl rfl (by decide) (by decide) (va_runS (As := [.int (nI 2)]) (rest := []) ⟨hx, hb, hml, hown, hts⟩ (a_X9_isSheet_134 l dC dI h cs H.size I L A Q G J ) (va_cwS 1 hts gX9_drop_X9_isSheet rfl rfl rfl (by decide +kernel) ⟨Nat.le_of_ble_eq_true rfl, Nat.le_of_ble_eq_true rfl⟩) (xpS (wc := ([] : va_W)) hP hD hK hN [] rfl (by decide) _) rfl rfl hl.1 rfl (lv_room (Nat.le_of_ble_eq_true rfl)) dX9_drop_1 ⟨Nat.zero_le _, Nat.zero_le _⟩) (fun r_14 u_13 H locs hw hP hD hS => ?_)
      obtain ⟨hf_15, rfl⟩ := hw
      have hP : va_P (dC, dI) vwCl (wAll h cs fI fL fA fQ fG fJ) H := hP
      have hD : va_D A0 (wAll h cs fI fL fA fQ fG fJ) := hD
      rcases hf_15 with ⟨rfl, i_16, hh_17, ee_18⟩ | ⟨rfl, -⟩
      · skip
        exact absurd (by rw [ee_18, nI_toInt (by omega)]; omega) hz_nI 2
      · skip
        refine lv_if_ne (tgt := 9) hx hb dX9_drop_4 (by decide) (fun c9 => False.elim (by revert c9; decide +kernel)) (fun _ => ?_)
        refine lv_iconst (v := (-1)) hx hb dX9_drop_7 (by decide) ?_
        exact xr_i (v := (-1)) hx hb hr hlocks hK hS dX9_drop_8 (fI, fL, fA, fQ, fG, fJ) ⟨(by decide +kernel), rfl⟩ hP hD
    · skip
      refine lv_iload_n hx hb dX9_drop_0 rfl (lv_at hl 1 rfl) ?_
      refine xj_i (wc := ([] : va_W)) (wr := (wAll h cs fI fL fA fQ fG fJ)) hP hD hS hA [] [0, 1, 2, 3, 4, 5, 6, 7, 8, 9, 10, 11, 12, 13, 14, 15, 16, 17, 18, 19, 20, 21, 22, 23, 24, 25, 26, 27, 28, 29, 30, 31, 32, 33, 34, 35, 36, 37, 38, 39, 40, 41, 42, 43, 44, 45, 46, 47, 48, 49, 50, 51, 52, 53, 54, 55, 56, 57, 58, 59, 60, 61] rfl rfl (by decide) (by decide) (va_runS (As := [.int (nI 3)]) (rest := []) ⟨hx, hb, hml, hown, hts⟩ (a_X9_isSheet_135 l dC dI h cs H.size I L A Q G J ) (va_cwS 1 hts gX9_drop_X9_isSheet rfl rfl rfl (by decide +kernel) ⟨Nat.le_of_ble_eq_true rfl, Nat.le_of_ble_eq_true rfl⟩) (xpS (wc := ([] : va_W)) hP hD hK hN [] rfl (by decide) _) rfl rfl hl.1 rfl (lv_room (Nat.le_of_ble_eq_true rfl)) dX9_drop_1 ⟨Nat.zero_le _, Nat.zero_le _⟩) (fun r_20 u_19 H locs hw hP hD hS => ?_)
      obtain ⟨hf_21, rfl⟩ := hw
      have hP : va_P (dC, dI) vwCl (wAll h cs fI fL fA fQ fG fJ) H := hP
      have hD : va_D A0 (wAll h cs fI fL fA fQ fG fJ) := hD
      rcases hf_21 with ⟨rfl, i_22, hh_23, ee_24⟩ | ⟨rfl, -⟩
      · skip
        exact absurd (by rw [ee_24, nI_toInt (by omega)]; omega) hz_nI 3
      · skip
        refine lv_if_ne (tgt := 9) hx hb dX9_drop_4 (by decide) (fun c9 => False.elim (by revert c9; decide +kernel)) (fun _ => ?_)
        refine lv_iconst (v := (-1)) hx hb dX9_drop_7 (by decide) ?_
        exact xr_i (v := (-1)) hx hb hr hlocks hK hS dX9_drop_8 (fI, fL, fA, fQ, fG, fJ) ⟨(by decide +kernel), rfl⟩ hP hD
  · skip
    refine lv_iload_n hx hb dX9_drop_0 rfl (lv_at hl 1 rfl) ?_
    refine xj_i (wc := ([] : va_W)) (wr := (wAll h cs fI fL fA fQ fG fJ)) hP hD hS hA [] [0, 1, 2, 3, 4, 5, 6, 7, 8, 9, 10, 11, 12, 13, 14, 15, 16, 17, 18, 19, 20, 21, 22, 23, 24, 25, 26, 27, 28, 29, 30, 31, 32, 33, 34, 35, 36, 37, 38, 39, 40, 41, 42, 43, 44, 45, 46, 47, 48, 49, 50, 51, 52, 53, 54, 55, 56, 57, 58, 59, 60, 61] rfl rfl (by decide) (by decide) (va_runS (As := [.int x]) (rest := []) ⟨hx, hb, hml, hown, hts⟩ (k_X9_isSheet l dC dI h cs H.size I L A Q G J x) (va_cwS 1 hts gX9_drop_X9_isSheet rfl rfl rfl (by decide +kernel) ⟨Nat.le_of_ble_eq_true rfl, Nat.le_of_ble_eq_true rfl⟩) (xpS (wc := ([] : va_W)) hP hD hK hN [] rfl (by decide) _) rfl rfl hl.1 rfl (lv_room (Nat.le_of_ble_eq_true rfl)) dX9_drop_1 ⟨Nat.zero_le _, Nat.zero_le _⟩) (fun r_26 u_25 H locs hw hP hD hS => ?_)
    obtain ⟨hf_27, rfl⟩ := hw
    have hP : va_P (dC, dI) vwCl (wAll h cs fI fL fA fQ fG fJ) H := hP
    have hD : va_D A0 (wAll h cs fI fL fA fQ fG fJ) := hD
    rcases hf_27 with ⟨rfl, i_28, hh_29, ee_30⟩ | ⟨rfl, -⟩
    · skip
      exact absurd (by rw [ee_30, nI_toInt (by omega)]; omega) hz_x
    · skip
      refine lv_if_ne (tgt := 9) hx hb dX9_drop_4 (by decide) (fun c9 => False.elim (by revert c9; decide +kernel)) (fun _ => ?_)
      refine lv_iconst (v := (-1)) hx hb dX9_drop_7 (by decide) ?_
      exact xr_i (v := (-1)) hx hb hr hlocks hK hS dX9_drop_8 (fI, fL, fA, fQ, fG, fJ) ⟨(by unfold an_drop; rw [if_neg (by omega)]), rfl⟩ hP hD
