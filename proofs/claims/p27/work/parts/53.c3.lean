
theorem wi_t {v lo hi : Int64} (h1 : ¬ v < lo) (h2 : ¬ hi < v) : nI 1 = if lo ≤ v ∧ v ≤ hi then 1 else 0 := in_t h1 h2
def prodF (g : Nat → Nat → Int32) (i j : Nat) : Nat → Int32
  | 0 => nI 0
  | r + 1 => prodF g i j r + g r i * g r j
theorem bdX9_within_0 : (decode cX9_within 0 = .ok (.lload_n 0, 1)) ∧ (decode cX9_within 1 = .ok (.iload_n 2, 1)) ∧ (decode cX9_within 2 = .ok (.ineg, 1)) ∧ (decode cX9_within 3 = .ok (.i2l, 1)) ∧ (decode cX9_within 4 = .ok (.lcmp, 1)) ∧ (decode cX9_within 5 = .ok (.ifCond .lt 14, 3)) ∧ (decode cX9_within 8 = .ok (.lload_n 0, 1)) ∧ (decode cX9_within 9 = .ok (.iload_n 2, 1)) ∧ (decode cX9_within 10 = .ok (.i2l, 1)) ∧ (decode cX9_within 11 = .ok (.lcmp, 1)) ∧ (decode cX9_within 12 = .ok (.ifCond .gt 7, 3)) ∧ (decode cX9_within 15 = .ok (.iconst 1, 1)) ∧ (decode cX9_within 16 = .ok (.goto 4, 3)) ∧ (decode cX9_within 19 = .ok (.iconst 0, 1)) ∧ (decode cX9_within 20 = .ok (.ireturn, 1)) := by decide +kernel
theorem dX9_within_0 : decode cX9_within 0 = .ok (.lload_n 0, 1) := bdX9_within_0.1
theorem dX9_within_1 : decode cX9_within 1 = .ok (.iload_n 2, 1) := bdX9_within_0.2.1
theorem dX9_within_2 : decode cX9_within 2 = .ok (.ineg, 1) := bdX9_within_0.2.2.1
theorem dX9_within_3 : decode cX9_within 3 = .ok (.i2l, 1) := bdX9_within_0.2.2.2.1
theorem dX9_within_4 : decode cX9_within 4 = .ok (.lcmp, 1) := bdX9_within_0.2.2.2.2.1
theorem dX9_within_5 : decode cX9_within 5 = .ok (.ifCond .lt 14, 3) := bdX9_within_0.2.2.2.2.2.1
theorem dX9_within_8 : decode cX9_within 8 = .ok (.lload_n 0, 1) := bdX9_within_0.2.2.2.2.2.2.1
theorem dX9_within_9 : decode cX9_within 9 = .ok (.iload_n 2, 1) := bdX9_within_0.2.2.2.2.2.2.2.1
theorem dX9_within_10 : decode cX9_within 10 = .ok (.i2l, 1) := bdX9_within_0.2.2.2.2.2.2.2.2.1
theorem dX9_within_11 : decode cX9_within 11 = .ok (.lcmp, 1) := bdX9_within_0.2.2.2.2.2.2.2.2.2.1
theorem dX9_within_12 : decode cX9_within 12 = .ok (.ifCond .gt 7, 3) := bdX9_within_0.2.2.2.2.2.2.2.2.2.2.1
theorem dX9_within_15 : decode cX9_within 15 = .ok (.iconst 1, 1) := bdX9_within_0.2.2.2.2.2.2.2.2.2.2.2.1
theorem dX9_within_16 : decode cX9_within 16 = .ok (.goto 4, 3) := bdX9_within_0.2.2.2.2.2.2.2.2.2.2.2.2.1
theorem dX9_within_19 : decode cX9_within 19 = .ok (.iconst 0, 1) := bdX9_within_0.2.2.2.2.2.2.2.2.2.2.2.2.2.1
theorem dX9_within_20 : decode cX9_within 20 = .ok (.ireturn, 1) := bdX9_within_0.2.2.2.2.2.2.2.2.2.2.2.2.2.2
set_option maxHeartbeats 4000000 in
set_option maxRecDepth 100000 in
theorem k_X9_within (l : Launch) (dC : Nat → ClassId) (dI : Nat → Nat → Nat) (h : Nat → Nat) (cs : Nat → ClassId) (sz : Nat) (I : Nat → Int32) (L : Nat → Int64) (A : Nat → Nat → Int32) (Q : Nat → Nat → Int64) (G : Nat → Nat → Nat → Int32) (J : Nat → Nat → Nat → Int64) (v : Int64) (mo : Int32) : Met l yX9_within wsX9_within ({ frames := 0, cells := 0, slots := 0, locals := 0 }) (va_Pc [.long v, .int mo] (xPre (dC, dI) ([] : va_W) (tysA cs) sz)) (va_Qi (fun (r : Int32) (u : CS) => (r = if (-mo).toInt64 ≤ v ∧ v ≤ mo.toInt64 then 1 else 0) ∧ u = (I, L, A, Q, G, J)) (xB (dC, dI) (tysA cs) (va_A ([] : va_W) sz) (fun _ : CS => ([] : va_W))) (va_A ([] : va_W) sz)) 0 0 (va_A ([] : va_W) sz) := by
  refine Met.ofW (cc := cX9_within) (maxL := 3) (ret := (some .boolean)) (by decide) rfl ?_
  intro p e s m args below meth c s₁ B hml hv
  obtain ⟨rfl, hsz, hP, hK, hD0, hN⟩ := hv
  have hx := B.exec
  have hb := B.bytes
  have hr := B.returns
  have hts := atoms_spec (ws := wsX9_within) B.pre
  have hown : s.vm.findClass RX9 = some m.cls := findClass_of_methodNamed B.named
  have hlocks := B.notSynchronized
  subst hsz
  have hD := hD0.self (sz := s.heap.size)
  generalize hAe : va_A ([] : va_W) s.heap.size = A0 at hD ⊢
  have hA : ∀ q : Nat, s.heap.size ≤ q → A0 q := fun q h => by rw [← hAe]; exact Or.inr h
  have hl := lv_entry ([.long v, .int mo]) (n := 3) (Nat.le_of_ble_eq_true rfl)
  rw [lg_entry_eq]
  generalize (lg_sl ([.long v, .int mo]) ++ List.replicate (3 - (lg_sl ([.long v, .int mo])).length) Slot.unset).toArray = ls at hl ⊢
  have hl : lv_has ls 3 [(0, .long v), (2, .int mo)] := hl
  generalize hH : s.heap = H at hP ⊢
  have hS : va_S A0 s.heap H [] := by rw [← hH]; exact va_S.rf
  refine lv_lload_n hx hb dX9_within_0 rfl (lv_at hl 0 rfl) ?_
  refine lv_iload_n hx hb dX9_within_1 rfl (lv_at hl 1 rfl) ?_
  refine lv_ineg hx hb dX9_within_2 ?_
  refine lv_i2l (v := (-mo).toInt64) hx hb dX9_within_3 rfl ?_
  refine xl_lt (tgt := 19) hx hb dX9_within_4 dX9_within_5 (by decide) (fun c_4_0 => ?_) (fun c_4_0 => ?_)
  · skip
    refine lv_iconst (v := nI 0) hx hb dX9_within_19 (by decide) ?_
    exact xr_z (v := (nI 0)) hx hb hr hlocks hK hS dX9_within_20 (rfl) (I, L, A, Q, G, J) ⟨(by first | exact in_t (by assumption) (by assumption) | exact in_f1 (by assumption) | exact in_f2 (by assumption)), rfl⟩ hP hD
  · skip
    refine lv_lload_n hx hb dX9_within_8 rfl (lv_at hl 0 rfl) ?_
    refine lv_iload_n hx hb dX9_within_9 rfl (lv_at hl 1 rfl) ?_
    refine lv_i2l (v := mo.toInt64) hx hb dX9_within_10 rfl ?_
    refine xl_gt (tgt := 19) hx hb dX9_within_11 dX9_within_12 (by decide) (fun c_11_1 => ?_) (fun c_11_1 => ?_)
    · skip
      refine lv_iconst (v := nI 0) hx hb dX9_within_19 (by decide) ?_
      exact xr_z (v := (nI 0)) hx hb hr hlocks hK hS dX9_within_20 (rfl) (I, L, A, Q, G, J) ⟨(by first | exact in_t (by assumption) (by assumption) | exact in_f1 (by assumption) | exact in_f2 (by assumption)), rfl⟩ hP hD
    · skip
      refine lv_iconst (v := nI 1) hx hb dX9_within_15 (by decide) ?_
      refine lv_goto (tgt := 20) hx hb dX9_within_16 (by decide) ?_
      exact xr_z (v := (nI 1)) hx hb hr hlocks hK hS dX9_within_20 (rfl) (I, L, A, Q, G, J) ⟨(by first | exact in_t (by assumption) (by assumption) | exact in_f1 (by assumption) | exact in_f2 (by assumption)), rfl⟩ hP hD
theorem bdX9_isSheet_0 : (decode cX9_isSheet 0 = .ok (.iload_n 0, 1)) ∧ (decode cX9_isSheet 1 = .ok (.ifCond .lt 12, 3)) ∧ (decode cX9_isSheet 4 = .ok (.iload_n 0, 1)) ∧ (decode cX9_isSheet 5 = .ok (.iconst 4, 1)) ∧ (decode cX9_isSheet 6 = .ok (.if_icmp .ge 7, 3)) ∧ (decode cX9_isSheet 9 = .ok (.iconst 1, 1)) ∧ (decode cX9_isSheet 10 = .ok (.goto 4, 3)) ∧ (decode cX9_isSheet 13 = .ok (.iconst 0, 1)) ∧ (decode cX9_isSheet 14 = .ok (.ireturn, 1)) := by decide +kernel
theorem dX9_isSheet_0 : decode cX9_isSheet 0 = .ok (.iload_n 0, 1) := bdX9_isSheet_0.1
theorem dX9_isSheet_1 : decode cX9_isSheet 1 = .ok (.ifCond .lt 12, 3) := bdX9_isSheet_0.2.1
theorem dX9_isSheet_4 : decode cX9_isSheet 4 = .ok (.iload_n 0, 1) := bdX9_isSheet_0.2.2.1
theorem dX9_isSheet_5 : decode cX9_isSheet 5 = .ok (.iconst 4, 1) := bdX9_isSheet_0.2.2.2.1
theorem dX9_isSheet_6 : decode cX9_isSheet 6 = .ok (.if_icmp .ge 7, 3) := bdX9_isSheet_0.2.2.2.2.1
theorem dX9_isSheet_9 : decode cX9_isSheet 9 = .ok (.iconst 1, 1) := bdX9_isSheet_0.2.2.2.2.2.1
theorem dX9_isSheet_10 : decode cX9_isSheet 10 = .ok (.goto 4, 3) := bdX9_isSheet_0.2.2.2.2.2.2.1
theorem dX9_isSheet_13 : decode cX9_isSheet 13 = .ok (.iconst 0, 1) := bdX9_isSheet_0.2.2.2.2.2.2.2.1
theorem dX9_isSheet_14 : decode cX9_isSheet 14 = .ok (.ireturn, 1) := bdX9_isSheet_0.2.2.2.2.2.2.2.2
set_option maxHeartbeats 4000000 in
set_option maxRecDepth 100000 in
theorem k_X9_isSheet (l : Launch) (dC : Nat → ClassId) (dI : Nat → Nat → Nat) (h : Nat → Nat) (cs : Nat → ClassId) (sz : Nat) (I : Nat → Int32) (L : Nat → Int64) (A : Nat → Nat → Int32) (Q : Nat → Nat → Int64) (G : Nat → Nat → Nat → Int32) (J : Nat → Nat → Nat → Int64) (x : Int32) : Met l yX9_isSheet wsX9_isSheet ({ frames := 0, cells := 0, slots := 0, locals := 0 }) (va_Pc [.int x] (xPre (dC, dI) ([] : va_W) (tysA cs) sz)) (va_Qi (fun (r : Int32) (u : CS) => ((r = nI 1 ∧ ∃ i : Nat, i < 4 ∧ x = nI i) ∨ (r = nI 0 ∧ ∀ i : Nat, i < 4 → x ≠ nI i)) ∧ u = (I, L, A, Q, G, J)) (xB (dC, dI) (tysA cs) (va_A ([] : va_W) sz) (fun _ : CS => ([] : va_W))) (va_A ([] : va_W) sz)) 0 0 (va_A ([] : va_W) sz) := by
  refine Met.ofW (cc := cX9_isSheet) (maxL := 1) (ret := (some .boolean)) (by decide) rfl ?_
  intro p e s m args below meth c s₁ B hml hv
  obtain ⟨rfl, hsz, hP, hK, hD0, hN⟩ := hv
  have hx := B.exec
  have hb := B.bytes
  have hr := B.returns
  have hts := atoms_spec (ws := wsX9_isSheet) B.pre
  have hown : s.vm.findClass RX9 = some m.cls := findClass_of_methodNamed B.named
  have hlocks := B.notSynchronized
  subst hsz
  have hD := hD0.self (sz := s.heap.size)
  generalize hAe : va_A ([] : va_W) s.heap.size = A0 at hD ⊢
  have hA : ∀ q : Nat, s.heap.size ≤ q → A0 q := fun q h => by rw [← hAe]; exact Or.inr h
  have hl := lv_entry ([.int x]) (n := 1) (Nat.le_of_ble_eq_true rfl)
  rw [lg_entry_eq]
  generalize (lg_sl ([.int x]) ++ List.replicate (1 - (lg_sl ([.int x])).length) Slot.unset).toArray = ls at hl ⊢
  have hl : lv_has ls 1 [(0, .int x)] := hl
  generalize hH : s.heap = H at hP ⊢
  have hS : va_S A0 s.heap H [] := by rw [← hH]; exact va_S.rf
  refine lv_iload_n hx hb dX9_isSheet_0 rfl (lv_at hl 0 rfl) ?_
  refine lv_if_lt (tgt := 13) hx hb dX9_isSheet_1 (by decide) (fun c_1_0 => ?_) (fun c_1_0 => ?_)
  · skip
    refine lv_iconst (v := nI 0) hx hb dX9_isSheet_13 (by decide) ?_
    exact xr_z (v := (nI 0)) hx hb hr hlocks hK hS dX9_isSheet_14 (rfl) (I, L, A, Q, G, J) ⟨(Or.inr ⟨rfl, by first | exact rg_no1 (by omega) (by assumption) | exact rg_no2 (by omega) (by assumption)⟩), rfl⟩ hP hD
  · skip
    refine lv_iload_n hx hb dX9_isSheet_4 rfl (lv_at hl 0 rfl) ?_
    refine lv_iconst (v := nI 4) hx hb dX9_isSheet_5 (by decide) ?_
    refine lv_icmp_ge (tgt := 13) hx hb dX9_isSheet_6 (by decide) (fun c_6_1 => ?_) (fun c_6_1 => ?_)
    · skip
      refine lv_iconst (v := nI 0) hx hb dX9_isSheet_13 (by decide) ?_
      exact xr_z (v := (nI 0)) hx hb hr hlocks hK hS dX9_isSheet_14 (rfl) (I, L, A, Q, G, J) ⟨(Or.inr ⟨rfl, by first | exact rg_no1 (by omega) (by assumption) | exact rg_no2 (by omega) (by assumption)⟩), rfl⟩ hP hD
    · skip
      refine lv_iconst (v := nI 1) hx hb dX9_isSheet_9 (by decide) ?_
      refine lv_goto (tgt := 14) hx hb dX9_isSheet_10 (by decide) ?_
      exact xr_z (v := (nI 1)) hx hb hr hlocks hK hS dX9_isSheet_14 (rfl) (I, L, A, Q, G, J) ⟨(Or.inl ⟨rfl, rg_yes (by omega) (by assumption) (by assumption)⟩), rfl⟩ hP hD
theorem bdX9_isLane_0 : (decode cX9_isLane 0 = .ok (.iload_n 0, 1)) ∧ (decode cX9_isLane 1 = .ok (.ifCond .lt 12, 3)) ∧ (decode cX9_isLane 4 = .ok (.iload_n 0, 1)) ∧ (decode cX9_isLane 5 = .ok (.iconst 3, 1)) ∧ (decode cX9_isLane 6 = .ok (.if_icmp .ge 7, 3)) ∧ (decode cX9_isLane 9 = .ok (.iconst 1, 1)) ∧ (decode cX9_isLane 10 = .ok (.goto 4, 3)) ∧ (decode cX9_isLane 13 = .ok (.iconst 0, 1)) ∧ (decode cX9_isLane 14 = .ok (.ireturn, 1)) := by decide +kernel
theorem dX9_isLane_0 : decode cX9_isLane 0 = .ok (.iload_n 0, 1) := bdX9_isLane_0.1
theorem dX9_isLane_1 : decode cX9_isLane 1 = .ok (.ifCond .lt 12, 3) := bdX9_isLane_0.2.1
theorem dX9_isLane_4 : decode cX9_isLane 4 = .ok (.iload_n 0, 1) := bdX9_isLane_0.2.2.1
theorem dX9_isLane_5 : decode cX9_isLane 5 = .ok (.iconst 3, 1) := bdX9_isLane_0.2.2.2.1
theorem dX9_isLane_6 : decode cX9_isLane 6 = .ok (.if_icmp .ge 7, 3) := bdX9_isLane_0.2.2.2.2.1
theorem dX9_isLane_9 : decode cX9_isLane 9 = .ok (.iconst 1, 1) := bdX9_isLane_0.2.2.2.2.2.1
theorem dX9_isLane_10 : decode cX9_isLane 10 = .ok (.goto 4, 3) := bdX9_isLane_0.2.2.2.2.2.2.1
theorem dX9_isLane_13 : decode cX9_isLane 13 = .ok (.iconst 0, 1) := bdX9_isLane_0.2.2.2.2.2.2.2.1
theorem dX9_isLane_14 : decode cX9_isLane 14 = .ok (.ireturn, 1) := bdX9_isLane_0.2.2.2.2.2.2.2.2
set_option maxHeartbeats 4000000 in
set_option maxRecDepth 100000 in
theorem k_X9_isLane (l : Launch) (dC : Nat → ClassId) (dI : Nat → Nat → Nat) (h : Nat → Nat) (cs : Nat → ClassId) (sz : Nat) (I : Nat → Int32) (L : Nat → Int64) (A : Nat → Nat → Int32) (Q : Nat → Nat → Int64) (G : Nat → Nat → Nat → Int32) (J : Nat → Nat → Nat → Int64) (x : Int32) : Met l yX9_isLane wsX9_isLane ({ frames := 0, cells := 0, slots := 0, locals := 0 }) (va_Pc [.int x] (xPre (dC, dI) ([] : va_W) (tysA cs) sz)) (va_Qi (fun (r : Int32) (u : CS) => ((r = nI 1 ∧ ∃ i : Nat, i < 3 ∧ x = nI i) ∨ (r = nI 0 ∧ ∀ i : Nat, i < 3 → x ≠ nI i)) ∧ u = (I, L, A, Q, G, J)) (xB (dC, dI) (tysA cs) (va_A ([] : va_W) sz) (fun _ : CS => ([] : va_W))) (va_A ([] : va_W) sz)) 0 0 (va_A ([] : va_W) sz) := by
  refine Met.ofW (cc := cX9_isLane) (maxL := 1) (ret := (some .boolean)) (by decide) rfl ?_
  intro p e s m args below meth c s₁ B hml hv
  obtain ⟨rfl, hsz, hP, hK, hD0, hN⟩ := hv
  have hx := B.exec
  have hb := B.bytes
  have hr := B.returns
  have hts := atoms_spec (ws := wsX9_isLane) B.pre
  have hown : s.vm.findClass RX9 = some m.cls := findClass_of_methodNamed B.named
  have hlocks := B.notSynchronized
  subst hsz
  have hD := hD0.self (sz := s.heap.size)
  generalize hAe : va_A ([] : va_W) s.heap.size = A0 at hD ⊢
  have hA : ∀ q : Nat, s.heap.size ≤ q → A0 q := fun q h => by rw [← hAe]; exact Or.inr h
  have hl := lv_entry ([.int x]) (n := 1) (Nat.le_of_ble_eq_true rfl)
  rw [lg_entry_eq]
  generalize (lg_sl ([.int x]) ++ List.replicate (1 - (lg_sl ([.int x])).length) Slot.unset).toArray = ls at hl ⊢
  have hl : lv_has ls 1 [(0, .int x)] := hl
  generalize hH : s.heap = H at hP ⊢
  have hS : va_S A0 s.heap H [] := by rw [← hH]; exact va_S.rf
  refine lv_iload_n hx hb dX9_isLane_0 rfl (lv_at hl 0 rfl) ?_
  refine lv_if_lt (tgt := 13) hx hb dX9_isLane_1 (by decide) (fun c_1_0 => ?_) (fun c_1_0 => ?_)
  · skip
    refine lv_iconst (v := nI 0) hx hb dX9_isLane_13 (by decide) ?_
    exact xr_z (v := (nI 0)) hx hb hr hlocks hK hS dX9_isLane_14 (rfl) (I, L, A, Q, G, J) ⟨(Or.inr ⟨rfl, by first | exact rg_no1 (by omega) (by assumption) | exact rg_no2 (by omega) (by assumption)⟩), rfl⟩ hP hD
  · skip
    refine lv_iload_n hx hb dX9_isLane_4 rfl (lv_at hl 0 rfl) ?_
    refine lv_iconst (v := nI 3) hx hb dX9_isLane_5 (by decide) ?_
    refine lv_icmp_ge (tgt := 13) hx hb dX9_isLane_6 (by decide) (fun c_6_1 => ?_) (fun c_6_1 => ?_)
    · skip
      refine lv_iconst (v := nI 0) hx hb dX9_isLane_13 (by decide) ?_
      exact xr_z (v := (nI 0)) hx hb hr hlocks hK hS dX9_isLane_14 (rfl) (I, L, A, Q, G, J) ⟨(Or.inr ⟨rfl, by first | exact rg_no1 (by omega) (by assumption) | exact rg_no2 (by omega) (by assumption)⟩), rfl⟩ hP hD
    · skip
      refine lv_iconst (v := nI 1) hx hb dX9_isLane_9 (by decide) ?_
      refine lv_goto (tgt := 14) hx hb dX9_isLane_10 (by decide) ?_
      exact xr_z (v := (nI 1)) hx hb hr hlocks hK hS dX9_isLane_14 (rfl) (I, L, A, Q, G, J) ⟨(Or.inl ⟨rfl, rg_yes (by omega) (by assumption) (by assumption)⟩), rfl⟩ hP hD
set_option maxRecDepth 20000 in
theorem ggX9_set_X3_hasRow : GoodIn wsX9_set wsX3_hasRow := goodIn_r _ [7, 8, 51, 52, 53, 54, 55, 56] rfl (by decide +kernel)
set_option maxRecDepth 20000 in
theorem gX9_set_X3_hasRow : GoodIn wsX9_set (wsV RX9 91 RX3 yX3_hasRow wsX3_hasRow) := goodIn_app (goodIn_of _ (by decide +kernel)) ggX9_set_X3_hasRow
set_option maxRecDepth 20000 in
theorem ggX9_set_X3_hasColumn : GoodIn wsX9_set wsX3_hasColumn := goodIn_r _ [12, 13, 51, 52, 53, 54, 55, 56] rfl (by decide +kernel)
set_option maxRecDepth 20000 in
theorem gX9_set_X3_hasColumn : GoodIn wsX9_set (wsV RX9 95 RX3 yX3_hasColumn wsX3_hasColumn) := goodIn_app (goodIn_of _ (by decide +kernel)) ggX9_set_X3_hasColumn
set_option maxRecDepth 20000 in
theorem ggX9_set_X9_within : GoodIn wsX9_set wsX9_within := goodIn_r _ [17] rfl (by decide +kernel)
set_option maxRecDepth 20000 in
theorem gX9_set_X9_within : GoodIn wsX9_set (va_wsS RX9 98 yX9_within wsX9_within) := goodIn_app (goodIn_of _ (by decide +kernel)) ggX9_set_X9_within
set_option maxRecDepth 20000 in
theorem ggX9_set_X0_take : GoodIn wsX9_set wsX0_take := goodIn_r _ [22, 23, 24, 25, 26, 27, 28, 29, 30, 31, 32, 33, 6, 34, 13, 35, 36, 37, 38, 39, 40, 41, 57, 58, 59, 60, 61, 62, 63, 64, 51, 52, 53, 54, 55, 56] rfl (by decide +kernel)
set_option maxRecDepth 20000 in
theorem gX9_set_X0_take : GoodIn wsX9_set (wsV RX9 102 RX0 yX0_take wsX0_take) := goodIn_app (goodIn_of _ (by decide +kernel)) ggX9_set_X0_take
theorem bdX9_set_0 : (decode cX9_set 0 = .ok (.aload_n 0, 1)) ∧ (decode cX9_set 1 = .ok (.getfield 12, 3)) ∧ (decode cX9_set 4 = .ok (.iload_n 1, 1)) ∧ (decode cX9_set 5 = .ok (.invokevirtual 91, 3)) ∧ (decode cX9_set 8 = .ok (.ifCond .eq 24, 3)) ∧ (decode cX9_set 11 = .ok (.aload_n 0, 1)) ∧ (decode cX9_set 12 = .ok (.getfield 12, 3)) ∧ (decode cX9_set 15 = .ok (.iload_n 2, 1)) ∧ (decode cX9_set 16 = .ok (.invokevirtual 95, 3)) ∧ (decode cX9_set 19 = .ok (.ifCond .eq 13, 3)) ∧ (decode cX9_set 22 = .ok (.iload_n 3, 1)) ∧ (decode cX9_set 23 = .ok (.i2l, 1)) ∧ (decode cX9_set 24 = .ok (.bipush 9, 2)) ∧ (decode cX9_set 26 = .ok (.invokestatic 98, 3)) ∧ (decode cX9_set 29 = .ok (.ifCond .ne 6, 3)) ∧ (decode cX9_set 32 = .ok (.bipush (-101), 2)) := by decide +kernel
theorem dX9_set_0 : decode cX9_set 0 = .ok (.aload_n 0, 1) := bdX9_set_0.1
theorem dX9_set_1 : decode cX9_set 1 = .ok (.getfield 12, 3) := bdX9_set_0.2.1
theorem dX9_set_4 : decode cX9_set 4 = .ok (.iload_n 1, 1) := bdX9_set_0.2.2.1
theorem dX9_set_5 : decode cX9_set 5 = .ok (.invokevirtual 91, 3) := bdX9_set_0.2.2.2.1
theorem dX9_set_8 : decode cX9_set 8 = .ok (.ifCond .eq 24, 3) := bdX9_set_0.2.2.2.2.1
theorem dX9_set_11 : decode cX9_set 11 = .ok (.aload_n 0, 1) := bdX9_set_0.2.2.2.2.2.1
theorem dX9_set_12 : decode cX9_set 12 = .ok (.getfield 12, 3) := bdX9_set_0.2.2.2.2.2.2.1
theorem dX9_set_15 : decode cX9_set 15 = .ok (.iload_n 2, 1) := bdX9_set_0.2.2.2.2.2.2.2.1
theorem dX9_set_16 : decode cX9_set 16 = .ok (.invokevirtual 95, 3) := bdX9_set_0.2.2.2.2.2.2.2.2.1
theorem dX9_set_19 : decode cX9_set 19 = .ok (.ifCond .eq 13, 3) := bdX9_set_0.2.2.2.2.2.2.2.2.2.1
theorem dX9_set_22 : decode cX9_set 22 = .ok (.iload_n 3, 1) := bdX9_set_0.2.2.2.2.2.2.2.2.2.2.1
theorem dX9_set_23 : decode cX9_set 23 = .ok (.i2l, 1) := bdX9_set_0.2.2.2.2.2.2.2.2.2.2.2.1
theorem dX9_set_24 : decode cX9_set 24 = .ok (.bipush 9, 2) := bdX9_set_0.2.2.2.2.2.2.2.2.2.2.2.2.1
theorem dX9_set_26 : decode cX9_set 26 = .ok (.invokestatic 98, 3) := bdX9_set_0.2.2.2.2.2.2.2.2.2.2.2.2.2.1
theorem dX9_set_29 : decode cX9_set 29 = .ok (.ifCond .ne 6, 3) := bdX9_set_0.2.2.2.2.2.2.2.2.2.2.2.2.2.2.1
theorem dX9_set_32 : decode cX9_set 32 = .ok (.bipush (-101), 2) := bdX9_set_0.2.2.2.2.2.2.2.2.2.2.2.2.2.2.2
theorem bdX9_set_34 : (decode cX9_set 34 = .ok (.ireturn, 1)) ∧ (decode cX9_set 35 = .ok (.aload_n 0, 1)) ∧ (decode cX9_set 36 = .ok (.getfield 21, 3)) ∧ (decode cX9_set 39 = .ok (.iload_n 1, 1)) ∧ (decode cX9_set 40 = .ok (.iload_n 2, 1)) ∧ (decode cX9_set 41 = .ok (.iload_n 3, 1)) ∧ (decode cX9_set 42 = .ok (.invokevirtual 102, 3)) ∧ (decode cX9_set 45 = .ok (.ireturn, 1)) := by decide +kernel
theorem dX9_set_34 : decode cX9_set 34 = .ok (.ireturn, 1) := bdX9_set_34.1
theorem dX9_set_35 : decode cX9_set 35 = .ok (.aload_n 0, 1) := bdX9_set_34.2.1
theorem dX9_set_36 : decode cX9_set 36 = .ok (.getfield 21, 3) := bdX9_set_34.2.2.1
theorem dX9_set_39 : decode cX9_set 39 = .ok (.iload_n 1, 1) := bdX9_set_34.2.2.2.1
theorem dX9_set_40 : decode cX9_set 40 = .ok (.iload_n 2, 1) := bdX9_set_34.2.2.2.2.1
theorem dX9_set_41 : decode cX9_set 41 = .ok (.iload_n 3, 1) := bdX9_set_34.2.2.2.2.2.1
theorem dX9_set_42 : decode cX9_set 42 = .ok (.invokevirtual 102, 3) := bdX9_set_34.2.2.2.2.2.2.1
theorem dX9_set_45 : decode cX9_set 45 = .ok (.ireturn, 1) := bdX9_set_34.2.2.2.2.2.2.2
set_option maxHeartbeats 4000000 in
set_option maxRecDepth 100000 in
theorem k_X9_set (l : Launch) (dC : Nat → ClassId) (dI : Nat → Nat → Nat) (h : Nat → Nat) (cs : Nat → ClassId) (sz : Nat) (I : Nat → Int32) (L : Nat → Int64) (A : Nat → Nat → Int32) (Q : Nat → Nat → Int64) (G : Nat → Nat → Nat → Int32) (J : Nat → Nat → Nat → Int64) (x y v : Int32) (R M sp9 o bk : Nat) (hR : I 120 = nI R) (hR1 : 1 ≤ R) (hR5 : R ≤ 5) (hM : I 121 = nI M) (hM1 : 1 ≤ M) (hM4 : M ≤ 4) (hst : I 123 = nI sp9) (hst2 : sp9 < 1000000000) (ho : I 144 = nI o) (ho4 : o < 40) (hbk : I 145 = nI bk) (hbk4 : bk ≤ 40) : Met l yX9_set wsX9_set ({ frames := 2, cells := 0, slots := 0, locals := 48 }) (va_Pc [.ref (h 100), .int x, .int y, .int v] (xPre (dC, dI) (wF1 h cs I L A Q G J) (tysA cs) sz)) (va_Qi (fun (r : Int32) (u : CS) => ∃ x123 : Int32, ∃ f136 : Nat → Int32, ∃ g0 : Nat → Nat → Int32, ∃ x144 : Int32, ∃ x145 : Int32, ∃ x146 : Int32, ∃ f140 : Nat → Int32, ∃ f141 : Nat → Int32, ∃ f142 : Nat → Int32, ∃ f143 : Nat → Int32, ((∃ i j : Nat, i < R ∧ j < M ∧ x = nI i ∧ y = nI j ∧ (-9 ≤ v.toInt ∧ v.toInt ≤ 9) ∧ r = atF (A 136) (G 0) M i j ∧ x123 = nI (sp9 + 1) ∧ putP M i j v (A 136) (G 0) f136 g0 ∧ ∃ o2 b2 : Nat, ((bk < 40 ∧ o2 = o ∧ b2 = bk) ∨ (bk = 40 ∧ o2 = (o + 1) % 40 ∧ b2 = 39)) ∧ x144 = nI o2 ∧ x145 = nI (b2 + 1) ∧ x146 = nI 0 ∧ f140 = upd (A 140) ((o2 + b2) % 40) (nI i) ∧ f141 = upd (A 141) ((o2 + b2) % 40) (nI j) ∧ f142 = upd (A 142) ((o2 + b2) % 40) (atF (A 136) (G 0) M i j) ∧ f143 = upd (A 143) ((o2 + b2) % 40) v) ∨ (r = -101 ∧ (∀ i j : Nat, i < R → j < M → x = nI i → y = nI j → (-9 ≤ v.toInt ∧ v.toInt ≤ 9) → False) ∧ x123 = I 123 ∧ f136 = A 136 ∧ g0 = G 0 ∧ x144 = I 144 ∧ x145 = I 145 ∧ x146 = I 146 ∧ f140 = A 140 ∧ f141 = A 141 ∧ f142 = A 142 ∧ f143 = A 143)) ∧ u = ((va_up (va_up (va_up (va_up I 123 x123) 144 x144) 145 x145) 146 x146), L, (va_up (va_up (va_up (va_up (va_up A 136 f136) 140 f140) 141 f141) 142 f142) 143 f143), Q, (va_up G 0 g0), J)) (xB (dC, dI) (tysA cs) (va_A (wF1 h cs I L A Q G J) sz) (fun u : CS => wF1 h cs u.1 u.2.1 u.2.2.1 u.2.2.2.1 u.2.2.2.2.1 u.2.2.2.2.2)) (va_A (wF1 h cs I L A Q G J) sz)) 0 0 (va_A (wF1 h cs I L A Q G J) sz) := by
  refine Met.ofW (cc := cX9_set) (maxL := 4) (ret := (some .int)) (by decide) rfl ?_
  intro p e s m args below meth c s₁ B hml hv
  obtain ⟨rfl, hsz, hP, hK, hD0, hN⟩ := hv
  have hx := B.exec
  have hb := B.bytes
  have hr := B.returns
  have hts := atoms_spec (ws := wsX9_set) B.pre
  have hown : s.vm.findClass RX9 = some m.cls := findClass_of_methodNamed B.named
  have hlocks := B.notSynchronized
  subst hsz
  have hD := hD0.self (sz := s.heap.size)
  generalize hAe : va_A (wF1 h cs I L A Q G J) s.heap.size = A0 at hD ⊢
  have hA : ∀ q : Nat, s.heap.size ≤ q → A0 q := fun q h => by rw [← hAe]; exact Or.inr h
  have hl := lv_entry ([.ref (h 100), .int x, .int y, .int v]) (n := 4) (Nat.le_of_ble_eq_true rfl)
  rw [lg_entry_eq]
  generalize (lg_sl ([.ref (h 100), .int x, .int y, .int v]) ++ List.replicate (4 - (lg_sl ([.ref (h 100), .int x, .int y, .int v])).length) Slot.unset).toArray = ls at hl ⊢
  have hl : lv_has ls 4 [(0, .ref (h 100)), (1, .int x), (2, .int y), (3, .int v)] := hl
  generalize hH : s.heap = H at hP ⊢
  have hS : va_S A0 s.heap H [] := by rw [← hH]; exact va_S.rf
  have hinX9 : ∀ w ∈ wsX90, w ∈ wsX9_set := by decide +kernel
  refine lv_aload_n hx hb dX9_set_0 rfl (lv_at hl 0 rfl) ?_
  refine va_get (D := (dC, dI)) (ci := 9) (v := .ref (h 101)) (C := RX9) (T := TX9) (N := 9) hx hb hts hinX9 hown hK hP 0 rfl rfl 0 (by decide) (hts (.fieldLink RX9 12 "MixedWords" "mix" "LMixedWords$Mix;") (by decide +kernel)) (fun _ h9 => h9) rfl dX9_set_1 ?_
  refine lv_iload_n hx hb dX9_set_4 rfl (lv_at hl 1 rfl) ?_
  refine xj_i (wc := (wMix h cs I L A Q G J)) (wr := [(h 100, .inr (9, [.ref (h 101), .ref (h 102), .ref (h 103), .ref (h 104), .ref (h 105), .ref (h 106), .ref (h 107), .ref (h 108), .ref (h 109)])), (h 102, .inr (0, [.ref (h 101), .ref (h 140), .ref (h 141), .ref (h 142), .ref (h 143), .int (I 144), .int (I 145), .int (I 146)])), (h 140, .inl (cs 0, 40, .inl (A 140))), (h 141, .inl (cs 0, 40, .inl (A 141))), (h 142, .inl (cs 0, 40, .inl (A 142))), (h 143, .inl (cs 0, 40, .inl (A 143)))]) hP hD hS hA [6, 7, 8, 9, 10, 11, 12, 13] [0, 1, 2, 3, 4, 5] rfl rfl (by decide +kernel) (by decide +kernel) (va_runV (As := [.int x]) (rest := []) ⟨hx, hb, hml, hown, hts⟩ (k_X3_hasRow l dC dI h cs H.size I L A Q G J x R hR (by first | assumption | omega | exact hR1) (by first | assumption | omega | exact hR5)) (cwV 1 hts gX9_set_X3_hasRow rfl rfl rfl (by decide +kernel) ⟨Nat.le_of_ble_eq_true rfl, Nat.le_of_ble_eq_true rfl⟩) (xpV (wc := (wMix h cs I L A Q G J)) hP hD hK hN [6, 7, 8, 9, 10, 11, 12, 13] rfl (by decide) 6 (ci := 3) rfl rfl _) rfl rfl hl.1 rfl (lv_room (Nat.le_of_ble_eq_true rfl)) dX9_set_5 ⟨Nat.zero_le _, Nat.zero_le _⟩) (fun r_2 u_1 H locs hw hP hD hS => ?_)
  obtain ⟨hf_3, rfl⟩ := hw
  have hP : va_P (dC, dI) vwCl (wF1 h cs I L A Q G J) H := hP
  have hD : va_D A0 (wF1 h cs I L A Q G J) := hD
  rcases hf_3 with ⟨rfl, i_4, hi_5, hx_6⟩ | ⟨rfl, hn_7⟩
  · skip
    rw [hx_6] at hl
    refine xs_eqF (tgt := 32) hx hb dX9_set_8 (by decide) (by decide) ?_
    refine lv_aload_n hx hb dX9_set_11 rfl (lv_at hl 0 rfl) ?_
    refine va_get (D := (dC, dI)) (ci := 9) (v := .ref (h 101)) (C := RX9) (T := TX9) (N := 9) hx hb hts hinX9 hown hK hP 0 rfl rfl 0 (by decide) (hts (.fieldLink RX9 12 "MixedWords" "mix" "LMixedWords$Mix;") (by decide +kernel)) (fun _ h9 => h9) rfl dX9_set_12 ?_
    refine lv_iload_n hx hb dX9_set_15 rfl (lv_at hl 2 rfl) ?_
    refine xj_i (wc := (wMix h cs I L A Q G J)) (wr := [(h 100, .inr (9, [.ref (h 101), .ref (h 102), .ref (h 103), .ref (h 104), .ref (h 105), .ref (h 106), .ref (h 107), .ref (h 108), .ref (h 109)])), (h 102, .inr (0, [.ref (h 101), .ref (h 140), .ref (h 141), .ref (h 142), .ref (h 143), .int (I 144), .int (I 145), .int (I 146)])), (h 140, .inl (cs 0, 40, .inl (A 140))), (h 141, .inl (cs 0, 40, .inl (A 141))), (h 142, .inl (cs 0, 40, .inl (A 142))), (h 143, .inl (cs 0, 40, .inl (A 143)))]) hP hD hS hA [6, 7, 8, 9, 10, 11, 12, 13] [0, 1, 2, 3, 4, 5] rfl rfl (by decide +kernel) (by decide +kernel) (va_runV (As := [.int y]) (rest := []) ⟨hx, hb, hml, hown, hts⟩ (k_X3_hasColumn l dC dI h cs H.size I L A Q G J y M hM (by first | assumption | omega | exact hM1) (by first | assumption | omega | exact hM4)) (cwV 1 hts gX9_set_X3_hasColumn rfl rfl rfl (by decide +kernel) ⟨Nat.le_of_ble_eq_true rfl, Nat.le_of_ble_eq_true rfl⟩) (xpV (wc := (wMix h cs I L A Q G J)) hP hD hK hN [6, 7, 8, 9, 10, 11, 12, 13] rfl (by decide) 6 (ci := 3) rfl rfl _) rfl rfl hl.1 rfl (lv_room (Nat.le_of_ble_eq_true rfl)) dX9_set_16 ⟨Nat.zero_le _, Nat.zero_le _⟩) (fun r_10 u_9 H locs hw hP hD hS => ?_)
    obtain ⟨hf_11, rfl⟩ := hw
    have hP : va_P (dC, dI) vwCl (wF1 h cs I L A Q G J) H := hP
    have hD : va_D A0 (wF1 h cs I L A Q G J) := hD
    rcases hf_11 with ⟨rfl, i_12, hi_13, hx_14⟩ | ⟨rfl, hn_15⟩
    · skip
      rw [hx_14] at hl
      refine xs_eqF (tgt := 32) hx hb dX9_set_19 (by decide) (by decide) ?_
      refine lv_iload_n hx hb dX9_set_22 rfl (lv_at hl 3 rfl) ?_
      refine lv_i2l (v := v.toInt64) hx hb dX9_set_23 rfl ?_
      refine lv_bipush (v := nI 9) hx hb dX9_set_24 (by decide) ?_
      refine xj_i (wc := ([] : va_W)) (wr := (wF1 h cs I L A Q G J)) hP hD hS hA [] [0, 1, 2, 3, 4, 5, 6, 7, 8, 9, 10, 11, 12, 13] rfl rfl (by decide +kernel) (by decide +kernel) (va_runS (As := [.long v.toInt64, .int (nI 9)]) (rest := []) ⟨hx, hb, hml, hown, hts⟩ (k_X9_within l dC dI h cs H.size I L A Q G J v.toInt64 (nI 9)) (va_cwS 2 hts gX9_set_X9_within rfl rfl rfl (by decide +kernel) ⟨Nat.le_of_ble_eq_true rfl, Nat.le_of_ble_eq_true rfl⟩) (xpS (wc := ([] : va_W)) hP hD hK hN [] rfl (by decide) _) rfl rfl hl.1 rfl (lv_room (Nat.le_of_ble_eq_true rfl)) dX9_set_26 ⟨Nat.zero_le _, Nat.zero_le _⟩) (fun r_18 u_17 H locs hw hP hD hS => ?_)
      obtain ⟨hf_19, rfl⟩ := hw
      have hP : va_P (dC, dI) vwCl (wF1 h cs I L A Q G J) H := hP
      have hD : va_D A0 (wF1 h cs I L A Q G J) := hD
      rcases in_Z (a := -9) (b := 9) neg9 rfl hf_19 with ⟨rfl, ha_20, hb_21⟩ | ⟨rfl, hn_22⟩
      · skip
        refine xs_neT (tgt := 35) hx hb dX9_set_29 (by decide) (by decide) ?_
        refine lv_aload_n hx hb dX9_set_35 rfl (lv_at hl 0 rfl) ?_
        refine va_get (D := (dC, dI)) (ci := 9) (v := .ref (h 102)) (C := RX9) (T := TX9) (N := 9) hx hb hts hinX9 hown hK hP 0 rfl rfl 1 (by decide) (hts (.fieldLink RX9 21 "MixedWords" "acts" "LMixedWords$Acts;") (by decide +kernel)) (fun _ h9 => h9) rfl dX9_set_36 ?_
        refine lv_iload_n hx hb dX9_set_39 rfl (lv_at hl 1 rfl) ?_
        refine lv_iload_n hx hb dX9_set_40 rfl (lv_at hl 2 rfl) ?_
        refine lv_iload_n hx hb dX9_set_41 rfl (lv_at hl 3 rfl) ?_
        refine xj_i (wc := (wActs h cs I L A Q G J)) (wr := [(h 100, .inr (9, [.ref (h 101), .ref (h 102), .ref (h 103), .ref (h 104), .ref (h 105), .ref (h 106), .ref (h 107), .ref (h 108), .ref (h 109)]))]) hP hD hS hA [1, 2, 3, 4, 5, 6, 7, 8, 9, 10, 11, 12, 13] [0] rfl rfl (by decide +kernel) (by decide +kernel) (va_runV (As := [.int (nI i_4), .int (nI i_12), .int v]) (rest := []) ⟨hx, hb, hml, hown, hts⟩ (k_X0_take l dC dI h cs H.size I L A Q G J i_4 i_12 v M sp9 o bk (by first | assumption | omega) (by first | assumption | omega) hM (by first | assumption | omega | exact hM1) (by first | assumption | omega | exact hM4) hst (by first | assumption | omega | exact hst2) ho (by first | assumption | omega | exact ho4) hbk (by first | assumption | omega | exact hbk4)) (cwV 3 hts gX9_set_X0_take rfl rfl rfl (by decide +kernel) ⟨Nat.le_of_ble_eq_true rfl, Nat.le_of_ble_eq_true rfl⟩) (xpV (wc := (wActs h cs I L A Q G J)) hP hD hK hN [1, 2, 3, 4, 5, 6, 7, 8, 9, 10, 11, 12, 13] rfl (by decide) 1 (ci := 0) rfl rfl _) rfl rfl hl.1 rfl (lv_room (Nat.le_of_ble_eq_true rfl)) dX9_set_42 ⟨Nat.zero_le _, Nat.zero_le _⟩) (fun r_25 u_24 H locs hw hP hD hS => ?_)
        obtain ⟨x123_26, f136_27, g0_28, x144_29, x145_30, x146_31, f140_32, f141_33, f142_34, f143_35, hf_36, rfl⟩ := hw
        have hP : va_P (dC, dI) vwCl (wF1 h cs (va_up (va_up (va_up (va_up I 123 x123_26) 144 x144_29) 145 x145_30) 146 x146_31) L (va_up (va_up (va_up (va_up (va_up A 136 f136_27) 140 f140_32) 141 f141_33) 142 f142_34) 143 f143_35) Q (va_up G 0 g0_28) J) H := hP
        have hD : va_D A0 (wF1 h cs (va_up (va_up (va_up (va_up I 123 x123_26) 144 x144_29) 145 x145_30) 146 x146_31) L (va_up (va_up (va_up (va_up (va_up A 136 f136_27) 140 f140_32) 141 f141_33) 142 f142_34) 143 f143_35) Q (va_up G 0 g0_28) J) := hD
        exact xr_i (v := r_25) hx hb hr hlocks hK hS dX9_set_45 ((va_up (va_up (va_up (va_up I 123 x123_26) 144 x144_29) 145 x145_30) 146 x146_31), L, (va_up (va_up (va_up (va_up (va_up A 136 f136_27) 140 f140_32) 141 f141_33) 142 f142_34) 143 f143_35), Q, (va_up G 0 g0_28), J) ⟨x123_26, f136_27, g0_28, x144_29, x145_30, x146_31, f140_32, f141_33, f142_34, f143_35, (Or.inl ⟨i_4, i_12, hi_5, hi_13, hx_6, hx_14, ⟨ha_20, hb_21⟩, hf_36⟩), rfl⟩ hP hD
      · skip
        refine xs_neF (tgt := 35) hx hb dX9_set_29 (by decide) (by decide) ?_
        refine lv_bipush (v := (-101)) hx hb dX9_set_32 (by decide) ?_
        exact xr_i (v := (-101)) hx hb hr hlocks hK hS dX9_set_34 ((va_up (va_up (va_up (va_up I 123 (I 123)) 144 (I 144)) 145 (I 145)) 146 (I 146)), L, (va_up (va_up (va_up (va_up (va_up A 136 (A 136)) 140 (A 140)) 141 (A 141)) 142 (A 142)) 143 (A 143)), Q, (va_up G 0 (G 0)), J) ⟨(I 123), (A 136), (G 0), (I 144), (I 145), (I 146), (A 140), (A 141), (A 142), (A 143), (Or.inr ⟨rfl, fun i j a9 b9 c9 d9 e9 => hn_22 e9, rfl, rfl, rfl, rfl, rfl, rfl, rfl, rfl, rfl, rfl⟩), rfl⟩ hP hD
    · skip
      refine xs_eqT (tgt := 32) hx hb dX9_set_19 (by decide) (by decide) ?_
      refine lv_bipush (v := (-101)) hx hb dX9_set_32 (by decide) ?_
      exact xr_i (v := (-101)) hx hb hr hlocks hK hS dX9_set_34 ((va_up (va_up (va_up (va_up I 123 (I 123)) 144 (I 144)) 145 (I 145)) 146 (I 146)), L, (va_up (va_up (va_up (va_up (va_up A 136 (A 136)) 140 (A 140)) 141 (A 141)) 142 (A 142)) 143 (A 143)), Q, (va_up G 0 (G 0)), J) ⟨(I 123), (A 136), (G 0), (I 144), (I 145), (I 146), (A 140), (A 141), (A 142), (A 143), (Or.inr ⟨rfl, fun i j a9 b9 c9 d9 e9 => hn_15 j b9 d9, rfl, rfl, rfl, rfl, rfl, rfl, rfl, rfl, rfl, rfl⟩), rfl⟩ hP hD
  · skip
    refine xs_eqT (tgt := 32) hx hb dX9_set_8 (by decide) (by decide) ?_
    refine lv_bipush (v := (-101)) hx hb dX9_set_32 (by decide) ?_
    exact xr_i (v := (-101)) hx hb hr hlocks hK hS dX9_set_34 ((va_up (va_up (va_up (va_up I 123 (I 123)) 144 (I 144)) 145 (I 145)) 146 (I 146)), L, (va_up (va_up (va_up (va_up (va_up A 136 (A 136)) 140 (A 140)) 141 (A 141)) 142 (A 142)) 143 (A 143)), Q, (va_up G 0 (G 0)), J) ⟨(I 123), (A 136), (G 0), (I 144), (I 145), (I 146), (A 140), (A 141), (A 142), (A 143), (Or.inr ⟨rfl, fun i j a9 b9 c9 d9 e9 => hn_7 i a9 c9, rfl, rfl, rfl, rfl, rfl, rfl, rfl, rfl, rfl, rfl⟩), rfl⟩ hP hD
set_option maxRecDepth 20000 in
theorem ggX9_hear_X3_hasRow : GoodIn wsX9_hear wsX3_hasRow := goodIn_r _ [8, 9, 48, 49, 50, 51, 52, 53] rfl (by decide +kernel)
set_option maxRecDepth 20000 in
theorem gX9_hear_X3_hasRow : GoodIn wsX9_hear (wsV RX9 91 RX3 yX3_hasRow wsX3_hasRow) := goodIn_app (goodIn_of _ (by decide +kernel)) ggX9_hear_X3_hasRow
set_option maxRecDepth 20000 in
theorem ggX9_hear_X9_within : GoodIn wsX9_hear wsX9_within := goodIn_r _ [13] rfl (by decide +kernel)
set_option maxRecDepth 20000 in
theorem gX9_hear_X9_within : GoodIn wsX9_hear (va_wsS RX9 98 yX9_within wsX9_within) := goodIn_app (goodIn_of _ (by decide +kernel)) ggX9_hear_X9_within
set_option maxRecDepth 20000 in
theorem ggX9_hear_X0_take : GoodIn wsX9_hear wsX0_take := goodIn_r _ [18, 19, 20, 21, 22, 23, 24, 25, 26, 27, 28, 29, 7, 30, 31, 32, 33, 34, 35, 36, 37, 38, 54, 55, 56, 57, 58, 59, 60, 61, 48, 49, 50, 51, 52, 53] rfl (by decide +kernel)
set_option maxRecDepth 20000 in
theorem gX9_hear_X0_take : GoodIn wsX9_hear (wsV RX9 102 RX0 yX0_take wsX0_take) := goodIn_app (goodIn_of _ (by decide +kernel)) ggX9_hear_X0_take
theorem bdX9_hear_0 : (decode cX9_hear 0 = .ok (.aload_n 0, 1)) ∧ (decode cX9_hear 1 = .ok (.getfield 12, 3)) ∧ (decode cX9_hear 4 = .ok (.iload_n 1, 1)) ∧ (decode cX9_hear 5 = .ok (.invokevirtual 91, 3)) ∧ (decode cX9_hear 8 = .ok (.ifCond .eq 14, 3)) ∧ (decode cX9_hear 11 = .ok (.iload_n 2, 1)) ∧ (decode cX9_hear 12 = .ok (.i2l, 1)) ∧ (decode cX9_hear 13 = .ok (.sipush 999, 3)) ∧ (decode cX9_hear 16 = .ok (.invokestatic 98, 3)) ∧ (decode cX9_hear 19 = .ok (.ifCond .ne 7, 3)) ∧ (decode cX9_hear 22 = .ok (.sipush (-10001), 3)) ∧ (decode cX9_hear 25 = .ok (.ireturn, 1)) ∧ (decode cX9_hear 26 = .ok (.aload_n 0, 1)) ∧ (decode cX9_hear 27 = .ok (.getfield 21, 3)) ∧ (decode cX9_hear 30 = .ok (.iload_n 1, 1)) ∧ (decode cX9_hear 31 = .ok (.aload_n 0, 1)) := by decide +kernel
theorem dX9_hear_0 : decode cX9_hear 0 = .ok (.aload_n 0, 1) := bdX9_hear_0.1
theorem dX9_hear_1 : decode cX9_hear 1 = .ok (.getfield 12, 3) := bdX9_hear_0.2.1
theorem dX9_hear_4 : decode cX9_hear 4 = .ok (.iload_n 1, 1) := bdX9_hear_0.2.2.1
theorem dX9_hear_5 : decode cX9_hear 5 = .ok (.invokevirtual 91, 3) := bdX9_hear_0.2.2.2.1
theorem dX9_hear_8 : decode cX9_hear 8 = .ok (.ifCond .eq 14, 3) := bdX9_hear_0.2.2.2.2.1
theorem dX9_hear_11 : decode cX9_hear 11 = .ok (.iload_n 2, 1) := bdX9_hear_0.2.2.2.2.2.1
theorem dX9_hear_12 : decode cX9_hear 12 = .ok (.i2l, 1) := bdX9_hear_0.2.2.2.2.2.2.1
theorem dX9_hear_13 : decode cX9_hear 13 = .ok (.sipush 999, 3) := bdX9_hear_0.2.2.2.2.2.2.2.1
theorem dX9_hear_16 : decode cX9_hear 16 = .ok (.invokestatic 98, 3) := bdX9_hear_0.2.2.2.2.2.2.2.2.1
theorem dX9_hear_19 : decode cX9_hear 19 = .ok (.ifCond .ne 7, 3) := bdX9_hear_0.2.2.2.2.2.2.2.2.2.1
theorem dX9_hear_22 : decode cX9_hear 22 = .ok (.sipush (-10001), 3) := bdX9_hear_0.2.2.2.2.2.2.2.2.2.2.1
theorem dX9_hear_25 : decode cX9_hear 25 = .ok (.ireturn, 1) := bdX9_hear_0.2.2.2.2.2.2.2.2.2.2.2.1
theorem dX9_hear_26 : decode cX9_hear 26 = .ok (.aload_n 0, 1) := bdX9_hear_0.2.2.2.2.2.2.2.2.2.2.2.2.1
theorem dX9_hear_27 : decode cX9_hear 27 = .ok (.getfield 21, 3) := bdX9_hear_0.2.2.2.2.2.2.2.2.2.2.2.2.2.1
theorem dX9_hear_30 : decode cX9_hear 30 = .ok (.iload_n 1, 1) := bdX9_hear_0.2.2.2.2.2.2.2.2.2.2.2.2.2.2.1
theorem dX9_hear_31 : decode cX9_hear 31 = .ok (.aload_n 0, 1) := bdX9_hear_0.2.2.2.2.2.2.2.2.2.2.2.2.2.2.2
theorem bdX9_hear_32 : (decode cX9_hear 32 = .ok (.getfield 12, 3)) ∧ (decode cX9_hear 35 = .ok (.getfield 106, 3)) ∧ (decode cX9_hear 38 = .ok (.iload_n 2, 1)) ∧ (decode cX9_hear 39 = .ok (.invokevirtual 102, 3)) ∧ (decode cX9_hear 42 = .ok (.ireturn, 1)) := by decide +kernel
theorem dX9_hear_32 : decode cX9_hear 32 = .ok (.getfield 12, 3) := bdX9_hear_32.1
theorem dX9_hear_35 : decode cX9_hear 35 = .ok (.getfield 106, 3) := bdX9_hear_32.2.1
theorem dX9_hear_38 : decode cX9_hear 38 = .ok (.iload_n 2, 1) := bdX9_hear_32.2.2.1
theorem dX9_hear_39 : decode cX9_hear 39 = .ok (.invokevirtual 102, 3) := bdX9_hear_32.2.2.2.1
theorem dX9_hear_42 : decode cX9_hear 42 = .ok (.ireturn, 1) := bdX9_hear_32.2.2.2.2
set_option maxHeartbeats 4000000 in
set_option maxRecDepth 100000 in
theorem k_X9_hear (l : Launch) (dC : Nat → ClassId) (dI : Nat → Nat → Nat) (h : Nat → Nat) (cs : Nat → ClassId) (sz : Nat) (I : Nat → Int32) (L : Nat → Int64) (A : Nat → Nat → Int32) (Q : Nat → Nat → Int64) (G : Nat → Nat → Nat → Int32) (J : Nat → Nat → Nat → Int64) (x v : Int32) (R M sp9 o bk : Nat) (hR : I 120 = nI R) (hR1 : 1 ≤ R) (hR5 : R ≤ 5) (hM : I 121 = nI M) (hM1 : 1 ≤ M) (hM4 : M ≤ 4) (hst : I 123 = nI sp9) (hst2 : sp9 < 1000000000) (ho : I 144 = nI o) (ho4 : o < 40) (hbk : I 145 = nI bk) (hbk4 : bk ≤ 40) : Met l yX9_hear wsX9_hear ({ frames := 2, cells := 0, slots := 0, locals := 48 }) (va_Pc [.ref (h 100), .int x, .int v] (xPre (dC, dI) (wF1 h cs I L A Q G J) (tysA cs) sz)) (va_Qi (fun (r : Int32) (u : CS) => ∃ x123 : Int32, ∃ f136 : Nat → Int32, ∃ g0 : Nat → Nat → Int32, ∃ x144 : Int32, ∃ x145 : Int32, ∃ x146 : Int32, ∃ f140 : Nat → Int32, ∃ f141 : Nat → Int32, ∃ f142 : Nat → Int32, ∃ f143 : Nat → Int32, ((∃ i : Nat, i < R ∧ x = nI i ∧ (-999 ≤ v.toInt ∧ v.toInt ≤ 999) ∧ r = atF (A 136) (G 0) M i M ∧ x123 = nI (sp9 + 1) ∧ putP M i M v (A 136) (G 0) f136 g0 ∧ ∃ o2 b2 : Nat, ((bk < 40 ∧ o2 = o ∧ b2 = bk) ∨ (bk = 40 ∧ o2 = (o + 1) % 40 ∧ b2 = 39)) ∧ x144 = nI o2 ∧ x145 = nI (b2 + 1) ∧ x146 = nI 0 ∧ f140 = upd (A 140) ((o2 + b2) % 40) (nI i) ∧ f141 = upd (A 141) ((o2 + b2) % 40) (nI M) ∧ f142 = upd (A 142) ((o2 + b2) % 40) (atF (A 136) (G 0) M i M) ∧ f143 = upd (A 143) ((o2 + b2) % 40) v) ∨ (r = -10001 ∧ (∀ i : Nat, i < R → x = nI i → (-999 ≤ v.toInt ∧ v.toInt ≤ 999) → False) ∧ x123 = I 123 ∧ f136 = A 136 ∧ g0 = G 0 ∧ x144 = I 144 ∧ x145 = I 145 ∧ x146 = I 146 ∧ f140 = A 140 ∧ f141 = A 141 ∧ f142 = A 142 ∧ f143 = A 143)) ∧ u = ((va_up (va_up (va_up (va_up I 123 x123) 144 x144) 145 x145) 146 x146), L, (va_up (va_up (va_up (va_up (va_up A 136 f136) 140 f140) 141 f141) 142 f142) 143 f143), Q, (va_up G 0 g0), J)) (xB (dC, dI) (tysA cs) (va_A (wF1 h cs I L A Q G J) sz) (fun u : CS => wF1 h cs u.1 u.2.1 u.2.2.1 u.2.2.2.1 u.2.2.2.2.1 u.2.2.2.2.2)) (va_A (wF1 h cs I L A Q G J) sz)) 0 0 (va_A (wF1 h cs I L A Q G J) sz) := by
  refine Met.ofW (cc := cX9_hear) (maxL := 3) (ret := (some .int)) (by decide) rfl ?_
  intro p e s m args below meth c s₁ B hml hv
  obtain ⟨rfl, hsz, hP, hK, hD0, hN⟩ := hv
  have hx := B.exec
  have hb := B.bytes
  have hr := B.returns
  have hts := atoms_spec (ws := wsX9_hear) B.pre
  have hown : s.vm.findClass RX9 = some m.cls := findClass_of_methodNamed B.named
  have hlocks := B.notSynchronized
  subst hsz
  have hD := hD0.self (sz := s.heap.size)
  generalize hAe : va_A (wF1 h cs I L A Q G J) s.heap.size = A0 at hD ⊢
  have hA : ∀ q : Nat, s.heap.size ≤ q → A0 q := fun q h => by rw [← hAe]; exact Or.inr h
  have hl := lv_entry ([.ref (h 100), .int x, .int v]) (n := 3) (Nat.le_of_ble_eq_true rfl)
  rw [lg_entry_eq]
  generalize (lg_sl ([.ref (h 100), .int x, .int v]) ++ List.replicate (3 - (lg_sl ([.ref (h 100), .int x, .int v])).length) Slot.unset).toArray = ls at hl ⊢
  have hl : lv_has ls 3 [(0, .ref (h 100)), (1, .int x), (2, .int v)] := hl
  generalize hH : s.heap = H at hP ⊢
  have hS : va_S A0 s.heap H [] := by rw [← hH]; exact va_S.rf
  have hinX9 : ∀ w ∈ wsX90, w ∈ wsX9_hear := by decide +kernel
  have hinX3 : ∀ w ∈ wsX30, w ∈ wsX9_hear := by decide +kernel
  refine lv_aload_n hx hb dX9_hear_0 rfl (lv_at hl 0 rfl) ?_
  refine va_get (D := (dC, dI)) (ci := 9) (v := .ref (h 101)) (C := RX9) (T := TX9) (N := 9) hx hb hts hinX9 hown hK hP 0 rfl rfl 0 (by decide) (hts (.fieldLink RX9 12 "MixedWords" "mix" "LMixedWords$Mix;") (by decide +kernel)) (fun _ h9 => h9) rfl dX9_hear_1 ?_
  refine lv_iload_n hx hb dX9_hear_4 rfl (lv_at hl 1 rfl) ?_
  refine xj_i (wc := (wMix h cs I L A Q G J)) (wr := [(h 100, .inr (9, [.ref (h 101), .ref (h 102), .ref (h 103), .ref (h 104), .ref (h 105), .ref (h 106), .ref (h 107), .ref (h 108), .ref (h 109)])), (h 102, .inr (0, [.ref (h 101), .ref (h 140), .ref (h 141), .ref (h 142), .ref (h 143), .int (I 144), .int (I 145), .int (I 146)])), (h 140, .inl (cs 0, 40, .inl (A 140))), (h 141, .inl (cs 0, 40, .inl (A 141))), (h 142, .inl (cs 0, 40, .inl (A 142))), (h 143, .inl (cs 0, 40, .inl (A 143)))]) hP hD hS hA [6, 7, 8, 9, 10, 11, 12, 13] [0, 1, 2, 3, 4, 5] rfl rfl (by decide +kernel) (by decide +kernel) (va_runV (As := [.int x]) (rest := []) ⟨hx, hb, hml, hown, hts⟩ (k_X3_hasRow l dC dI h cs H.size I L A Q G J x R hR (by first | assumption | omega | exact hR1) (by first | assumption | omega | exact hR5)) (cwV 1 hts gX9_hear_X3_hasRow rfl rfl rfl (by decide +kernel) ⟨Nat.le_of_ble_eq_true rfl, Nat.le_of_ble_eq_true rfl⟩) (xpV (wc := (wMix h cs I L A Q G J)) hP hD hK hN [6, 7, 8, 9, 10, 11, 12, 13] rfl (by decide) 6 (ci := 3) rfl rfl _) rfl rfl hl.1 rfl (lv_room (Nat.le_of_ble_eq_true rfl)) dX9_hear_5 ⟨Nat.zero_le _, Nat.zero_le _⟩) (fun r_2 u_1 H locs hw hP hD hS => ?_)
  obtain ⟨hf_3, rfl⟩ := hw
  have hP : va_P (dC, dI) vwCl (wF1 h cs I L A Q G J) H := hP
  have hD : va_D A0 (wF1 h cs I L A Q G J) := hD
  rcases hf_3 with ⟨rfl, i_4, hi_5, hx_6⟩ | ⟨rfl, hn_7⟩
  · skip
    rw [hx_6] at hl
    refine xs_eqF (tgt := 22) hx hb dX9_hear_8 (by decide) (by decide) ?_
    refine lv_iload_n hx hb dX9_hear_11 rfl (lv_at hl 2 rfl) ?_
    refine lv_i2l (v := v.toInt64) hx hb dX9_hear_12 rfl ?_
    refine lv_sipush (v := nI 999) hx hb dX9_hear_13 (by decide) ?_
    refine xj_i (wc := ([] : va_W)) (wr := (wF1 h cs I L A Q G J)) hP hD hS hA [] [0, 1, 2, 3, 4, 5, 6, 7, 8, 9, 10, 11, 12, 13] rfl rfl (by decide +kernel) (by decide +kernel) (va_runS (As := [.long v.toInt64, .int (nI 999)]) (rest := []) ⟨hx, hb, hml, hown, hts⟩ (k_X9_within l dC dI h cs H.size I L A Q G J v.toInt64 (nI 999)) (va_cwS 2 hts gX9_hear_X9_within rfl rfl rfl (by decide +kernel) ⟨Nat.le_of_ble_eq_true rfl, Nat.le_of_ble_eq_true rfl⟩) (xpS (wc := ([] : va_W)) hP hD hK hN [] rfl (by decide) _) rfl rfl hl.1 rfl (lv_room (Nat.le_of_ble_eq_true rfl)) dX9_hear_16 ⟨Nat.zero_le _, Nat.zero_le _⟩) (fun r_10 u_9 H locs hw hP hD hS => ?_)
    obtain ⟨hf_11, rfl⟩ := hw
    have hP : va_P (dC, dI) vwCl (wF1 h cs I L A Q G J) H := hP
    have hD : va_D A0 (wF1 h cs I L A Q G J) := hD
    rcases in_Z (a := -999) (b := 999) neg999 rfl hf_11 with ⟨rfl, ha_12, hb_13⟩ | ⟨rfl, hn_14⟩
    · skip
      refine xs_neT (tgt := 26) hx hb dX9_hear_19 (by decide) (by decide) ?_
      refine lv_aload_n hx hb dX9_hear_26 rfl (lv_at hl 0 rfl) ?_
      refine va_get (D := (dC, dI)) (ci := 9) (v := .ref (h 102)) (C := RX9) (T := TX9) (N := 9) hx hb hts hinX9 hown hK hP 0 rfl rfl 1 (by decide) (hts (.fieldLink RX9 21 "MixedWords" "acts" "LMixedWords$Acts;") (by decide +kernel)) (fun _ h9 => h9) rfl dX9_hear_27 ?_
      refine lv_iload_n hx hb dX9_hear_30 rfl (lv_at hl 1 rfl) ?_
      refine lv_aload_n hx hb dX9_hear_31 rfl (lv_at hl 0 rfl) ?_
      refine va_get (D := (dC, dI)) (ci := 9) (v := .ref (h 101)) (C := RX9) (T := TX9) (N := 9) hx hb hts hinX9 hown hK hP 0 rfl rfl 0 (by decide) (hts (.fieldLink RX9 12 "MixedWords" "mix" "LMixedWords$Mix;") (by decide +kernel)) (fun _ h9 => h9) rfl dX9_hear_32 ?_
      refine va_get (D := (dC, dI)) (ci := 3) (v := .int (I 121)) (C := RX3) (T := TX3) (N := 6) hx hb hts hinX3 hown hK hP 6 rfl rfl 1 (by decide) (hts (.fieldLink RX9 106 "MixedWords$Mix" "width" "I") (by decide +kernel)) (fun _ h9 => h9) rfl dX9_hear_35 ?_
      refine xt_i (y := nI M) (hM) ?_
      refine lv_iload_n hx hb dX9_hear_38 rfl (lv_at hl 2 rfl) ?_
      refine xj_i (wc := (wActs h cs I L A Q G J)) (wr := [(h 100, .inr (9, [.ref (h 101), .ref (h 102), .ref (h 103), .ref (h 104), .ref (h 105), .ref (h 106), .ref (h 107), .ref (h 108), .ref (h 109)]))]) hP hD hS hA [1, 2, 3, 4, 5, 6, 7, 8, 9, 10, 11, 12, 13] [0] rfl rfl (by decide +kernel) (by decide +kernel) (va_runV (As := [.int (nI i_4), .int (nI M), .int v]) (rest := []) ⟨hx, hb, hml, hown, hts⟩ (k_X0_take l dC dI h cs H.size I L A Q G J i_4 M v M sp9 o bk (by first | assumption | omega) (by first | assumption | omega) hM (by first | assumption | omega | exact hM1) (by first | assumption | omega | exact hM4) hst (by first | assumption | omega | exact hst2) ho (by first | assumption | omega | exact ho4) hbk (by first | assumption | omega | exact hbk4)) (cwV 3 hts gX9_hear_X0_take rfl rfl rfl (by decide +kernel) ⟨Nat.le_of_ble_eq_true rfl, Nat.le_of_ble_eq_true rfl⟩) (xpV (wc := (wActs h cs I L A Q G J)) hP hD hK hN [1, 2, 3, 4, 5, 6, 7, 8, 9, 10, 11, 12, 13] rfl (by decide) 1 (ci := 0) rfl rfl _) rfl rfl hl.1 rfl (lv_room (Nat.le_of_ble_eq_true rfl)) dX9_hear_39 ⟨Nat.zero_le _, Nat.zero_le _⟩) (fun r_17 u_16 H locs hw hP hD hS => ?_)
      obtain ⟨x123_18, f136_19, g0_20, x144_21, x145_22, x146_23, f140_24, f141_25, f142_26, f143_27, hf_28, rfl⟩ := hw
      have hP : va_P (dC, dI) vwCl (wF1 h cs (va_up (va_up (va_up (va_up I 123 x123_18) 144 x144_21) 145 x145_22) 146 x146_23) L (va_up (va_up (va_up (va_up (va_up A 136 f136_19) 140 f140_24) 141 f141_25) 142 f142_26) 143 f143_27) Q (va_up G 0 g0_20) J) H := hP
      have hD : va_D A0 (wF1 h cs (va_up (va_up (va_up (va_up I 123 x123_18) 144 x144_21) 145 x145_22) 146 x146_23) L (va_up (va_up (va_up (va_up (va_up A 136 f136_19) 140 f140_24) 141 f141_25) 142 f142_26) 143 f143_27) Q (va_up G 0 g0_20) J) := hD
      exact xr_i (v := r_17) hx hb hr hlocks hK hS dX9_hear_42 ((va_up (va_up (va_up (va_up I 123 x123_18) 144 x144_21) 145 x145_22) 146 x146_23), L, (va_up (va_up (va_up (va_up (va_up A 136 f136_19) 140 f140_24) 141 f141_25) 142 f142_26) 143 f143_27), Q, (va_up G 0 g0_20), J) ⟨x123_18, f136_19, g0_20, x144_21, x145_22, x146_23, f140_24, f141_25, f142_26, f143_27, (Or.inl ⟨i_4, hi_5, hx_6, ⟨ha_12, hb_13⟩, hf_28⟩), rfl⟩ hP hD
    · skip
      refine xs_neF (tgt := 26) hx hb dX9_hear_19 (by decide) (by decide) ?_
      refine lv_sipush (v := (-10001)) hx hb dX9_hear_22 (by decide) ?_
      exact xr_i (v := (-10001)) hx hb hr hlocks hK hS dX9_hear_25 ((va_up (va_up (va_up (va_up I 123 (I 123)) 144 (I 144)) 145 (I 145)) 146 (I 146)), L, (va_up (va_up (va_up (va_up (va_up A 136 (A 136)) 140 (A 140)) 141 (A 141)) 142 (A 142)) 143 (A 143)), Q, (va_up G 0 (G 0)), J) ⟨(I 123), (A 136), (G 0), (I 144), (I 145), (I 146), (A 140), (A 141), (A 142), (A 143), (Or.inr ⟨rfl, fun i a9 c9 e9 => hn_14 e9, rfl, rfl, rfl, rfl, rfl, rfl, rfl, rfl, rfl, rfl⟩), rfl⟩ hP hD
  · skip
    refine xs_eqT (tgt := 22) hx hb dX9_hear_8 (by decide) (by decide) ?_
    refine lv_sipush (v := (-10001)) hx hb dX9_hear_22 (by decide) ?_
    exact xr_i (v := (-10001)) hx hb hr hlocks hK hS dX9_hear_25 ((va_up (va_up (va_up (va_up I 123 (I 123)) 144 (I 144)) 145 (I 145)) 146 (I 146)), L, (va_up (va_up (va_up (va_up (va_up A 136 (A 136)) 140 (A 140)) 141 (A 141)) 142 (A 142)) 143 (A 143)), Q, (va_up G 0 (G 0)), J) ⟨(I 123), (A 136), (G 0), (I 144), (I 145), (I 146), (A 140), (A 141), (A 142), (A 143), (Or.inr ⟨rfl, fun i a9 c9 e9 => hn_7 i a9 c9, rfl, rfl, rfl, rfl, rfl, rfl, rfl, rfl, rfl, rfl⟩), rfl⟩ hP hD
set_option maxRecDepth 20000 in
theorem ggX9_undo_X0_canGoBack : GoodIn wsX9_undo wsX0_canGoBack := goodIn_r _ [6, 7, 36, 37, 38, 39, 40, 41, 42, 43] rfl (by decide +kernel)
set_option maxRecDepth 20000 in
theorem gX9_undo_X0_canGoBack : GoodIn wsX9_undo (wsV RX9 109 RX0 yX0_canGoBack wsX0_canGoBack) := goodIn_app (goodIn_of _ (by decide +kernel)) ggX9_undo_X0_canGoBack
set_option maxRecDepth 20000 in
theorem ggX9_undo_X0_goBack : GoodIn wsX9_undo wsX0_goBack := goodIn_r _ [11, 7, 12, 13, 14, 15, 16, 17, 18, 19, 20, 21, 22, 23, 24, 25, 26, 36, 37, 38, 39, 40, 41, 42, 43, 44, 45, 46, 47, 48, 49] rfl (by decide +kernel)
set_option maxRecDepth 20000 in
theorem gX9_undo_X0_goBack : GoodIn wsX9_undo (wsV RX9 113 RX0 yX0_goBack wsX0_goBack) := goodIn_app (goodIn_of _ (by decide +kernel)) ggX9_undo_X0_goBack
theorem bdX9_undo_0 : (decode cX9_undo 0 = .ok (.aload_n 0, 1)) ∧ (decode cX9_undo 1 = .ok (.getfield 21, 3)) ∧ (decode cX9_undo 4 = .ok (.invokevirtual 109, 3)) ∧ (decode cX9_undo 7 = .ok (.ifCond .eq 13, 3)) ∧ (decode cX9_undo 10 = .ok (.aload_n 0, 1)) ∧ (decode cX9_undo 11 = .ok (.getfield 21, 3)) ∧ (decode cX9_undo 14 = .ok (.invokevirtual 113, 3)) ∧ (decode cX9_undo 17 = .ok (.goto 5, 3)) ∧ (decode cX9_undo 20 = .ok (.bipush (-2), 2)) ∧ (decode cX9_undo 22 = .ok (.ireturn, 1)) := by decide +kernel
theorem dX9_undo_0 : decode cX9_undo 0 = .ok (.aload_n 0, 1) := bdX9_undo_0.1
theorem dX9_undo_1 : decode cX9_undo 1 = .ok (.getfield 21, 3) := bdX9_undo_0.2.1
theorem dX9_undo_4 : decode cX9_undo 4 = .ok (.invokevirtual 109, 3) := bdX9_undo_0.2.2.1
theorem dX9_undo_7 : decode cX9_undo 7 = .ok (.ifCond .eq 13, 3) := bdX9_undo_0.2.2.2.1
theorem dX9_undo_10 : decode cX9_undo 10 = .ok (.aload_n 0, 1) := bdX9_undo_0.2.2.2.2.1
theorem dX9_undo_11 : decode cX9_undo 11 = .ok (.getfield 21, 3) := bdX9_undo_0.2.2.2.2.2.1
theorem dX9_undo_14 : decode cX9_undo 14 = .ok (.invokevirtual 113, 3) := bdX9_undo_0.2.2.2.2.2.2.1
theorem dX9_undo_17 : decode cX9_undo 17 = .ok (.goto 5, 3) := bdX9_undo_0.2.2.2.2.2.2.2.1
theorem dX9_undo_20 : decode cX9_undo 20 = .ok (.bipush (-2), 2) := bdX9_undo_0.2.2.2.2.2.2.2.2.1
theorem dX9_undo_22 : decode cX9_undo 22 = .ok (.ireturn, 1) := bdX9_undo_0.2.2.2.2.2.2.2.2.2
set_option maxHeartbeats 4000000 in
set_option maxRecDepth 100000 in
theorem k_X9_undo (l : Launch) (dC : Nat → ClassId) (dI : Nat → Nat → Nat) (h : Nat → Nat) (cs : Nat → ClassId) (sz : Nat) (I : Nat → Int32) (L : Nat → Int64) (A : Nat → Nat → Int32) (Q : Nat → Nat → Int64) (G : Nat → Nat → Nat → Int32) (J : Nat → Nat → Nat → Int64) (M sp9 o bk on : Nat) (hM : I 121 = nI M) (hM1 : 1 ≤ M) (hM4 : M ≤ 4) (hst : I 123 = nI sp9) (hst2 : sp9 < 1000000000) (ho : I 144 = nI o) (ho4 : o < 40) (hbk : I 145 = nI bk) (hbk4 : bk ≤ 40) (hon : I 146 = nI on) (hon4 : bk + on ≤ 40) (hring : ∀ k : Nat, k < bk + on → ∃ i j : Nat, i < 5 ∧ j ≤ M ∧ A 140 ((o + k) % 40) = nI i ∧ A 141 ((o + k) % 40) = nI j) : Met l yX9_undo wsX9_undo ({ frames := 2, cells := 0, slots := 0, locals := 44 }) (va_Pc [.ref (h 100)] (xPre (dC, dI) (wF1 h cs I L A Q G J) (tysA cs) sz)) (va_Qi (fun (r : Int32) (u : CS) => ∃ x123 : Int32, ∃ f136 : Nat → Int32, ∃ g0 : Nat → Nat → Int32, ∃ x145 : Int32, ∃ x146 : Int32, ((0 < bk ∧ r = nI (bk - 1) ∧ x145 = nI (bk - 1) ∧ x146 = nI (on + 1) ∧ x123 = nI (sp9 + 1) ∧ ∃ i j : Nat, i < 5 ∧ j ≤ M ∧ A 140 ((o + (bk - 1)) % 40) = nI i ∧ A 141 ((o + (bk - 1)) % 40) = nI j ∧ putP M i j (A 142 ((o + (bk - 1)) % 40)) (A 136) (G 0) f136 g0) ∨ (bk = 0 ∧ r = -2 ∧ x123 = I 123 ∧ f136 = A 136 ∧ g0 = G 0 ∧ x145 = I 145 ∧ x146 = I 146)) ∧ u = ((va_up (va_up (va_up I 123 x123) 145 x145) 146 x146), L, (va_up A 136 f136), Q, (va_up G 0 g0), J)) (xB (dC, dI) (tysA cs) (va_A (wF1 h cs I L A Q G J) sz) (fun u : CS => wF1 h cs u.1 u.2.1 u.2.2.1 u.2.2.2.1 u.2.2.2.2.1 u.2.2.2.2.2)) (va_A (wF1 h cs I L A Q G J) sz)) 0 0 (va_A (wF1 h cs I L A Q G J) sz) := by
  refine Met.ofW (cc := cX9_undo) (maxL := 1) (ret := (some .int)) (by decide) rfl ?_
  intro p e s m args below meth c s₁ B hml hv
  obtain ⟨rfl, hsz, hP, hK, hD0, hN⟩ := hv
  have hx := B.exec
  have hb := B.bytes
  have hr := B.returns
  have hts := atoms_spec (ws := wsX9_undo) B.pre
  have hown : s.vm.findClass RX9 = some m.cls := findClass_of_methodNamed B.named
  have hlocks := B.notSynchronized
  subst hsz
  have hD := hD0.self (sz := s.heap.size)
  generalize hAe : va_A (wF1 h cs I L A Q G J) s.heap.size = A0 at hD ⊢
  have hA : ∀ q : Nat, s.heap.size ≤ q → A0 q := fun q h => by rw [← hAe]; exact Or.inr h
  have hl := lv_entry ([.ref (h 100)]) (n := 1) (Nat.le_of_ble_eq_true rfl)
  rw [lg_entry_eq]
  generalize (lg_sl ([.ref (h 100)]) ++ List.replicate (1 - (lg_sl ([.ref (h 100)])).length) Slot.unset).toArray = ls at hl ⊢
  have hl : lv_has ls 1 [(0, .ref (h 100))] := hl
  generalize hH : s.heap = H at hP ⊢
  have hS : va_S A0 s.heap H [] := by rw [← hH]; exact va_S.rf
  have hinX9 : ∀ w ∈ wsX90, w ∈ wsX9_undo := by decide +kernel
  refine lv_aload_n hx hb dX9_undo_0 rfl (lv_at hl 0 rfl) ?_
  refine va_get (D := (dC, dI)) (ci := 9) (v := .ref (h 102)) (C := RX9) (T := TX9) (N := 9) hx hb hts hinX9 hown hK hP 0 rfl rfl 1 (by decide) (hts (.fieldLink RX9 21 "MixedWords" "acts" "LMixedWords$Acts;") (by decide +kernel)) (fun _ h9 => h9) rfl dX9_undo_1 ?_
  refine xj_i (wc := (wAct0 h cs I L A Q G J)) (wr := [(h 100, .inr (9, [.ref (h 101), .ref (h 102), .ref (h 103), .ref (h 104), .ref (h 105), .ref (h 106), .ref (h 107), .ref (h 108), .ref (h 109)])), (h 101, .inr (3, [.int (I 120), .int (I 121), .int (I 122), .int (I 123), .ref (h 130), .ref (h 136)])), (h 130, .inl (cs 3, 5, .inr (.inr (.inr (.inr (fun i => if i < 5 then some (h (i + 131)) else none)))))), (h 131, .inl (cs 0, 4, .inl ((G 0) 0))), (h 132, .inl (cs 0, 4, .inl ((G 0) 1))), (h 133, .inl (cs 0, 4, .inl ((G 0) 2))), (h 134, .inl (cs 0, 4, .inl ((G 0) 3))), (h 135, .inl (cs 0, 4, .inl ((G 0) 4))), (h 136, .inl (cs 0, 5, .inl (A 136)))]) hP hD hS hA [1, 2, 3, 4, 5] [0, 6, 7, 8, 9, 10, 11, 12, 13] rfl rfl (by decide +kernel) (by decide +kernel) (va_runV (As := []) (rest := []) ⟨hx, hb, hml, hown, hts⟩ (k_X0_canGoBack l dC dI h cs H.size I L A Q G J bk hbk (by first | assumption | omega | exact hbk4)) (cwV 0 hts gX9_undo_X0_canGoBack rfl rfl rfl (by decide +kernel) ⟨Nat.le_of_ble_eq_true rfl, Nat.le_of_ble_eq_true rfl⟩) (xpV (wc := (wAct0 h cs I L A Q G J)) hP hD hK hN [1, 2, 3, 4, 5] rfl (by decide) 1 (ci := 0) rfl rfl _) rfl rfl hl.1 rfl (lv_room (Nat.le_of_ble_eq_true rfl)) dX9_undo_4 ⟨Nat.zero_le _, Nat.zero_le _⟩) (fun r_2 u_1 H locs hw hP hD hS => ?_)
  obtain ⟨hf_3, rfl⟩ := hw
  have hP : va_P (dC, dI) vwCl (wF1 h cs I L A Q G J) H := xP_sub hP [0, 9, 10, 11, 12, 13, 1, 2, 3, 4, 5, 6, 7, 8] rfl
  have hD : va_D A0 (wF1 h cs I L A Q G J) := hD.sub [0, 9, 10, 11, 12, 13, 1, 2, 3, 4, 5, 6, 7, 8] (by decide +kernel) rfl
  rcases hf_3 with ⟨rfl, hc_4⟩ | ⟨rfl, hc_4⟩
  · skip
    refine xs_eqF (tgt := 20) hx hb dX9_undo_7 (by decide) (by decide) ?_
    refine lv_aload_n hx hb dX9_undo_10 rfl (lv_at hl 0 rfl) ?_
    refine va_get (D := (dC, dI)) (ci := 9) (v := .ref (h 102)) (C := RX9) (T := TX9) (N := 9) hx hb hts hinX9 hown hK hP 0 rfl rfl 1 (by decide) (hts (.fieldLink RX9 21 "MixedWords" "acts" "LMixedWords$Acts;") (by decide +kernel)) (fun _ h9 => h9) rfl dX9_undo_11 ?_
    refine xj_i (wc := (wActs h cs I L A Q G J)) (wr := [(h 100, .inr (9, [.ref (h 101), .ref (h 102), .ref (h 103), .ref (h 104), .ref (h 105), .ref (h 106), .ref (h 107), .ref (h 108), .ref (h 109)]))]) hP hD hS hA [1, 2, 3, 4, 5, 6, 7, 8, 9, 10, 11, 12, 13] [0] rfl rfl (by decide +kernel) (by decide +kernel) (va_runV (As := []) (rest := []) ⟨hx, hb, hml, hown, hts⟩ (k_X0_goBack l dC dI h cs H.size I L A Q G J M sp9 o bk on hM (by first | assumption | omega | exact hM1) (by first | assumption | omega | exact hM4) hst (by first | assumption | omega | exact hst2) ho (by first | assumption | omega | exact ho4) hbk (by first | assumption | omega | exact hbk4) hon (by first | assumption | omega | exact hon4) (by first | assumption | omega | exact hring) (by first | assumption | omega)) (cwV 0 hts gX9_undo_X0_goBack rfl rfl rfl (by decide +kernel) ⟨Nat.le_of_ble_eq_true rfl, Nat.le_of_ble_eq_true rfl⟩) (xpV (wc := (wActs h cs I L A Q G J)) hP hD hK hN [1, 2, 3, 4, 5, 6, 7, 8, 9, 10, 11, 12, 13] rfl (by decide) 1 (ci := 0) rfl rfl _) rfl rfl hl.1 rfl (lv_room (Nat.le_of_ble_eq_true rfl)) dX9_undo_14 ⟨Nat.zero_le _, Nat.zero_le _⟩) (fun r_7 u_6 H locs hw hP hD hS => ?_)
    obtain ⟨x123_8, f136_9, g0_10, x145_11, x146_12, hf_13, rfl⟩ := hw
    have hP : va_P (dC, dI) vwCl (wF1 h cs (va_up (va_up (va_up I 123 x123_8) 145 x145_11) 146 x146_12) L (va_up A 136 f136_9) Q (va_up G 0 g0_10) J) H := hP
    have hD : va_D A0 (wF1 h cs (va_up (va_up (va_up I 123 x123_8) 145 x145_11) 146 x146_12) L (va_up A 136 f136_9) Q (va_up G 0 g0_10) J) := hD
    refine lv_goto (tgt := 22) hx hb dX9_undo_17 (by decide) ?_
    exact xr_i (v := r_7) hx hb hr hlocks hK hS dX9_undo_22 ((va_up (va_up (va_up I 123 x123_8) 145 x145_11) 146 x146_12), L, (va_up A 136 f136_9), Q, (va_up G 0 g0_10), J) ⟨x123_8, f136_9, g0_10, x145_11, x146_12, (Or.inl ⟨hc_4, hf_13⟩), rfl⟩ hP hD
  · skip
    refine xs_eqT (tgt := 20) hx hb dX9_undo_7 (by decide) (by decide) ?_
    refine lv_bipush (v := (-2)) hx hb dX9_undo_20 (by decide) ?_
    exact xr_i (v := (-2)) hx hb hr hlocks hK hS dX9_undo_22 ((va_up (va_up (va_up I 123 (I 123)) 145 (I 145)) 146 (I 146)), L, (va_up A 136 (A 136)), Q, (va_up G 0 (G 0)), J) ⟨(I 123), (A 136), (G 0), (I 145), (I 146), (Or.inr ⟨hc_4, rfl, rfl, rfl, rfl, rfl, rfl⟩), rfl⟩ hP hD
set_option maxRecDepth 20000 in
theorem ggX9_redo_X0_canGoOn : GoodIn wsX9_redo wsX0_canGoOn := goodIn_r _ [6, 7, 36, 37, 38, 39, 40, 41, 42, 43] rfl (by decide +kernel)
set_option maxRecDepth 20000 in
theorem gX9_redo_X0_canGoOn : GoodIn wsX9_redo (wsV RX9 117 RX0 yX0_canGoOn wsX0_canGoOn) := goodIn_app (goodIn_of _ (by decide +kernel)) ggX9_redo_X0_canGoOn
set_option maxRecDepth 20000 in
theorem ggX9_redo_X0_goOn : GoodIn wsX9_redo wsX0_goOn := goodIn_r _ [11, 12, 13, 7, 14, 15, 16, 17, 18, 19, 20, 21, 22, 23, 24, 25, 26, 36, 37, 38, 39, 40, 41, 42, 43, 44, 45, 46, 47, 48, 49] rfl (by decide +kernel)
set_option maxRecDepth 20000 in
theorem gX9_redo_X0_goOn : GoodIn wsX9_redo (wsV RX9 120 RX0 yX0_goOn wsX0_goOn) := goodIn_app (goodIn_of _ (by decide +kernel)) ggX9_redo_X0_goOn
theorem bdX9_redo_0 : (decode cX9_redo 0 = .ok (.aload_n 0, 1)) ∧ (decode cX9_redo 1 = .ok (.getfield 21, 3)) ∧ (decode cX9_redo 4 = .ok (.invokevirtual 117, 3)) ∧ (decode cX9_redo 7 = .ok (.ifCond .eq 13, 3)) ∧ (decode cX9_redo 10 = .ok (.aload_n 0, 1)) ∧ (decode cX9_redo 11 = .ok (.getfield 21, 3)) ∧ (decode cX9_redo 14 = .ok (.invokevirtual 120, 3)) ∧ (decode cX9_redo 17 = .ok (.goto 5, 3)) ∧ (decode cX9_redo 20 = .ok (.bipush (-2), 2)) ∧ (decode cX9_redo 22 = .ok (.ireturn, 1)) := by decide +kernel
theorem dX9_redo_0 : decode cX9_redo 0 = .ok (.aload_n 0, 1) := bdX9_redo_0.1
theorem dX9_redo_1 : decode cX9_redo 1 = .ok (.getfield 21, 3) := bdX9_redo_0.2.1
theorem dX9_redo_4 : decode cX9_redo 4 = .ok (.invokevirtual 117, 3) := bdX9_redo_0.2.2.1
theorem dX9_redo_7 : decode cX9_redo 7 = .ok (.ifCond .eq 13, 3) := bdX9_redo_0.2.2.2.1
theorem dX9_redo_10 : decode cX9_redo 10 = .ok (.aload_n 0, 1) := bdX9_redo_0.2.2.2.2.1
theorem dX9_redo_11 : decode cX9_redo 11 = .ok (.getfield 21, 3) := bdX9_redo_0.2.2.2.2.2.1
theorem dX9_redo_14 : decode cX9_redo 14 = .ok (.invokevirtual 120, 3) := bdX9_redo_0.2.2.2.2.2.2.1
theorem dX9_redo_17 : decode cX9_redo 17 = .ok (.goto 5, 3) := bdX9_redo_0.2.2.2.2.2.2.2.1
theorem dX9_redo_20 : decode cX9_redo 20 = .ok (.bipush (-2), 2) := bdX9_redo_0.2.2.2.2.2.2.2.2.1
theorem dX9_redo_22 : decode cX9_redo 22 = .ok (.ireturn, 1) := bdX9_redo_0.2.2.2.2.2.2.2.2.2
set_option maxHeartbeats 4000000 in
set_option maxRecDepth 100000 in
theorem k_X9_redo (l : Launch) (dC : Nat → ClassId) (dI : Nat → Nat → Nat) (h : Nat → Nat) (cs : Nat → ClassId) (sz : Nat) (I : Nat → Int32) (L : Nat → Int64) (A : Nat → Nat → Int32) (Q : Nat → Nat → Int64) (G : Nat → Nat → Nat → Int32) (J : Nat → Nat → Nat → Int64) (M sp9 o bk on : Nat) (hM : I 121 = nI M) (hM1 : 1 ≤ M) (hM4 : M ≤ 4) (hst : I 123 = nI sp9) (hst2 : sp9 < 1000000000) (ho : I 144 = nI o) (ho4 : o < 40) (hbk : I 145 = nI bk) (hbk4 : bk ≤ 40) (hon : I 146 = nI on) (hon4 : bk + on ≤ 40) (hring : ∀ k : Nat, k < bk + on → ∃ i j : Nat, i < 5 ∧ j ≤ M ∧ A 140 ((o + k) % 40) = nI i ∧ A 141 ((o + k) % 40) = nI j) : Met l yX9_redo wsX9_redo ({ frames := 2, cells := 0, slots := 0, locals := 44 }) (va_Pc [.ref (h 100)] (xPre (dC, dI) (wF1 h cs I L A Q G J) (tysA cs) sz)) (va_Qi (fun (r : Int32) (u : CS) => ∃ x123 : Int32, ∃ f136 : Nat → Int32, ∃ g0 : Nat → Nat → Int32, ∃ x145 : Int32, ∃ x146 : Int32, ((0 < on ∧ r = nI (on - 1) ∧ x145 = nI (bk + 1) ∧ x146 = nI (on - 1) ∧ x123 = nI (sp9 + 1) ∧ ∃ i j : Nat, i < 5 ∧ j ≤ M ∧ A 140 ((o + (bk)) % 40) = nI i ∧ A 141 ((o + (bk)) % 40) = nI j ∧ putP M i j (A 143 ((o + (bk)) % 40)) (A 136) (G 0) f136 g0) ∨ (on = 0 ∧ r = -2 ∧ x123 = I 123 ∧ f136 = A 136 ∧ g0 = G 0 ∧ x145 = I 145 ∧ x146 = I 146)) ∧ u = ((va_up (va_up (va_up I 123 x123) 145 x145) 146 x146), L, (va_up A 136 f136), Q, (va_up G 0 g0), J)) (xB (dC, dI) (tysA cs) (va_A (wF1 h cs I L A Q G J) sz) (fun u : CS => wF1 h cs u.1 u.2.1 u.2.2.1 u.2.2.2.1 u.2.2.2.2.1 u.2.2.2.2.2)) (va_A (wF1 h cs I L A Q G J) sz)) 0 0 (va_A (wF1 h cs I L A Q G J) sz) := by
  refine Met.ofW (cc := cX9_redo) (maxL := 1) (ret := (some .int)) (by decide) rfl ?_
  intro p e s m args below meth c s₁ B hml hv
  obtain ⟨rfl, hsz, hP, hK, hD0, hN⟩ := hv
  have hx := B.exec
  have hb := B.bytes
  have hr := B.returns
  have hts := atoms_spec (ws := wsX9_redo) B.pre
  have hown : s.vm.findClass RX9 = some m.cls := findClass_of_methodNamed B.named
  have hlocks := B.notSynchronized
  subst hsz
  have hD := hD0.self (sz := s.heap.size)
  generalize hAe : va_A (wF1 h cs I L A Q G J) s.heap.size = A0 at hD ⊢
  have hA : ∀ q : Nat, s.heap.size ≤ q → A0 q := fun q h => by rw [← hAe]; exact Or.inr h
  have hl := lv_entry ([.ref (h 100)]) (n := 1) (Nat.le_of_ble_eq_true rfl)
  rw [lg_entry_eq]
  generalize (lg_sl ([.ref (h 100)]) ++ List.replicate (1 - (lg_sl ([.ref (h 100)])).length) Slot.unset).toArray = ls at hl ⊢
  have hl : lv_has ls 1 [(0, .ref (h 100))] := hl
  generalize hH : s.heap = H at hP ⊢
  have hS : va_S A0 s.heap H [] := by rw [← hH]; exact va_S.rf
  have hinX9 : ∀ w ∈ wsX90, w ∈ wsX9_redo := by decide +kernel
  refine lv_aload_n hx hb dX9_redo_0 rfl (lv_at hl 0 rfl) ?_
  refine va_get (D := (dC, dI)) (ci := 9) (v := .ref (h 102)) (C := RX9) (T := TX9) (N := 9) hx hb hts hinX9 hown hK hP 0 rfl rfl 1 (by decide) (hts (.fieldLink RX9 21 "MixedWords" "acts" "LMixedWords$Acts;") (by decide +kernel)) (fun _ h9 => h9) rfl dX9_redo_1 ?_
  refine xj_i (wc := (wAct0 h cs I L A Q G J)) (wr := [(h 100, .inr (9, [.ref (h 101), .ref (h 102), .ref (h 103), .ref (h 104), .ref (h 105), .ref (h 106), .ref (h 107), .ref (h 108), .ref (h 109)])), (h 101, .inr (3, [.int (I 120), .int (I 121), .int (I 122), .int (I 123), .ref (h 130), .ref (h 136)])), (h 130, .inl (cs 3, 5, .inr (.inr (.inr (.inr (fun i => if i < 5 then some (h (i + 131)) else none)))))), (h 131, .inl (cs 0, 4, .inl ((G 0) 0))), (h 132, .inl (cs 0, 4, .inl ((G 0) 1))), (h 133, .inl (cs 0, 4, .inl ((G 0) 2))), (h 134, .inl (cs 0, 4, .inl ((G 0) 3))), (h 135, .inl (cs 0, 4, .inl ((G 0) 4))), (h 136, .inl (cs 0, 5, .inl (A 136)))]) hP hD hS hA [1, 2, 3, 4, 5] [0, 6, 7, 8, 9, 10, 11, 12, 13] rfl rfl (by decide +kernel) (by decide +kernel) (va_runV (As := []) (rest := []) ⟨hx, hb, hml, hown, hts⟩ (k_X0_canGoOn l dC dI h cs H.size I L A Q G J on hon (by omega)) (cwV 0 hts gX9_redo_X0_canGoOn rfl rfl rfl (by decide +kernel) ⟨Nat.le_of_ble_eq_true rfl, Nat.le_of_ble_eq_true rfl⟩) (xpV (wc := (wAct0 h cs I L A Q G J)) hP hD hK hN [1, 2, 3, 4, 5] rfl (by decide) 1 (ci := 0) rfl rfl _) rfl rfl hl.1 rfl (lv_room (Nat.le_of_ble_eq_true rfl)) dX9_redo_4 ⟨Nat.zero_le _, Nat.zero_le _⟩) (fun r_2 u_1 H locs hw hP hD hS => ?_)
  obtain ⟨hf_3, rfl⟩ := hw
  have hP : va_P (dC, dI) vwCl (wF1 h cs I L A Q G J) H := xP_sub hP [0, 9, 10, 11, 12, 13, 1, 2, 3, 4, 5, 6, 7, 8] rfl
  have hD : va_D A0 (wF1 h cs I L A Q G J) := hD.sub [0, 9, 10, 11, 12, 13, 1, 2, 3, 4, 5, 6, 7, 8] (by decide +kernel) rfl
  rcases hf_3 with ⟨rfl, hc_4⟩ | ⟨rfl, hc_4⟩
  · skip
    refine xs_eqF (tgt := 20) hx hb dX9_redo_7 (by decide) (by decide) ?_
    refine lv_aload_n hx hb dX9_redo_10 rfl (lv_at hl 0 rfl) ?_
    refine va_get (D := (dC, dI)) (ci := 9) (v := .ref (h 102)) (C := RX9) (T := TX9) (N := 9) hx hb hts hinX9 hown hK hP 0 rfl rfl 1 (by decide) (hts (.fieldLink RX9 21 "MixedWords" "acts" "LMixedWords$Acts;") (by decide +kernel)) (fun _ h9 => h9) rfl dX9_redo_11 ?_
    refine xj_i (wc := (wActs h cs I L A Q G J)) (wr := [(h 100, .inr (9, [.ref (h 101), .ref (h 102), .ref (h 103), .ref (h 104), .ref (h 105), .ref (h 106), .ref (h 107), .ref (h 108), .ref (h 109)]))]) hP hD hS hA [1, 2, 3, 4, 5, 6, 7, 8, 9, 10, 11, 12, 13] [0] rfl rfl (by decide +kernel) (by decide +kernel) (va_runV (As := []) (rest := []) ⟨hx, hb, hml, hown, hts⟩ (k_X0_goOn l dC dI h cs H.size I L A Q G J M sp9 o bk on hM (by first | assumption | omega | exact hM1) (by first | assumption | omega | exact hM4) hst (by first | assumption | omega | exact hst2) ho (by first | assumption | omega | exact ho4) hbk (by first | assumption | omega | exact hbk4) hon (by first | assumption | omega | exact hon4) (by first | assumption | omega | exact hring) (by first | assumption | omega)) (cwV 0 hts gX9_redo_X0_goOn rfl rfl rfl (by decide +kernel) ⟨Nat.le_of_ble_eq_true rfl, Nat.le_of_ble_eq_true rfl⟩) (xpV (wc := (wActs h cs I L A Q G J)) hP hD hK hN [1, 2, 3, 4, 5, 6, 7, 8, 9, 10, 11, 12, 13] rfl (by decide) 1 (ci := 0) rfl rfl _) rfl rfl hl.1 rfl (lv_room (Nat.le_of_ble_eq_true rfl)) dX9_redo_14 ⟨Nat.zero_le _, Nat.zero_le _⟩) (fun r_7 u_6 H locs hw hP hD hS => ?_)
    obtain ⟨x123_8, f136_9, g0_10, x145_11, x146_12, hf_13, rfl⟩ := hw
    have hP : va_P (dC, dI) vwCl (wF1 h cs (va_up (va_up (va_up I 123 x123_8) 145 x145_11) 146 x146_12) L (va_up A 136 f136_9) Q (va_up G 0 g0_10) J) H := hP
    have hD : va_D A0 (wF1 h cs (va_up (va_up (va_up I 123 x123_8) 145 x145_11) 146 x146_12) L (va_up A 136 f136_9) Q (va_up G 0 g0_10) J) := hD
    refine lv_goto (tgt := 22) hx hb dX9_redo_17 (by decide) ?_
    exact xr_i (v := r_7) hx hb hr hlocks hK hS dX9_redo_22 ((va_up (va_up (va_up I 123 x123_8) 145 x145_11) 146 x146_12), L, (va_up A 136 f136_9), Q, (va_up G 0 g0_10), J) ⟨x123_8, f136_9, g0_10, x145_11, x146_12, (Or.inl ⟨hc_4, hf_13⟩), rfl⟩ hP hD
  · skip
    refine xs_eqT (tgt := 20) hx hb dX9_redo_7 (by decide) (by decide) ?_
    refine lv_bipush (v := (-2)) hx hb dX9_redo_20 (by decide) ?_
    exact xr_i (v := (-2)) hx hb hr hlocks hK hS dX9_redo_22 ((va_up (va_up (va_up I 123 (I 123)) 145 (I 145)) 146 (I 146)), L, (va_up A 136 (A 136)), Q, (va_up G 0 (G 0)), J) ⟨(I 123), (A 136), (G 0), (I 145), (I 146), (Or.inr ⟨hc_4, rfl, rfl, rfl, rfl, rfl, rfl⟩), rfl⟩ hP hD
set_option maxRecDepth 20000 in
theorem ggX9_told_X3_hasRow : GoodIn wsX9_told wsX3_hasRow := goodIn_r _ [7, 8, 29, 30, 31, 32, 33, 34] rfl (by decide +kernel)
set_option maxRecDepth 20000 in
theorem gX9_told_X3_hasRow : GoodIn wsX9_told (wsV RX9 91 RX3 yX3_hasRow wsX3_hasRow) := goodIn_app (goodIn_of _ (by decide +kernel)) ggX9_told_X3_hasRow
set_option maxRecDepth 20000 in
theorem ggX9_told_X3_hasColumn : GoodIn wsX9_told wsX3_hasColumn := goodIn_r _ [12, 13, 29, 30, 31, 32, 33, 34] rfl (by decide +kernel)
set_option maxRecDepth 20000 in
theorem gX9_told_X3_hasColumn : GoodIn wsX9_told (wsV RX9 95 RX3 yX3_hasColumn wsX3_hasColumn) := goodIn_app (goodIn_of _ (by decide +kernel)) ggX9_told_X3_hasColumn
set_option maxRecDepth 20000 in
theorem ggX9_told_X3_at : GoodIn wsX9_told wsX3_at := goodIn_r _ [17, 13, 18, 19, 29, 30, 31, 32, 33, 34] rfl (by decide +kernel)
set_option maxRecDepth 20000 in
theorem gX9_told_X3_at : GoodIn wsX9_told (wsV RX9 123 RX3 yX3_at wsX3_at) := goodIn_app (goodIn_of _ (by decide +kernel)) ggX9_told_X3_at
theorem bdX9_told_0 : (decode cX9_told 0 = .ok (.aload_n 0, 1)) ∧ (decode cX9_told 1 = .ok (.getfield 12, 3)) ∧ (decode cX9_told 4 = .ok (.iload_n 1, 1)) ∧ (decode cX9_told 5 = .ok (.invokevirtual 91, 3)) ∧ (decode cX9_told 8 = .ok (.ifCond .eq 25, 3)) ∧ (decode cX9_told 11 = .ok (.aload_n 0, 1)) ∧ (decode cX9_told 12 = .ok (.getfield 12, 3)) ∧ (decode cX9_told 15 = .ok (.iload_n 2, 1)) ∧ (decode cX9_told 16 = .ok (.invokevirtual 95, 3)) ∧ (decode cX9_told 19 = .ok (.ifCond .ne 18, 3)) ∧ (decode cX9_told 22 = .ok (.iload_n 2, 1)) ∧ (decode cX9_told 23 = .ok (.aload_n 0, 1)) ∧ (decode cX9_told 24 = .ok (.getfield 12, 3)) ∧ (decode cX9_told 27 = .ok (.getfield 106, 3)) ∧ (decode cX9_told 30 = .ok (.if_icmp .eq 7, 3)) ∧ (decode cX9_told 33 = .ok (.sipush (-10001), 3)) := by decide +kernel
theorem dX9_told_0 : decode cX9_told 0 = .ok (.aload_n 0, 1) := bdX9_told_0.1
theorem dX9_told_1 : decode cX9_told 1 = .ok (.getfield 12, 3) := bdX9_told_0.2.1
theorem dX9_told_4 : decode cX9_told 4 = .ok (.iload_n 1, 1) := bdX9_told_0.2.2.1
theorem dX9_told_5 : decode cX9_told 5 = .ok (.invokevirtual 91, 3) := bdX9_told_0.2.2.2.1
theorem dX9_told_8 : decode cX9_told 8 = .ok (.ifCond .eq 25, 3) := bdX9_told_0.2.2.2.2.1
theorem dX9_told_11 : decode cX9_told 11 = .ok (.aload_n 0, 1) := bdX9_told_0.2.2.2.2.2.1
theorem dX9_told_12 : decode cX9_told 12 = .ok (.getfield 12, 3) := bdX9_told_0.2.2.2.2.2.2.1
theorem dX9_told_15 : decode cX9_told 15 = .ok (.iload_n 2, 1) := bdX9_told_0.2.2.2.2.2.2.2.1
theorem dX9_told_16 : decode cX9_told 16 = .ok (.invokevirtual 95, 3) := bdX9_told_0.2.2.2.2.2.2.2.2.1
theorem dX9_told_19 : decode cX9_told 19 = .ok (.ifCond .ne 18, 3) := bdX9_told_0.2.2.2.2.2.2.2.2.2.1
theorem dX9_told_22 : decode cX9_told 22 = .ok (.iload_n 2, 1) := bdX9_told_0.2.2.2.2.2.2.2.2.2.2.1
theorem dX9_told_23 : decode cX9_told 23 = .ok (.aload_n 0, 1) := bdX9_told_0.2.2.2.2.2.2.2.2.2.2.2.1
theorem dX9_told_24 : decode cX9_told 24 = .ok (.getfield 12, 3) := bdX9_told_0.2.2.2.2.2.2.2.2.2.2.2.2.1
theorem dX9_told_27 : decode cX9_told 27 = .ok (.getfield 106, 3) := bdX9_told_0.2.2.2.2.2.2.2.2.2.2.2.2.2.1
theorem dX9_told_30 : decode cX9_told 30 = .ok (.if_icmp .eq 7, 3) := bdX9_told_0.2.2.2.2.2.2.2.2.2.2.2.2.2.2.1
theorem dX9_told_33 : decode cX9_told 33 = .ok (.sipush (-10001), 3) := bdX9_told_0.2.2.2.2.2.2.2.2.2.2.2.2.2.2.2
theorem bdX9_told_36 : (decode cX9_told 36 = .ok (.ireturn, 1)) ∧ (decode cX9_told 37 = .ok (.aload_n 0, 1)) ∧ (decode cX9_told 38 = .ok (.getfield 12, 3)) ∧ (decode cX9_told 41 = .ok (.iload_n 1, 1)) ∧ (decode cX9_told 42 = .ok (.iload_n 2, 1)) ∧ (decode cX9_told 43 = .ok (.invokevirtual 123, 3)) ∧ (decode cX9_told 46 = .ok (.ireturn, 1)) := by decide +kernel
theorem dX9_told_36 : decode cX9_told 36 = .ok (.ireturn, 1) := bdX9_told_36.1
theorem dX9_told_37 : decode cX9_told 37 = .ok (.aload_n 0, 1) := bdX9_told_36.2.1
theorem dX9_told_38 : decode cX9_told 38 = .ok (.getfield 12, 3) := bdX9_told_36.2.2.1
theorem dX9_told_41 : decode cX9_told 41 = .ok (.iload_n 1, 1) := bdX9_told_36.2.2.2.1
theorem dX9_told_42 : decode cX9_told 42 = .ok (.iload_n 2, 1) := bdX9_told_36.2.2.2.2.1
theorem dX9_told_43 : decode cX9_told 43 = .ok (.invokevirtual 123, 3) := bdX9_told_36.2.2.2.2.2.1
theorem dX9_told_46 : decode cX9_told 46 = .ok (.ireturn, 1) := bdX9_told_36.2.2.2.2.2.2
set_option maxHeartbeats 4000000 in
set_option maxRecDepth 100000 in
theorem k_X9_told (l : Launch) (dC : Nat → ClassId) (dI : Nat → Nat → Nat) (h : Nat → Nat) (cs : Nat → ClassId) (sz : Nat) (I : Nat → Int32) (L : Nat → Int64) (A : Nat → Nat → Int32) (Q : Nat → Nat → Int64) (G : Nat → Nat → Nat → Int32) (J : Nat → Nat → Nat → Int64) (x y : Int32) (R M : Nat) (hR : I 120 = nI R) (hR1 : 1 ≤ R) (hR5 : R ≤ 5) (hM : I 121 = nI M) (hM1 : 1 ≤ M) (hM4 : M ≤ 4) : Met l yX9_told wsX9_told ({ frames := 1, cells := 0, slots := 0, locals := 22 }) (va_Pc [.ref (h 100), .int x, .int y] (xPre (dC, dI) (wF1 h cs I L A Q G J) (tysA cs) sz)) (va_Qi (fun (r : Int32) (u : CS) => ((∃ i j : Nat, i < R ∧ j ≤ M ∧ x = nI i ∧ y = nI j ∧ r = atF (A 136) (G 0) M i j) ∨ (r = -10001 ∧ ∀ i j : Nat, i < R → j ≤ M → x = nI i → y = nI j → False)) ∧ u = (I, L, A, Q, G, J)) (xB (dC, dI) (tysA cs) (va_A (wF1 h cs I L A Q G J) sz) (fun u : CS => wF1 h cs u.1 u.2.1 u.2.2.1 u.2.2.2.1 u.2.2.2.2.1 u.2.2.2.2.2)) (va_A (wF1 h cs I L A Q G J) sz)) 0 0 (va_A (wF1 h cs I L A Q G J) sz) := by
  refine Met.ofW (cc := cX9_told) (maxL := 3) (ret := (some .int)) (by decide) rfl ?_
  intro p e s m args below meth c s₁ B hml hv
  obtain ⟨rfl, hsz, hP, hK, hD0, hN⟩ := hv
  have hx := B.exec
  have hb := B.bytes
  have hr := B.returns
  have hts := atoms_spec (ws := wsX9_told) B.pre
  have hown : s.vm.findClass RX9 = some m.cls := findClass_of_methodNamed B.named
  have hlocks := B.notSynchronized
  subst hsz
  have hD := hD0.self (sz := s.heap.size)
  generalize hAe : va_A (wF1 h cs I L A Q G J) s.heap.size = A0 at hD ⊢
  have hA : ∀ q : Nat, s.heap.size ≤ q → A0 q := fun q h => by rw [← hAe]; exact Or.inr h
  have hl := lv_entry ([.ref (h 100), .int x, .int y]) (n := 3) (Nat.le_of_ble_eq_true rfl)
  rw [lg_entry_eq]
  generalize (lg_sl ([.ref (h 100), .int x, .int y]) ++ List.replicate (3 - (lg_sl ([.ref (h 100), .int x, .int y])).length) Slot.unset).toArray = ls at hl ⊢
  have hl : lv_has ls 3 [(0, .ref (h 100)), (1, .int x), (2, .int y)] := hl
  generalize hH : s.heap = H at hP ⊢
  have hS : va_S A0 s.heap H [] := by rw [← hH]; exact va_S.rf
  have hinX9 : ∀ w ∈ wsX90, w ∈ wsX9_told := by decide +kernel
  have hinX3 : ∀ w ∈ wsX30, w ∈ wsX9_told := by decide +kernel
  refine lv_aload_n hx hb dX9_told_0 rfl (lv_at hl 0 rfl) ?_
  refine va_get (D := (dC, dI)) (ci := 9) (v := .ref (h 101)) (C := RX9) (T := TX9) (N := 9) hx hb hts hinX9 hown hK hP 0 rfl rfl 0 (by decide) (hts (.fieldLink RX9 12 "MixedWords" "mix" "LMixedWords$Mix;") (by decide +kernel)) (fun _ h9 => h9) rfl dX9_told_1 ?_
  refine lv_iload_n hx hb dX9_told_4 rfl (lv_at hl 1 rfl) ?_
  refine xj_i (wc := (wMix h cs I L A Q G J)) (wr := [(h 100, .inr (9, [.ref (h 101), .ref (h 102), .ref (h 103), .ref (h 104), .ref (h 105), .ref (h 106), .ref (h 107), .ref (h 108), .ref (h 109)])), (h 102, .inr (0, [.ref (h 101), .ref (h 140), .ref (h 141), .ref (h 142), .ref (h 143), .int (I 144), .int (I 145), .int (I 146)])), (h 140, .inl (cs 0, 40, .inl (A 140))), (h 141, .inl (cs 0, 40, .inl (A 141))), (h 142, .inl (cs 0, 40, .inl (A 142))), (h 143, .inl (cs 0, 40, .inl (A 143)))]) hP hD hS hA [6, 7, 8, 9, 10, 11, 12, 13] [0, 1, 2, 3, 4, 5] rfl rfl (by decide +kernel) (by decide +kernel) (va_runV (As := [.int x]) (rest := []) ⟨hx, hb, hml, hown, hts⟩ (k_X3_hasRow l dC dI h cs H.size I L A Q G J x R hR (by first | assumption | omega | exact hR1) (by first | assumption | omega | exact hR5)) (cwV 1 hts gX9_told_X3_hasRow rfl rfl rfl (by decide +kernel) ⟨Nat.le_of_ble_eq_true rfl, Nat.le_of_ble_eq_true rfl⟩) (xpV (wc := (wMix h cs I L A Q G J)) hP hD hK hN [6, 7, 8, 9, 10, 11, 12, 13] rfl (by decide) 6 (ci := 3) rfl rfl _) rfl rfl hl.1 rfl (lv_room (Nat.le_of_ble_eq_true rfl)) dX9_told_5 ⟨Nat.zero_le _, Nat.zero_le _⟩) (fun r_2 u_1 H locs hw hP hD hS => ?_)
  obtain ⟨hf_3, rfl⟩ := hw
  have hP : va_P (dC, dI) vwCl (wF1 h cs I L A Q G J) H := hP
  have hD : va_D A0 (wF1 h cs I L A Q G J) := hD
  rcases hf_3 with ⟨rfl, i_4, hi_5, hx_6⟩ | ⟨rfl, hn_7⟩
  · skip
    rw [hx_6] at hl
    refine xs_eqF (tgt := 33) hx hb dX9_told_8 (by decide) (by decide) ?_
    refine lv_aload_n hx hb dX9_told_11 rfl (lv_at hl 0 rfl) ?_
    refine va_get (D := (dC, dI)) (ci := 9) (v := .ref (h 101)) (C := RX9) (T := TX9) (N := 9) hx hb hts hinX9 hown hK hP 0 rfl rfl 0 (by decide) (hts (.fieldLink RX9 12 "MixedWords" "mix" "LMixedWords$Mix;") (by decide +kernel)) (fun _ h9 => h9) rfl dX9_told_12 ?_
    refine lv_iload_n hx hb dX9_told_15 rfl (lv_at hl 2 rfl) ?_
    refine xj_i (wc := (wMix h cs I L A Q G J)) (wr := [(h 100, .inr (9, [.ref (h 101), .ref (h 102), .ref (h 103), .ref (h 104), .ref (h 105), .ref (h 106), .ref (h 107), .ref (h 108), .ref (h 109)])), (h 102, .inr (0, [.ref (h 101), .ref (h 140), .ref (h 141), .ref (h 142), .ref (h 143), .int (I 144), .int (I 145), .int (I 146)])), (h 140, .inl (cs 0, 40, .inl (A 140))), (h 141, .inl (cs 0, 40, .inl (A 141))), (h 142, .inl (cs 0, 40, .inl (A 142))), (h 143, .inl (cs 0, 40, .inl (A 143)))]) hP hD hS hA [6, 7, 8, 9, 10, 11, 12, 13] [0, 1, 2, 3, 4, 5] rfl rfl (by decide +kernel) (by decide +kernel) (va_runV (As := [.int y]) (rest := []) ⟨hx, hb, hml, hown, hts⟩ (k_X3_hasColumn l dC dI h cs H.size I L A Q G J y M hM (by first | assumption | omega | exact hM1) (by first | assumption | omega | exact hM4)) (cwV 1 hts gX9_told_X3_hasColumn rfl rfl rfl (by decide +kernel) ⟨Nat.le_of_ble_eq_true rfl, Nat.le_of_ble_eq_true rfl⟩) (xpV (wc := (wMix h cs I L A Q G J)) hP hD hK hN [6, 7, 8, 9, 10, 11, 12, 13] rfl (by decide) 6 (ci := 3) rfl rfl _) rfl rfl hl.1 rfl (lv_room (Nat.le_of_ble_eq_true rfl)) dX9_told_16 ⟨Nat.zero_le _, Nat.zero_le _⟩) (fun r_10 u_9 H locs hw hP hD hS => ?_)
    obtain ⟨hf_11, rfl⟩ := hw
    have hP : va_P (dC, dI) vwCl (wF1 h cs I L A Q G J) H := hP
    have hD : va_D A0 (wF1 h cs I L A Q G J) := hD
    rcases hf_11 with ⟨rfl, i_12, hi_13, hx_14⟩ | ⟨rfl, hn_15⟩
    · skip
      rw [hx_14] at hl
      refine xs_neT (tgt := 37) hx hb dX9_told_19 (by decide) (by decide) ?_
      refine lv_aload_n hx hb dX9_told_37 rfl (lv_at hl 0 rfl) ?_
      refine va_get (D := (dC, dI)) (ci := 9) (v := .ref (h 101)) (C := RX9) (T := TX9) (N := 9) hx hb hts hinX9 hown hK hP 0 rfl rfl 0 (by decide) (hts (.fieldLink RX9 12 "MixedWords" "mix" "LMixedWords$Mix;") (by decide +kernel)) (fun _ h9 => h9) rfl dX9_told_38 ?_
      refine lv_iload_n hx hb dX9_told_41 rfl (lv_at hl 1 rfl) ?_
      refine lv_iload_n hx hb dX9_told_42 rfl (lv_at hl 2 rfl) ?_
      refine xj_i (wc := (wMix h cs I L A Q G J)) (wr := [(h 100, .inr (9, [.ref (h 101), .ref (h 102), .ref (h 103), .ref (h 104), .ref (h 105), .ref (h 106), .ref (h 107), .ref (h 108), .ref (h 109)])), (h 102, .inr (0, [.ref (h 101), .ref (h 140), .ref (h 141), .ref (h 142), .ref (h 143), .int (I 144), .int (I 145), .int (I 146)])), (h 140, .inl (cs 0, 40, .inl (A 140))), (h 141, .inl (cs 0, 40, .inl (A 141))), (h 142, .inl (cs 0, 40, .inl (A 142))), (h 143, .inl (cs 0, 40, .inl (A 143)))]) hP hD hS hA [6, 7, 8, 9, 10, 11, 12, 13] [0, 1, 2, 3, 4, 5] rfl rfl (by decide +kernel) (by decide +kernel) (va_runV (As := [.int (nI i_4), .int (nI i_12)]) (rest := []) ⟨hx, hb, hml, hown, hts⟩ (k_X3_at l dC dI h cs H.size I L A Q G J i_4 i_12 M (by first | assumption | omega) (by first | assumption | omega) hM (by first | assumption | omega | exact hM1) (by first | assumption | omega | exact hM4)) (cwV 2 hts gX9_told_X3_at rfl rfl rfl (by decide +kernel) ⟨Nat.le_of_ble_eq_true rfl, Nat.le_of_ble_eq_true rfl⟩) (xpV (wc := (wMix h cs I L A Q G J)) hP hD hK hN [6, 7, 8, 9, 10, 11, 12, 13] rfl (by decide) 6 (ci := 3) rfl rfl _) rfl rfl hl.1 rfl (lv_room (Nat.le_of_ble_eq_true rfl)) dX9_told_43 ⟨Nat.zero_le _, Nat.zero_le _⟩) (fun r_18 u_17 H locs hw hP hD hS => ?_)
      obtain ⟨hf_19, rfl⟩ := hw
      have hP : va_P (dC, dI) vwCl (wF1 h cs I L A Q G J) H := hP
      have hD : va_D A0 (wF1 h cs I L A Q G J) := hD
      obtain rfl := hf_19
      exact xr_i (v := (atF (A 136) (G 0) M i_4 i_12)) hx hb hr hlocks hK hS dX9_told_46 (I, L, A, Q, G, J) ⟨(Or.inl ⟨i_4, i_12, hi_5, by omega, hx_6, hx_14, rfl⟩), rfl⟩ hP hD
    · skip
      refine xs_neF (tgt := 37) hx hb dX9_told_19 (by decide) (by decide) ?_
      refine lv_iload_n hx hb dX9_told_22 rfl (lv_at hl 2 rfl) ?_
      refine lv_aload_n hx hb dX9_told_23 rfl (lv_at hl 0 rfl) ?_
      refine va_get (D := (dC, dI)) (ci := 9) (v := .ref (h 101)) (C := RX9) (T := TX9) (N := 9) hx hb hts hinX9 hown hK hP 0 rfl rfl 0 (by decide) (hts (.fieldLink RX9 12 "MixedWords" "mix" "LMixedWords$Mix;") (by decide +kernel)) (fun _ h9 => h9) rfl dX9_told_24 ?_
      refine va_get (D := (dC, dI)) (ci := 3) (v := .int (I 121)) (C := RX3) (T := TX3) (N := 6) hx hb hts hinX3 hown hK hP 6 rfl rfl 1 (by decide) (hts (.fieldLink RX9 106 "MixedWords$Mix" "width" "I") (by decide +kernel)) (fun _ h9 => h9) rfl dX9_told_27 ?_
      refine xt_i (y := nI M) (hM) ?_
      refine lv_icmp_eq (tgt := 37) hx hb dX9_told_30 (by decide) (fun c_30_20 => ?_) (fun c_30_20 => ?_)
      · skip
        rw [c_30_20] at hl
        refine lv_aload_n hx hb dX9_told_37 rfl (lv_at hl 0 rfl) ?_
        refine va_get (D := (dC, dI)) (ci := 9) (v := .ref (h 101)) (C := RX9) (T := TX9) (N := 9) hx hb hts hinX9 hown hK hP 0 rfl rfl 0 (by decide) (hts (.fieldLink RX9 12 "MixedWords" "mix" "LMixedWords$Mix;") (by decide +kernel)) (fun _ h9 => h9) rfl dX9_told_38 ?_
        refine lv_iload_n hx hb dX9_told_41 rfl (lv_at hl 1 rfl) ?_
        refine lv_iload_n hx hb dX9_told_42 rfl (lv_at hl 2 rfl) ?_
        refine xj_i (wc := (wMix h cs I L A Q G J)) (wr := [(h 100, .inr (9, [.ref (h 101), .ref (h 102), .ref (h 103), .ref (h 104), .ref (h 105), .ref (h 106), .ref (h 107), .ref (h 108), .ref (h 109)])), (h 102, .inr (0, [.ref (h 101), .ref (h 140), .ref (h 141), .ref (h 142), .ref (h 143), .int (I 144), .int (I 145), .int (I 146)])), (h 140, .inl (cs 0, 40, .inl (A 140))), (h 141, .inl (cs 0, 40, .inl (A 141))), (h 142, .inl (cs 0, 40, .inl (A 142))), (h 143, .inl (cs 0, 40, .inl (A 143)))]) hP hD hS hA [6, 7, 8, 9, 10, 11, 12, 13] [0, 1, 2, 3, 4, 5] rfl rfl (by decide +kernel) (by decide +kernel) (va_runV (As := [.int (nI i_4), .int (nI M)]) (rest := []) ⟨hx, hb, hml, hown, hts⟩ (k_X3_at l dC dI h cs H.size I L A Q G J i_4 M M (by first | assumption | omega) (by first | assumption | omega) hM (by first | assumption | omega | exact hM1) (by first | assumption | omega | exact hM4)) (cwV 2 hts gX9_told_X3_at rfl rfl rfl (by decide +kernel) ⟨Nat.le_of_ble_eq_true rfl, Nat.le_of_ble_eq_true rfl⟩) (xpV (wc := (wMix h cs I L A Q G J)) hP hD hK hN [6, 7, 8, 9, 10, 11, 12, 13] rfl (by decide) 6 (ci := 3) rfl rfl _) rfl rfl hl.1 rfl (lv_room (Nat.le_of_ble_eq_true rfl)) dX9_told_43 ⟨Nat.zero_le _, Nat.zero_le _⟩) (fun r_23 u_22 H locs hw hP hD hS => ?_)
        obtain ⟨hf_24, rfl⟩ := hw
        have hP : va_P (dC, dI) vwCl (wF1 h cs I L A Q G J) H := hP
        have hD : va_D A0 (wF1 h cs I L A Q G J) := hD
        obtain rfl := hf_24
        exact xr_i (v := (atF (A 136) (G 0) M i_4 M)) hx hb hr hlocks hK hS dX9_told_46 (I, L, A, Q, G, J) ⟨(Or.inl ⟨i_4, M, hi_5, by omega, hx_6, c_30_20, rfl⟩), rfl⟩ hP hD
      · skip
        have hne9 : ¬ y = nI M := c_30_20
        refine lv_sipush (v := (-10001)) hx hb dX9_told_33 (by decide) ?_
        exact xr_i (v := (-10001)) hx hb hr hlocks hK hS dX9_told_36 (I, L, A, Q, G, J) ⟨(Or.inr ⟨rfl, fun i j a9 b9 c9 d9 => (by rcases Nat.lt_or_ge j M with g | g; exact hn_15 j g d9; exact hne9 (by rw [d9, show j = M by omega]))⟩), rfl⟩ hP hD
  · skip
    refine xs_eqT (tgt := 33) hx hb dX9_told_8 (by decide) (by decide) ?_
    refine lv_sipush (v := (-10001)) hx hb dX9_told_33 (by decide) ?_
    exact xr_i (v := (-10001)) hx hb hr hlocks hK hS dX9_told_36 (I, L, A, Q, G, J) ⟨(Or.inr ⟨rfl, fun i j a9 b9 c9 d9 => hn_7 i a9 c9⟩), rfl⟩ hP hD
set_option maxRecDepth 20000 in
theorem ggX9_letters_X3_choose : GoodIn wsX9_letters wsX3_choose := goodIn_r _ [8, 9, 10, 28, 29, 30, 31, 32, 33] rfl (by decide +kernel)
set_option maxRecDepth 20000 in
theorem gX9_letters_X3_choose : GoodIn wsX9_letters (wsV RX9 87 RX3 yX3_choose wsX3_choose) := goodIn_app (goodIn_of _ (by decide +kernel)) ggX9_letters_X3_choose
set_option maxRecDepth 20000 in
theorem ggX9_letters_X0_forget : GoodIn wsX9_letters wsX0_forget := goodIn_r _ [15, 16, 17, 18, 34, 35, 36, 37, 38, 39, 40, 41] rfl (by decide +kernel)
set_option maxRecDepth 20000 in
theorem gX9_letters_X0_forget : GoodIn wsX9_letters (wsV RX9 80 RX0 yX0_forget wsX0_forget) := goodIn_app (goodIn_of _ (by decide +kernel)) ggX9_letters_X0_forget
theorem bdX9_letters_0 : (decode cX9_letters 0 = .ok (.iload_n 1, 1)) ∧ (decode cX9_letters 1 = .ok (.iconst 2, 1)) ∧ (decode cX9_letters 2 = .ok (.if_icmp .eq 10, 3)) ∧ (decode cX9_letters 5 = .ok (.iload_n 1, 1)) ∧ (decode cX9_letters 6 = .ok (.iconst 4, 1)) ∧ (decode cX9_letters 7 = .ok (.if_icmp .eq 5, 3)) ∧ (decode cX9_letters 10 = .ok (.iconst (-1), 1)) ∧ (decode cX9_letters 11 = .ok (.ireturn, 1)) ∧ (decode cX9_letters 12 = .ok (.aload_n 0, 1)) ∧ (decode cX9_letters 13 = .ok (.getfield 12, 3)) ∧ (decode cX9_letters 16 = .ok (.getfield 83, 3)) ∧ (decode cX9_letters 19 = .ok (.istore_n 2, 1)) ∧ (decode cX9_letters 20 = .ok (.aload_n 0, 1)) ∧ (decode cX9_letters 21 = .ok (.getfield 12, 3)) ∧ (decode cX9_letters 24 = .ok (.iload_n 1, 1)) ∧ (decode cX9_letters 25 = .ok (.invokevirtual 87, 3)) := by decide +kernel
theorem dX9_letters_0 : decode cX9_letters 0 = .ok (.iload_n 1, 1) := bdX9_letters_0.1
theorem dX9_letters_1 : decode cX9_letters 1 = .ok (.iconst 2, 1) := bdX9_letters_0.2.1
theorem dX9_letters_2 : decode cX9_letters 2 = .ok (.if_icmp .eq 10, 3) := bdX9_letters_0.2.2.1
theorem dX9_letters_5 : decode cX9_letters 5 = .ok (.iload_n 1, 1) := bdX9_letters_0.2.2.2.1
theorem dX9_letters_6 : decode cX9_letters 6 = .ok (.iconst 4, 1) := bdX9_letters_0.2.2.2.2.1
theorem dX9_letters_7 : decode cX9_letters 7 = .ok (.if_icmp .eq 5, 3) := bdX9_letters_0.2.2.2.2.2.1
theorem dX9_letters_10 : decode cX9_letters 10 = .ok (.iconst (-1), 1) := bdX9_letters_0.2.2.2.2.2.2.1
theorem dX9_letters_11 : decode cX9_letters 11 = .ok (.ireturn, 1) := bdX9_letters_0.2.2.2.2.2.2.2.1
theorem dX9_letters_12 : decode cX9_letters 12 = .ok (.aload_n 0, 1) := bdX9_letters_0.2.2.2.2.2.2.2.2.1
theorem dX9_letters_13 : decode cX9_letters 13 = .ok (.getfield 12, 3) := bdX9_letters_0.2.2.2.2.2.2.2.2.2.1
theorem dX9_letters_16 : decode cX9_letters 16 = .ok (.getfield 83, 3) := bdX9_letters_0.2.2.2.2.2.2.2.2.2.2.1
theorem dX9_letters_19 : decode cX9_letters 19 = .ok (.istore_n 2, 1) := bdX9_letters_0.2.2.2.2.2.2.2.2.2.2.2.1
theorem dX9_letters_20 : decode cX9_letters 20 = .ok (.aload_n 0, 1) := bdX9_letters_0.2.2.2.2.2.2.2.2.2.2.2.2.1
theorem dX9_letters_21 : decode cX9_letters 21 = .ok (.getfield 12, 3) := bdX9_letters_0.2.2.2.2.2.2.2.2.2.2.2.2.2.1
theorem dX9_letters_24 : decode cX9_letters 24 = .ok (.iload_n 1, 1) := bdX9_letters_0.2.2.2.2.2.2.2.2.2.2.2.2.2.2.1
theorem dX9_letters_25 : decode cX9_letters 25 = .ok (.invokevirtual 87, 3) := bdX9_letters_0.2.2.2.2.2.2.2.2.2.2.2.2.2.2.2
theorem bdX9_letters_28 : (decode cX9_letters 28 = .ok (.aload_n 0, 1)) ∧ (decode cX9_letters 29 = .ok (.getfield 21, 3)) ∧ (decode cX9_letters 32 = .ok (.invokevirtual 80, 3)) ∧ (decode cX9_letters 35 = .ok (.iload_n 2, 1)) ∧ (decode cX9_letters 36 = .ok (.ireturn, 1)) := by decide +kernel
theorem dX9_letters_28 : decode cX9_letters 28 = .ok (.aload_n 0, 1) := bdX9_letters_28.1
theorem dX9_letters_29 : decode cX9_letters 29 = .ok (.getfield 21, 3) := bdX9_letters_28.2.1
theorem dX9_letters_32 : decode cX9_letters 32 = .ok (.invokevirtual 80, 3) := bdX9_letters_28.2.2.1
theorem dX9_letters_35 : decode cX9_letters 35 = .ok (.iload_n 2, 1) := bdX9_letters_28.2.2.2.1
theorem dX9_letters_36 : decode cX9_letters 36 = .ok (.ireturn, 1) := bdX9_letters_28.2.2.2.2
set_option maxHeartbeats 4000000 in
set_option maxRecDepth 100000 in
theorem k_X9_letters (l : Launch) (dC : Nat → ClassId) (dI : Nat → Nat → Nat) (h : Nat → Nat) (cs : Nat → ClassId) (sz : Nat) (I : Nat → Int32) (L : Nat → Int64) (A : Nat → Nat → Int32) (Q : Nat → Nat → Int64) (G : Nat → Nat → Nat → Int32) (J : Nat → Nat → Nat → Int64) (x : Int32) (sp9 : Nat) (hst : I 123 = nI sp9) (hst2 : sp9 < 1000000000) : Met l yX9_letters wsX9_letters ({ frames := 1, cells := 0, slots := 0, locals := 21 }) (va_Pc [.ref (h 100), .int x] (xPre (dC, dI) (wF1 h cs I L A Q G J) (tysA cs) sz)) (va_Qi (fun (r : Int32) (u : CS) => ∃ x122 : Int32, ∃ x123 : Int32, ∃ x144 : Int32, ∃ x145 : Int32, ∃ x146 : Int32, ((r = I 122 ∧ (x = nI 2 ∨ x = nI 4) ∧ x122 = x ∧ x123 = nI (sp9 + 1) ∧ x144 = nI 0 ∧ x145 = nI 0 ∧ x146 = nI 0) ∨ (r = -1 ∧ ¬ x = nI 2 ∧ ¬ x = nI 4 ∧ x122 = I 122 ∧ x123 = I 123 ∧ x144 = I 144 ∧ x145 = I 145 ∧ x146 = I 146)) ∧ u = ((va_up (va_up (va_up (va_up (va_up I 122 x122) 123 x123) 144 x144) 145 x145) 146 x146), L, A, Q, G, J)) (xB (dC, dI) (tysA cs) (va_A (wF1 h cs I L A Q G J) sz) (fun u : CS => wF1 h cs u.1 u.2.1 u.2.2.1 u.2.2.2.1 u.2.2.2.2.1 u.2.2.2.2.2)) (va_A (wF1 h cs I L A Q G J) sz)) 0 0 (va_A (wF1 h cs I L A Q G J) sz) := by
  refine Met.ofW (cc := cX9_letters) (maxL := 3) (ret := (some .int)) (by decide) rfl ?_
  intro p e s m args below meth c s₁ B hml hv
  obtain ⟨rfl, hsz, hP, hK, hD0, hN⟩ := hv
  have hx := B.exec
  have hb := B.bytes
  have hr := B.returns
  have hts := atoms_spec (ws := wsX9_letters) B.pre
  have hown : s.vm.findClass RX9 = some m.cls := findClass_of_methodNamed B.named
  have hlocks := B.notSynchronized
  subst hsz
  have hD := hD0.self (sz := s.heap.size)
  generalize hAe : va_A (wF1 h cs I L A Q G J) s.heap.size = A0 at hD ⊢
  have hA : ∀ q : Nat, s.heap.size ≤ q → A0 q := fun q h => by rw [← hAe]; exact Or.inr h
  have hl := lv_entry ([.ref (h 100), .int x]) (n := 3) (Nat.le_of_ble_eq_true rfl)
  rw [lg_entry_eq]
  generalize (lg_sl ([.ref (h 100), .int x]) ++ List.replicate (3 - (lg_sl ([.ref (h 100), .int x])).length) Slot.unset).toArray = ls at hl ⊢
  have hl : lv_has ls 3 [(0, .ref (h 100)), (1, .int x)] := hl
  generalize hH : s.heap = H at hP ⊢
  have hS : va_S A0 s.heap H [] := by rw [← hH]; exact va_S.rf
  have hinX9 : ∀ w ∈ wsX90, w ∈ wsX9_letters := by decide +kernel
  have hinX3 : ∀ w ∈ wsX30, w ∈ wsX9_letters := by decide +kernel
  refine lv_iload_n hx hb dX9_letters_0 rfl (lv_at hl 1 rfl) ?_
  refine lv_iconst (v := nI 2) hx hb dX9_letters_1 (by decide) ?_
  refine lv_icmp_eq (tgt := 12) hx hb dX9_letters_2 (by decide) (fun c_2_0 => ?_) (fun c_2_0 => ?_)
  · skip
    refine lv_aload_n hx hb dX9_letters_12 rfl (lv_at hl 0 rfl) ?_
    refine va_get (D := (dC, dI)) (ci := 9) (v := .ref (h 101)) (C := RX9) (T := TX9) (N := 9) hx hb hts hinX9 hown hK hP 0 rfl rfl 0 (by decide) (hts (.fieldLink RX9 12 "MixedWords" "mix" "LMixedWords$Mix;") (by decide +kernel)) (fun _ h9 => h9) rfl dX9_letters_13 ?_
    refine va_get (D := (dC, dI)) (ci := 3) (v := .int (I 122)) (C := RX3) (T := TX3) (N := 6) hx hb hts hinX3 hown hK hP 6 rfl rfl 2 (by decide) (hts (.fieldLink RX9 83 "MixedWords$Mix" "letterCount" "I") (by decide +kernel)) (fun _ h9 => h9) rfl dX9_letters_16 ?_
    refine lv_istore_n (lv' := [(2, .int (I 122)), (0, .ref (h 100)), (1, .int x)]) hx hb dX9_letters_19 rfl hl (by decide) rfl (fun ls hl => ?_)
    refine lv_aload_n hx hb dX9_letters_20 rfl (lv_at hl 1 rfl) ?_
    refine va_get (D := (dC, dI)) (ci := 9) (v := .ref (h 101)) (C := RX9) (T := TX9) (N := 9) hx hb hts hinX9 hown hK hP 0 rfl rfl 0 (by decide) (hts (.fieldLink RX9 12 "MixedWords" "mix" "LMixedWords$Mix;") (by decide +kernel)) (fun _ h9 => h9) rfl dX9_letters_21 ?_
    refine lv_iload_n hx hb dX9_letters_24 rfl (lv_at hl 2 rfl) ?_
    refine xj_v (wc := (wMix h cs I L A Q G J)) (wr := [(h 100, .inr (9, [.ref (h 101), .ref (h 102), .ref (h 103), .ref (h 104), .ref (h 105), .ref (h 106), .ref (h 107), .ref (h 108), .ref (h 109)])), (h 102, .inr (0, [.ref (h 101), .ref (h 140), .ref (h 141), .ref (h 142), .ref (h 143), .int (I 144), .int (I 145), .int (I 146)])), (h 140, .inl (cs 0, 40, .inl (A 140))), (h 141, .inl (cs 0, 40, .inl (A 141))), (h 142, .inl (cs 0, 40, .inl (A 142))), (h 143, .inl (cs 0, 40, .inl (A 143)))]) hP hD hS hA [6, 7, 8, 9, 10, 11, 12, 13] [0, 1, 2, 3, 4, 5] rfl rfl (by decide +kernel) (by decide +kernel) (va_runV (As := [.int x]) (rest := []) ⟨hx, hb, hml, hown, hts⟩ (k_X3_choose l dC dI h cs H.size I L A Q G J x sp9 hst (by first | assumption | omega | exact hst2)) (cwV 1 hts gX9_letters_X3_choose rfl rfl rfl (by decide +kernel) ⟨Nat.le_of_ble_eq_true rfl, Nat.le_of_ble_eq_true rfl⟩) (xpV (wc := (wMix h cs I L A Q G J)) hP hD hK hN [6, 7, 8, 9, 10, 11, 12, 13] rfl (by decide) 6 (ci := 3) rfl rfl _) rfl rfl hl.1 rfl (lv_room (Nat.le_of_ble_eq_true rfl)) dX9_letters_25 ⟨Nat.zero_le _, Nat.zero_le _⟩) (fun u_2 H locs hw hP hD hS => ?_)
    obtain ⟨x122_4, x123_5, hf_6, rfl⟩ := hw
    have hP : va_P (dC, dI) vwCl (wF1 h cs (va_up (va_up I 122 x122_4) 123 x123_5) L A Q G J) H := hP
    have hD : va_D A0 (wF1 h cs (va_up (va_up I 122 x122_4) 123 x123_5) L A Q G J) := hD
    obtain ⟨rfl, rfl⟩ := hf_6
    refine lv_aload_n hx hb dX9_letters_28 rfl (lv_at hl 1 rfl) ?_
    refine va_get (D := (dC, dI)) (ci := 9) (v := .ref (h 102)) (C := RX9) (T := TX9) (N := 9) hx hb hts hinX9 hown hK hP 0 rfl rfl 1 (by decide) (hts (.fieldLink RX9 21 "MixedWords" "acts" "LMixedWords$Acts;") (by decide +kernel)) (fun _ h9 => h9) rfl dX9_letters_29 ?_
    refine xj_v (wc := (wAct0 h cs (va_up (va_up I 122 x) 123 (nI (sp9 + 1))) L A Q G J)) (wr := [(h 100, .inr (9, [.ref (h 101), .ref (h 102), .ref (h 103), .ref (h 104), .ref (h 105), .ref (h 106), .ref (h 107), .ref (h 108), .ref (h 109)])), (h 101, .inr (3, [.int (I 120), .int (I 121), .int (x), .int (nI (sp9 + 1)), .ref (h 130), .ref (h 136)])), (h 130, .inl (cs 3, 5, .inr (.inr (.inr (.inr (fun i => if i < 5 then some (h (i + 131)) else none)))))), (h 131, .inl (cs 0, 4, .inl ((G 0) 0))), (h 132, .inl (cs 0, 4, .inl ((G 0) 1))), (h 133, .inl (cs 0, 4, .inl ((G 0) 2))), (h 134, .inl (cs 0, 4, .inl ((G 0) 3))), (h 135, .inl (cs 0, 4, .inl ((G 0) 4))), (h 136, .inl (cs 0, 5, .inl (A 136)))]) hP hD hS hA [1, 2, 3, 4, 5] [0, 6, 7, 8, 9, 10, 11, 12, 13] rfl rfl (by decide +kernel) (by decide +kernel) (va_runV (As := []) (rest := []) ⟨hx, hb, hml, hown, hts⟩ (k_X0_forget l dC dI h cs H.size (va_up (va_up I 122 x) 123 (nI (sp9 + 1))) L A Q G J ) (cwV 0 hts gX9_letters_X0_forget rfl rfl rfl (by decide +kernel) ⟨Nat.le_of_ble_eq_true rfl, Nat.le_of_ble_eq_true rfl⟩) (xpV (wc := (wAct0 h cs (va_up (va_up I 122 x) 123 (nI (sp9 + 1))) L A Q G J)) hP hD hK hN [1, 2, 3, 4, 5] rfl (by decide) 1 (ci := 0) rfl rfl _) rfl rfl hl.1 rfl (lv_room (Nat.le_of_ble_eq_true rfl)) dX9_letters_32 ⟨Nat.zero_le _, Nat.zero_le _⟩) (fun u_7 H locs hw hP hD hS => ?_)
    obtain ⟨x144_9, x145_10, x146_11, hf_12, rfl⟩ := hw
    have hP : va_P (dC, dI) vwCl (wF1 h cs (va_up (va_up (va_up (va_up (va_up I 122 x) 123 (nI (sp9 + 1))) 144 x144_9) 145 x145_10) 146 x146_11) L A Q G J) H := xP_sub hP [0, 9, 10, 11, 12, 13, 1, 2, 3, 4, 5, 6, 7, 8] rfl
    have hD : va_D A0 (wF1 h cs (va_up (va_up (va_up (va_up (va_up I 122 x) 123 (nI (sp9 + 1))) 144 x144_9) 145 x145_10) 146 x146_11) L A Q G J) := hD.sub [0, 9, 10, 11, 12, 13, 1, 2, 3, 4, 5, 6, 7, 8] (by decide +kernel) rfl
    obtain ⟨rfl, rfl, rfl⟩ := hf_12
    refine lv_iload_n hx hb dX9_letters_35 rfl (lv_at hl 0 rfl) ?_
    exact xr_i (v := (I 122)) hx hb hr hlocks hK hS dX9_letters_36 ((va_up (va_up (va_up (va_up (va_up I 122 x) 123 (nI (sp9 + 1))) 144 (nI 0)) 145 (nI 0)) 146 (nI 0)), L, A, Q, G, J) ⟨x, (nI (sp9 + 1)), (nI 0), (nI 0), (nI 0), (Or.inl ⟨rfl, by first | exact Or.inl (by assumption) | exact Or.inr (by assumption), rfl, rfl, rfl, rfl, rfl⟩), rfl⟩ hP hD
  · skip
    refine lv_iload_n hx hb dX9_letters_5 rfl (lv_at hl 1 rfl) ?_
    refine lv_iconst (v := nI 4) hx hb dX9_letters_6 (by decide) ?_
    refine lv_icmp_eq (tgt := 12) hx hb dX9_letters_7 (by decide) (fun c_7_12 => ?_) (fun c_7_12 => ?_)
    · skip
      refine lv_aload_n hx hb dX9_letters_12 rfl (lv_at hl 0 rfl) ?_
      refine va_get (D := (dC, dI)) (ci := 9) (v := .ref (h 101)) (C := RX9) (T := TX9) (N := 9) hx hb hts hinX9 hown hK hP 0 rfl rfl 0 (by decide) (hts (.fieldLink RX9 12 "MixedWords" "mix" "LMixedWords$Mix;") (by decide +kernel)) (fun _ h9 => h9) rfl dX9_letters_13 ?_
      refine va_get (D := (dC, dI)) (ci := 3) (v := .int (I 122)) (C := RX3) (T := TX3) (N := 6) hx hb hts hinX3 hown hK hP 6 rfl rfl 2 (by decide) (hts (.fieldLink RX9 83 "MixedWords$Mix" "letterCount" "I") (by decide +kernel)) (fun _ h9 => h9) rfl dX9_letters_16 ?_
      refine lv_istore_n (lv' := [(2, .int (I 122)), (0, .ref (h 100)), (1, .int x)]) hx hb dX9_letters_19 rfl hl (by decide) rfl (fun ls hl => ?_)
      refine lv_aload_n hx hb dX9_letters_20 rfl (lv_at hl 1 rfl) ?_
      refine va_get (D := (dC, dI)) (ci := 9) (v := .ref (h 101)) (C := RX9) (T := TX9) (N := 9) hx hb hts hinX9 hown hK hP 0 rfl rfl 0 (by decide) (hts (.fieldLink RX9 12 "MixedWords" "mix" "LMixedWords$Mix;") (by decide +kernel)) (fun _ h9 => h9) rfl dX9_letters_21 ?_
      refine lv_iload_n hx hb dX9_letters_24 rfl (lv_at hl 2 rfl) ?_
      refine xj_v (wc := (wMix h cs I L A Q G J)) (wr := [(h 100, .inr (9, [.ref (h 101), .ref (h 102), .ref (h 103), .ref (h 104), .ref (h 105), .ref (h 106), .ref (h 107), .ref (h 108), .ref (h 109)])), (h 102, .inr (0, [.ref (h 101), .ref (h 140), .ref (h 141), .ref (h 142), .ref (h 143), .int (I 144), .int (I 145), .int (I 146)])), (h 140, .inl (cs 0, 40, .inl (A 140))), (h 141, .inl (cs 0, 40, .inl (A 141))), (h 142, .inl (cs 0, 40, .inl (A 142))), (h 143, .inl (cs 0, 40, .inl (A 143)))]) hP hD hS hA [6, 7, 8, 9, 10, 11, 12, 13] [0, 1, 2, 3, 4, 5] rfl rfl (by decide +kernel) (by decide +kernel) (va_runV (As := [.int x]) (rest := []) ⟨hx, hb, hml, hown, hts⟩ (k_X3_choose l dC dI h cs H.size I L A Q G J x sp9 hst (by first | assumption | omega | exact hst2)) (cwV 1 hts gX9_letters_X3_choose rfl rfl rfl (by decide +kernel) ⟨Nat.le_of_ble_eq_true rfl, Nat.le_of_ble_eq_true rfl⟩) (xpV (wc := (wMix h cs I L A Q G J)) hP hD hK hN [6, 7, 8, 9, 10, 11, 12, 13] rfl (by decide) 6 (ci := 3) rfl rfl _) rfl rfl hl.1 rfl (lv_room (Nat.le_of_ble_eq_true rfl)) dX9_letters_25 ⟨Nat.zero_le _, Nat.zero_le _⟩) (fun u_14 H locs hw hP hD hS => ?_)
      obtain ⟨x122_16, x123_17, hf_18, rfl⟩ := hw
      have hP : va_P (dC, dI) vwCl (wF1 h cs (va_up (va_up I 122 x122_16) 123 x123_17) L A Q G J) H := hP
      have hD : va_D A0 (wF1 h cs (va_up (va_up I 122 x122_16) 123 x123_17) L A Q G J) := hD
      obtain ⟨rfl, rfl⟩ := hf_18
      refine lv_aload_n hx hb dX9_letters_28 rfl (lv_at hl 1 rfl) ?_
      refine va_get (D := (dC, dI)) (ci := 9) (v := .ref (h 102)) (C := RX9) (T := TX9) (N := 9) hx hb hts hinX9 hown hK hP 0 rfl rfl 1 (by decide) (hts (.fieldLink RX9 21 "MixedWords" "acts" "LMixedWords$Acts;") (by decide +kernel)) (fun _ h9 => h9) rfl dX9_letters_29 ?_
      refine xj_v (wc := (wAct0 h cs (va_up (va_up I 122 x) 123 (nI (sp9 + 1))) L A Q G J)) (wr := [(h 100, .inr (9, [.ref (h 101), .ref (h 102), .ref (h 103), .ref (h 104), .ref (h 105), .ref (h 106), .ref (h 107), .ref (h 108), .ref (h 109)])), (h 101, .inr (3, [.int (I 120), .int (I 121), .int (x), .int (nI (sp9 + 1)), .ref (h 130), .ref (h 136)])), (h 130, .inl (cs 3, 5, .inr (.inr (.inr (.inr (fun i => if i < 5 then some (h (i + 131)) else none)))))), (h 131, .inl (cs 0, 4, .inl ((G 0) 0))), (h 132, .inl (cs 0, 4, .inl ((G 0) 1))), (h 133, .inl (cs 0, 4, .inl ((G 0) 2))), (h 134, .inl (cs 0, 4, .inl ((G 0) 3))), (h 135, .inl (cs 0, 4, .inl ((G 0) 4))), (h 136, .inl (cs 0, 5, .inl (A 136)))]) hP hD hS hA [1, 2, 3, 4, 5] [0, 6, 7, 8, 9, 10, 11, 12, 13] rfl rfl (by decide +kernel) (by decide +kernel) (va_runV (As := []) (rest := []) ⟨hx, hb, hml, hown, hts⟩ (k_X0_forget l dC dI h cs H.size (va_up (va_up I 122 x) 123 (nI (sp9 + 1))) L A Q G J ) (cwV 0 hts gX9_letters_X0_forget rfl rfl rfl (by decide +kernel) ⟨Nat.le_of_ble_eq_true rfl, Nat.le_of_ble_eq_true rfl⟩) (xpV (wc := (wAct0 h cs (va_up (va_up I 122 x) 123 (nI (sp9 + 1))) L A Q G J)) hP hD hK hN [1, 2, 3, 4, 5] rfl (by decide) 1 (ci := 0) rfl rfl _) rfl rfl hl.1 rfl (lv_room (Nat.le_of_ble_eq_true rfl)) dX9_letters_32 ⟨Nat.zero_le _, Nat.zero_le _⟩) (fun u_19 H locs hw hP hD hS => ?_)
      obtain ⟨x144_21, x145_22, x146_23, hf_24, rfl⟩ := hw
      have hP : va_P (dC, dI) vwCl (wF1 h cs (va_up (va_up (va_up (va_up (va_up I 122 x) 123 (nI (sp9 + 1))) 144 x144_21) 145 x145_22) 146 x146_23) L A Q G J) H := xP_sub hP [0, 9, 10, 11, 12, 13, 1, 2, 3, 4, 5, 6, 7, 8] rfl
      have hD : va_D A0 (wF1 h cs (va_up (va_up (va_up (va_up (va_up I 122 x) 123 (nI (sp9 + 1))) 144 x144_21) 145 x145_22) 146 x146_23) L A Q G J) := hD.sub [0, 9, 10, 11, 12, 13, 1, 2, 3, 4, 5, 6, 7, 8] (by decide +kernel) rfl
      obtain ⟨rfl, rfl, rfl⟩ := hf_24
      refine lv_iload_n hx hb dX9_letters_35 rfl (lv_at hl 0 rfl) ?_
      exact xr_i (v := (I 122)) hx hb hr hlocks hK hS dX9_letters_36 ((va_up (va_up (va_up (va_up (va_up I 122 x) 123 (nI (sp9 + 1))) 144 (nI 0)) 145 (nI 0)) 146 (nI 0)), L, A, Q, G, J) ⟨x, (nI (sp9 + 1)), (nI 0), (nI 0), (nI 0), (Or.inl ⟨rfl, by first | exact Or.inl (by assumption) | exact Or.inr (by assumption), rfl, rfl, rfl, rfl, rfl⟩), rfl⟩ hP hD
    · skip
      refine lv_iconst (v := (-1)) hx hb dX9_letters_10 (by decide) ?_
      exact xr_i (v := (-1)) hx hb hr hlocks hK hS dX9_letters_11 ((va_up (va_up (va_up (va_up (va_up I 122 (I 122)) 123 (I 123)) 144 (I 144)) 145 (I 145)) 146 (I 146)), L, A, Q, G, J) ⟨(I 122), (I 123), (I 144), (I 145), (I 146), (Or.inr ⟨rfl, by assumption, by assumption, rfl, rfl, rfl, rfl, rfl⟩), rfl⟩ hP hD
theorem bdX9_product_0 : (decode cX9_product 0 = .ok (.iconst 0, 1)) ∧ (decode cX9_product 1 = .ok (.istore 4, 2)) ∧ (decode cX9_product 3 = .ok (.iconst 0, 1)) ∧ (decode cX9_product 4 = .ok (.istore 5, 2)) ∧ (decode cX9_product 6 = .ok (.iload 5, 2)) ∧ (decode cX9_product 8 = .ok (.iload_n 1, 1)) ∧ (decode cX9_product 9 = .ok (.if_icmp .ge 27, 3)) ∧ (decode cX9_product 12 = .ok (.iload 4, 2)) ∧ (decode cX9_product 14 = .ok (.aload_n 0, 1)) ∧ (decode cX9_product 15 = .ok (.iload 5, 2)) ∧ (decode cX9_product 17 = .ok (.aaload, 1)) ∧ (decode cX9_product 18 = .ok (.iload_n 2, 1)) ∧ (decode cX9_product 19 = .ok (.iaload, 1)) ∧ (decode cX9_product 20 = .ok (.aload_n 0, 1)) ∧ (decode cX9_product 21 = .ok (.iload 5, 2)) ∧ (decode cX9_product 23 = .ok (.aaload, 1)) := by decide +kernel
theorem dX9_product_0 : decode cX9_product 0 = .ok (.iconst 0, 1) := bdX9_product_0.1
theorem dX9_product_1 : decode cX9_product 1 = .ok (.istore 4, 2) := bdX9_product_0.2.1
theorem dX9_product_3 : decode cX9_product 3 = .ok (.iconst 0, 1) := bdX9_product_0.2.2.1
theorem dX9_product_4 : decode cX9_product 4 = .ok (.istore 5, 2) := bdX9_product_0.2.2.2.1
theorem dX9_product_6 : decode cX9_product 6 = .ok (.iload 5, 2) := bdX9_product_0.2.2.2.2.1
theorem dX9_product_8 : decode cX9_product 8 = .ok (.iload_n 1, 1) := bdX9_product_0.2.2.2.2.2.1
theorem dX9_product_9 : decode cX9_product 9 = .ok (.if_icmp .ge 27, 3) := bdX9_product_0.2.2.2.2.2.2.1
theorem dX9_product_12 : decode cX9_product 12 = .ok (.iload 4, 2) := bdX9_product_0.2.2.2.2.2.2.2.1
theorem dX9_product_14 : decode cX9_product 14 = .ok (.aload_n 0, 1) := bdX9_product_0.2.2.2.2.2.2.2.2.1
theorem dX9_product_15 : decode cX9_product 15 = .ok (.iload 5, 2) := bdX9_product_0.2.2.2.2.2.2.2.2.2.1
theorem dX9_product_17 : decode cX9_product 17 = .ok (.aaload, 1) := bdX9_product_0.2.2.2.2.2.2.2.2.2.2.1
theorem dX9_product_18 : decode cX9_product 18 = .ok (.iload_n 2, 1) := bdX9_product_0.2.2.2.2.2.2.2.2.2.2.2.1
theorem dX9_product_19 : decode cX9_product 19 = .ok (.iaload, 1) := bdX9_product_0.2.2.2.2.2.2.2.2.2.2.2.2.1
theorem dX9_product_20 : decode cX9_product 20 = .ok (.aload_n 0, 1) := bdX9_product_0.2.2.2.2.2.2.2.2.2.2.2.2.2.1
theorem dX9_product_21 : decode cX9_product 21 = .ok (.iload 5, 2) := bdX9_product_0.2.2.2.2.2.2.2.2.2.2.2.2.2.2.1
theorem dX9_product_23 : decode cX9_product 23 = .ok (.aaload, 1) := bdX9_product_0.2.2.2.2.2.2.2.2.2.2.2.2.2.2.2
theorem bdX9_product_24 : (decode cX9_product 24 = .ok (.iload_n 3, 1)) ∧ (decode cX9_product 25 = .ok (.iaload, 1)) ∧ (decode cX9_product 26 = .ok (.imul, 1)) ∧ (decode cX9_product 27 = .ok (.iadd, 1)) ∧ (decode cX9_product 28 = .ok (.istore 4, 2)) ∧ (decode cX9_product 30 = .ok (.iinc 5 1, 3)) ∧ (decode cX9_product 33 = .ok (.goto (-27), 3)) ∧ (decode cX9_product 36 = .ok (.iload 4, 2)) ∧ (decode cX9_product 38 = .ok (.ireturn, 1)) := by decide +kernel
theorem dX9_product_24 : decode cX9_product 24 = .ok (.iload_n 3, 1) := bdX9_product_24.1
theorem dX9_product_25 : decode cX9_product 25 = .ok (.iaload, 1) := bdX9_product_24.2.1
theorem dX9_product_26 : decode cX9_product 26 = .ok (.imul, 1) := bdX9_product_24.2.2.1
theorem dX9_product_27 : decode cX9_product 27 = .ok (.iadd, 1) := bdX9_product_24.2.2.2.1
theorem dX9_product_28 : decode cX9_product 28 = .ok (.istore 4, 2) := bdX9_product_24.2.2.2.2.1
theorem dX9_product_30 : decode cX9_product 30 = .ok (.iinc 5 1, 3) := bdX9_product_24.2.2.2.2.2.1
theorem dX9_product_33 : decode cX9_product 33 = .ok (.goto (-27), 3) := bdX9_product_24.2.2.2.2.2.2.1
theorem dX9_product_36 : decode cX9_product 36 = .ok (.iload 4, 2) := bdX9_product_24.2.2.2.2.2.2.2.1
theorem dX9_product_38 : decode cX9_product 38 = .ok (.ireturn, 1) := bdX9_product_24.2.2.2.2.2.2.2.2
set_option maxHeartbeats 4000000 in
set_option maxRecDepth 100000 in
theorem k_X9_product (l : Launch) (dC : Nat → ClassId) (dI : Nat → Nat → Nat) (h : Nat → Nat) (cs : Nat → ClassId) (sz : Nat) (I : Nat → Int32) (L : Nat → Int64) (A : Nat → Nat → Int32) (Q : Nat → Nat → Int64) (G : Nat → Nat → Nat → Int32) (J : Nat → Nat → Nat → Int64) (n i j : Nat) (hn5 : n ≤ 5) (hi4 : i < 4) (hj4 : j < 4) : Met l yX9_product wsX9_product ({ frames := 0, cells := 0, slots := 0, locals := 0 }) (va_Pc [.ref (h 1), .int (nI n), .int (nI i), .int (nI j)] (xPre (dC, dI) (wGrid h cs I L A Q G J) (tysA cs) sz)) (va_Qi (fun (r : Int32) (u : CS) => (r = prodF (G 0) i j n) ∧ u = (I, L, A, Q, G, J)) (xB (dC, dI) (tysA cs) (va_A (wGrid h cs I L A Q G J) sz) (fun u : CS => wGrid h cs u.1 u.2.1 u.2.2.1 u.2.2.2.1 u.2.2.2.2.1 u.2.2.2.2.2)) (va_A (wGrid h cs I L A Q G J) sz)) 0 0 (va_A (wGrid h cs I L A Q G J) sz) := by
  refine Met.ofW (cc := cX9_product) (maxL := 6) (ret := (some .int)) (by decide) rfl ?_
  intro p e s m args below meth c s₁ B hml hv
  obtain ⟨rfl, hsz, hP, hK, hD0, hN⟩ := hv
  have hx := B.exec
  have hb := B.bytes
  have hr := B.returns
  have hts := atoms_spec (ws := wsX9_product) B.pre
  have hown : s.vm.findClass RX9 = some m.cls := findClass_of_methodNamed B.named
  have hlocks := B.notSynchronized
  subst hsz
  have hD := hD0.self (sz := s.heap.size)
  generalize hAe : va_A (wGrid h cs I L A Q G J) s.heap.size = A0 at hD ⊢
  have hA : ∀ q : Nat, s.heap.size ≤ q → A0 q := fun q h => by rw [← hAe]; exact Or.inr h
  have hl := lv_entry ([.ref (h 1), .int (nI n), .int (nI i), .int (nI j)]) (n := 6) (Nat.le_of_ble_eq_true rfl)
  rw [lg_entry_eq]
  generalize (lg_sl ([.ref (h 1), .int (nI n), .int (nI i), .int (nI j)]) ++ List.replicate (6 - (lg_sl ([.ref (h 1), .int (nI n), .int (nI i), .int (nI j)])).length) Slot.unset).toArray = ls at hl ⊢
  have hl : lv_has ls 6 [(0, .ref (h 1)), (1, .int (nI n)), (2, .int (nI i)), (3, .int (nI j))] := hl
  generalize hH : s.heap = H at hP ⊢
  have hS : va_S A0 s.heap H [] := by rw [← hH]; exact va_S.rf
  refine lv_iconst (v := nI 0) hx hb dX9_product_0 (by decide) ?_
  refine lv_istore (lv' := [(4, .int (nI 0)), (0, .ref (h 1)), (1, .int (nI n)), (2, .int (nI i)), (3, .int (nI j))]) hx hb dX9_product_1 hl (by decide) rfl (fun ls hl => ?_)
  refine lv_iconst (v := nI 0) hx hb dX9_product_3 (by decide) ?_
  refine lv_istore (lv' := [(5, .int (nI 0)), (4, .int (nI 0)), (0, .ref (h 1)), (1, .int (nI n)), (2, .int (nI i)), (3, .int (nI j))]) hx hb dX9_product_4 hl (by decide) rfl (fun ls hl => ?_)
  have cut_6 : ∀ (nf : Nat) (k : Nat), (n - k) < nf → (k ≤ n) → ∀ (H : Heap) (locs : List Loc) (ls : Array Slot), va_P (dC, dI) vwCl (wGrid h cs I L A Q G J) H → va_D A0 (wGrid h cs I L A Q G J) → va_S A0 s.heap H locs → lv_has ls 6 [(0, .ref (h 1)), (1, .int (nI n)), (2, .int (nI i)), (3, .int (nI j)), (4, .int (prodF (G 0) i j k)), (5, .int (nI k))] → W p l e (headSpec wsX9_product ({ frames := 0, cells := 0, slots := 0, locals := 0 })).room s m ([.ref (h 1), .int (nI n), .int (nI i), .int (nI j)] : List Value).toArray below meth c H locs 0 0 (MQ below (va_Qi (fun (r : Int32) (u : CS) => (r = prodF (G 0) i j n) ∧ u = (I, L, A, Q, G, J)) (xB (dC, dI) (tysA cs) A0 (fun u : CS => wGrid h cs u.1 u.2.1 u.2.2.1 u.2.2.2.1 u.2.2.2.2.1 u.2.2.2.2.2)) A0) ([.ref (h 1), .int (nI n), .int (nI i), .int (nI j)] : List Value).toArray s 0 0 A0) (F0 m 6 ls []) := by
    intro nf
    induction nf with
    | zero => intro k hm; exact absurd hm (Nat.not_lt_zero _)
    | succ nf ih_6 =>
      intro k hm_6 hk_6 H locs ls hP hD hS hl
      refine lv_iload hx hb dX9_product_6 (lv_at hl 5 rfl) ?_
      refine lv_iload_n hx hb dX9_product_8 rfl (lv_at hl 1 rfl) ?_
      refine xn_ge (tgt := 36) hx hb dX9_product_9 (by decide) (by omega) (by omega) (fun c_9_0 => ?_) (fun c_9_0 => ?_)
      · skip
        refine lv_iload hx hb dX9_product_36 (lv_at hl 4 rfl) ?_
        exact xr_i (v := (prodF (G 0) i j k)) hx hb hr hlocks hK hS dX9_product_38 (I, L, A, Q, G, J) ⟨(by rw [show n = k by omega]), rfl⟩ hP hD
      · skip
        refine lv_iload hx hb dX9_product_12 (lv_at hl 4 rfl) ?_
        refine lv_aload_n hx hb dX9_product_14 rfl (lv_at hl 0 rfl) ?_
        refine lv_iload hx hb dX9_product_15 (lv_at hl 5 rfl) ?_
        refine xa_aald (b := h (k + 2)) hx hb hK hP 0 3 rfl rfl rfl (by omega) (by decide) (if_pos (by omega)) dX9_product_17 ?_
        refine lv_iload_n hx hb dX9_product_18 rfl (lv_at hl 2 rfl) ?_
        refine xa_iald hx hb hK hP (1 + k) 0 (wGrid_atG0 (by omega)) rfl (by omega) (by decide) dX9_product_19 ?_
        refine lv_aload_n hx hb dX9_product_20 rfl (lv_at hl 0 rfl) ?_
        refine lv_iload hx hb dX9_product_21 (lv_at hl 5 rfl) ?_
        refine xa_aald (b := h (k + 2)) hx hb hK hP 0 3 rfl rfl rfl (by omega) (by decide) (if_pos (by omega)) dX9_product_23 ?_
        refine lv_iload_n hx hb dX9_product_24 rfl (lv_at hl 3 rfl) ?_
        refine xa_iald hx hb hK hP (1 + k) 0 (wGrid_atG0 (by omega)) rfl (by omega) (by decide) dX9_product_25 ?_
        refine lv_imul hx hb dX9_product_26 ?_
        refine lv_iadd hx hb dX9_product_27 ?_
        refine lv_istore (lv' := [(4, .int ((prodF (G 0) i j k) + ((((G 0) k) i) * (((G 0) k) j)))), (0, .ref (h 1)), (1, .int (nI n)), (2, .int (nI i)), (3, .int (nI j)), (5, .int (nI k))]) hx hb dX9_product_28 hl (by decide) rfl (fun ls hl => ?_)
        refine lv_iinc (v := nI (k + 1)) (lv' := [(5, .int (nI (k + 1))), (4, .int ((prodF (G 0) i j k) + ((((G 0) k) i) * (((G 0) k) j)))), (0, .ref (h 1)), (1, .int (nI n)), (2, .int (nI i)), (3, .int (nI j))]) hx hb dX9_product_30 hl (k := 5) rfl (nI_1 _) (by decide) rfl (fun ls hl => ?_)
        refine lv_goto (tgt := 6) hx hb dX9_product_33 (by decide) ?_
        exact ih_6 (k + 1) (by omega) (by first | assumption | omega) _ _ _ hP hD hS (lv_sub hl [2, 3, 4, 5, 1, 0] rfl)
  exact cut_6 _ 0 (Nat.lt_succ_self _) (by first | assumption | omega) _ _ _ hP hD hS (lv_sub hl [2, 3, 4, 5, 1, 0] rfl)
set_option maxRecDepth 20000 in
theorem ggX9_gram_X3_hasColumn : GoodIn wsX9_gram wsX3_hasColumn := goodIn_r _ [8, 9, 23, 24, 25, 26, 27, 28] rfl (by decide +kernel)
set_option maxRecDepth 20000 in
theorem gX9_gram_X3_hasColumn : GoodIn wsX9_gram (wsV RX9 95 RX3 yX3_hasColumn wsX3_hasColumn) := goodIn_app (goodIn_of _ (by decide +kernel)) ggX9_gram_X3_hasColumn
set_option maxRecDepth 20000 in
theorem ggX9_gram_X9_product : GoodIn wsX9_gram wsX9_product := goodIn_r _ [13] rfl (by decide +kernel)
set_option maxRecDepth 20000 in
theorem gX9_gram_X9_product : GoodIn wsX9_gram (va_wsS RX9 174 yX9_product wsX9_product) := goodIn_app (goodIn_of _ (by decide +kernel)) ggX9_gram_X9_product
theorem bdX9_gram_0 : (decode cX9_gram 0 = .ok (.aload_n 0, 1)) ∧ (decode cX9_gram 1 = .ok (.getfield 12, 3)) ∧ (decode cX9_gram 4 = .ok (.iload_n 1, 1)) ∧ (decode cX9_gram 5 = .ok (.invokevirtual 95, 3)) ∧ (decode cX9_gram 8 = .ok (.ifCond .eq 14, 3)) ∧ (decode cX9_gram 11 = .ok (.aload_n 0, 1)) ∧ (decode cX9_gram 12 = .ok (.getfield 12, 3)) ∧ (decode cX9_gram 15 = .ok (.iload_n 2, 1)) ∧ (decode cX9_gram 16 = .ok (.invokevirtual 95, 3)) ∧ (decode cX9_gram 19 = .ok (.ifCond .ne 7, 3)) ∧ (decode cX9_gram 22 = .ok (.sipush (-10001), 3)) ∧ (decode cX9_gram 25 = .ok (.ireturn, 1)) ∧ (decode cX9_gram 26 = .ok (.aload_n 0, 1)) ∧ (decode cX9_gram 27 = .ok (.getfield 12, 3)) ∧ (decode cX9_gram 30 = .ok (.getfield 173, 3)) ∧ (decode cX9_gram 33 = .ok (.aload_n 0, 1)) := by decide +kernel
theorem dX9_gram_0 : decode cX9_gram 0 = .ok (.aload_n 0, 1) := bdX9_gram_0.1
theorem dX9_gram_1 : decode cX9_gram 1 = .ok (.getfield 12, 3) := bdX9_gram_0.2.1
theorem dX9_gram_4 : decode cX9_gram 4 = .ok (.iload_n 1, 1) := bdX9_gram_0.2.2.1
theorem dX9_gram_5 : decode cX9_gram 5 = .ok (.invokevirtual 95, 3) := bdX9_gram_0.2.2.2.1
theorem dX9_gram_8 : decode cX9_gram 8 = .ok (.ifCond .eq 14, 3) := bdX9_gram_0.2.2.2.2.1
theorem dX9_gram_11 : decode cX9_gram 11 = .ok (.aload_n 0, 1) := bdX9_gram_0.2.2.2.2.2.1
theorem dX9_gram_12 : decode cX9_gram 12 = .ok (.getfield 12, 3) := bdX9_gram_0.2.2.2.2.2.2.1
theorem dX9_gram_15 : decode cX9_gram 15 = .ok (.iload_n 2, 1) := bdX9_gram_0.2.2.2.2.2.2.2.1
theorem dX9_gram_16 : decode cX9_gram 16 = .ok (.invokevirtual 95, 3) := bdX9_gram_0.2.2.2.2.2.2.2.2.1
theorem dX9_gram_19 : decode cX9_gram 19 = .ok (.ifCond .ne 7, 3) := bdX9_gram_0.2.2.2.2.2.2.2.2.2.1
theorem dX9_gram_22 : decode cX9_gram 22 = .ok (.sipush (-10001), 3) := bdX9_gram_0.2.2.2.2.2.2.2.2.2.2.1
theorem dX9_gram_25 : decode cX9_gram 25 = .ok (.ireturn, 1) := bdX9_gram_0.2.2.2.2.2.2.2.2.2.2.2.1
theorem dX9_gram_26 : decode cX9_gram 26 = .ok (.aload_n 0, 1) := bdX9_gram_0.2.2.2.2.2.2.2.2.2.2.2.2.1
theorem dX9_gram_27 : decode cX9_gram 27 = .ok (.getfield 12, 3) := bdX9_gram_0.2.2.2.2.2.2.2.2.2.2.2.2.2.1
theorem dX9_gram_30 : decode cX9_gram 30 = .ok (.getfield 173, 3) := bdX9_gram_0.2.2.2.2.2.2.2.2.2.2.2.2.2.2.1
theorem dX9_gram_33 : decode cX9_gram 33 = .ok (.aload_n 0, 1) := bdX9_gram_0.2.2.2.2.2.2.2.2.2.2.2.2.2.2.2
theorem bdX9_gram_34 : (decode cX9_gram 34 = .ok (.getfield 12, 3)) ∧ (decode cX9_gram 37 = .ok (.getfield 147, 3)) ∧ (decode cX9_gram 40 = .ok (.iload_n 1, 1)) ∧ (decode cX9_gram 41 = .ok (.iload_n 2, 1)) ∧ (decode cX9_gram 42 = .ok (.invokestatic 174, 3)) ∧ (decode cX9_gram 45 = .ok (.ireturn, 1)) := by decide +kernel
theorem dX9_gram_34 : decode cX9_gram 34 = .ok (.getfield 12, 3) := bdX9_gram_34.1
theorem dX9_gram_37 : decode cX9_gram 37 = .ok (.getfield 147, 3) := bdX9_gram_34.2.1
theorem dX9_gram_40 : decode cX9_gram 40 = .ok (.iload_n 1, 1) := bdX9_gram_34.2.2.1
theorem dX9_gram_41 : decode cX9_gram 41 = .ok (.iload_n 2, 1) := bdX9_gram_34.2.2.2.1
theorem dX9_gram_42 : decode cX9_gram 42 = .ok (.invokestatic 174, 3) := bdX9_gram_34.2.2.2.2.1
theorem dX9_gram_45 : decode cX9_gram 45 = .ok (.ireturn, 1) := bdX9_gram_34.2.2.2.2.2
set_option maxHeartbeats 4000000 in
set_option maxRecDepth 100000 in
theorem k_X9_gram (l : Launch) (dC : Nat → ClassId) (dI : Nat → Nat → Nat) (h : Nat → Nat) (cs : Nat → ClassId) (sz : Nat) (I : Nat → Int32) (L : Nat → Int64) (A : Nat → Nat → Int32) (Q : Nat → Nat → Int64) (G : Nat → Nat → Nat → Int32) (J : Nat → Nat → Nat → Int64) (x y : Int32) (R M : Nat) (hR : I 120 = nI R) (hR1 : 1 ≤ R) (hR5 : R ≤ 5) (hM : I 121 = nI M) (hM1 : 1 ≤ M) (hM4 : M ≤ 4) : Met l yX9_gram wsX9_gram ({ frames := 1, cells := 0, slots := 0, locals := 25 }) (va_Pc [.ref (h 100), .int x, .int y] (xPre (dC, dI) (wF1 h cs I L A Q G J) (tysA cs) sz)) (va_Qi (fun (r : Int32) (u : CS) => ((∃ i j : Nat, i < M ∧ j < M ∧ x = nI i ∧ y = nI j ∧ r = prodF (G 0) i j R) ∨ (r = -10001 ∧ ∀ i j : Nat, i < M → j < M → x = nI i → y = nI j → False)) ∧ u = (I, L, A, Q, G, J)) (xB (dC, dI) (tysA cs) (va_A (wF1 h cs I L A Q G J) sz) (fun u : CS => wF1 h cs u.1 u.2.1 u.2.2.1 u.2.2.2.1 u.2.2.2.2.1 u.2.2.2.2.2)) (va_A (wF1 h cs I L A Q G J) sz)) 0 0 (va_A (wF1 h cs I L A Q G J) sz) := by
  refine Met.ofW (cc := cX9_gram) (maxL := 3) (ret := (some .int)) (by decide) rfl ?_
  intro p e s m args below meth c s₁ B hml hv
  obtain ⟨rfl, hsz, hP, hK, hD0, hN⟩ := hv
  have hx := B.exec
  have hb := B.bytes
  have hr := B.returns
  have hts := atoms_spec (ws := wsX9_gram) B.pre
  have hown : s.vm.findClass RX9 = some m.cls := findClass_of_methodNamed B.named
  have hlocks := B.notSynchronized
  subst hsz
  have hD := hD0.self (sz := s.heap.size)
  generalize hAe : va_A (wF1 h cs I L A Q G J) s.heap.size = A0 at hD ⊢
  have hA : ∀ q : Nat, s.heap.size ≤ q → A0 q := fun q h => by rw [← hAe]; exact Or.inr h
  have hl := lv_entry ([.ref (h 100), .int x, .int y]) (n := 3) (Nat.le_of_ble_eq_true rfl)
  rw [lg_entry_eq]
  generalize (lg_sl ([.ref (h 100), .int x, .int y]) ++ List.replicate (3 - (lg_sl ([.ref (h 100), .int x, .int y])).length) Slot.unset).toArray = ls at hl ⊢
  have hl : lv_has ls 3 [(0, .ref (h 100)), (1, .int x), (2, .int y)] := hl
  generalize hH : s.heap = H at hP ⊢
  have hS : va_S A0 s.heap H [] := by rw [← hH]; exact va_S.rf
  have hinX9 : ∀ w ∈ wsX90, w ∈ wsX9_gram := by decide +kernel
  have hinX3 : ∀ w ∈ wsX30, w ∈ wsX9_gram := by decide +kernel
  refine lv_aload_n hx hb dX9_gram_0 rfl (lv_at hl 0 rfl) ?_
  refine va_get (D := (dC, dI)) (ci := 9) (v := .ref (h 101)) (C := RX9) (T := TX9) (N := 9) hx hb hts hinX9 hown hK hP 0 rfl rfl 0 (by decide) (hts (.fieldLink RX9 12 "MixedWords" "mix" "LMixedWords$Mix;") (by decide +kernel)) (fun _ h9 => h9) rfl dX9_gram_1 ?_
  refine lv_iload_n hx hb dX9_gram_4 rfl (lv_at hl 1 rfl) ?_
  refine xj_i (wc := (wMix h cs I L A Q G J)) (wr := [(h 100, .inr (9, [.ref (h 101), .ref (h 102), .ref (h 103), .ref (h 104), .ref (h 105), .ref (h 106), .ref (h 107), .ref (h 108), .ref (h 109)])), (h 102, .inr (0, [.ref (h 101), .ref (h 140), .ref (h 141), .ref (h 142), .ref (h 143), .int (I 144), .int (I 145), .int (I 146)])), (h 140, .inl (cs 0, 40, .inl (A 140))), (h 141, .inl (cs 0, 40, .inl (A 141))), (h 142, .inl (cs 0, 40, .inl (A 142))), (h 143, .inl (cs 0, 40, .inl (A 143)))]) hP hD hS hA [6, 7, 8, 9, 10, 11, 12, 13] [0, 1, 2, 3, 4, 5] rfl rfl (by decide +kernel) (by decide +kernel) (va_runV (As := [.int x]) (rest := []) ⟨hx, hb, hml, hown, hts⟩ (k_X3_hasColumn l dC dI h cs H.size I L A Q G J x M hM (by first | assumption | omega | exact hM1) (by first | assumption | omega | exact hM4)) (cwV 1 hts gX9_gram_X3_hasColumn rfl rfl rfl (by decide +kernel) ⟨Nat.le_of_ble_eq_true rfl, Nat.le_of_ble_eq_true rfl⟩) (xpV (wc := (wMix h cs I L A Q G J)) hP hD hK hN [6, 7, 8, 9, 10, 11, 12, 13] rfl (by decide) 6 (ci := 3) rfl rfl _) rfl rfl hl.1 rfl (lv_room (Nat.le_of_ble_eq_true rfl)) dX9_gram_5 ⟨Nat.zero_le _, Nat.zero_le _⟩) (fun r_2 u_1 H locs hw hP hD hS => ?_)
  obtain ⟨hf_3, rfl⟩ := hw
  have hP : va_P (dC, dI) vwCl (wF1 h cs I L A Q G J) H := hP
  have hD : va_D A0 (wF1 h cs I L A Q G J) := hD
  rcases hf_3 with ⟨rfl, i_4, hi_5, hx_6⟩ | ⟨rfl, hn_7⟩
  · skip
    rw [hx_6] at hl
    refine xs_eqF (tgt := 22) hx hb dX9_gram_8 (by decide) (by decide) ?_
    refine lv_aload_n hx hb dX9_gram_11 rfl (lv_at hl 0 rfl) ?_
    refine va_get (D := (dC, dI)) (ci := 9) (v := .ref (h 101)) (C := RX9) (T := TX9) (N := 9) hx hb hts hinX9 hown hK hP 0 rfl rfl 0 (by decide) (hts (.fieldLink RX9 12 "MixedWords" "mix" "LMixedWords$Mix;") (by decide +kernel)) (fun _ h9 => h9) rfl dX9_gram_12 ?_
    refine lv_iload_n hx hb dX9_gram_15 rfl (lv_at hl 2 rfl) ?_
    refine xj_i (wc := (wMix h cs I L A Q G J)) (wr := [(h 100, .inr (9, [.ref (h 101), .ref (h 102), .ref (h 103), .ref (h 104), .ref (h 105), .ref (h 106), .ref (h 107), .ref (h 108), .ref (h 109)])), (h 102, .inr (0, [.ref (h 101), .ref (h 140), .ref (h 141), .ref (h 142), .ref (h 143), .int (I 144), .int (I 145), .int (I 146)])), (h 140, .inl (cs 0, 40, .inl (A 140))), (h 141, .inl (cs 0, 40, .inl (A 141))), (h 142, .inl (cs 0, 40, .inl (A 142))), (h 143, .inl (cs 0, 40, .inl (A 143)))]) hP hD hS hA [6, 7, 8, 9, 10, 11, 12, 13] [0, 1, 2, 3, 4, 5] rfl rfl (by decide +kernel) (by decide +kernel) (va_runV (As := [.int y]) (rest := []) ⟨hx, hb, hml, hown, hts⟩ (k_X3_hasColumn l dC dI h cs H.size I L A Q G J y M hM (by first | assumption | omega | exact hM1) (by first | assumption | omega | exact hM4)) (cwV 1 hts gX9_gram_X3_hasColumn rfl rfl rfl (by decide +kernel) ⟨Nat.le_of_ble_eq_true rfl, Nat.le_of_ble_eq_true rfl⟩) (xpV (wc := (wMix h cs I L A Q G J)) hP hD hK hN [6, 7, 8, 9, 10, 11, 12, 13] rfl (by decide) 6 (ci := 3) rfl rfl _) rfl rfl hl.1 rfl (lv_room (Nat.le_of_ble_eq_true rfl)) dX9_gram_16 ⟨Nat.zero_le _, Nat.zero_le _⟩) (fun r_10 u_9 H locs hw hP hD hS => ?_)
    obtain ⟨hf_11, rfl⟩ := hw
    have hP : va_P (dC, dI) vwCl (wF1 h cs I L A Q G J) H := hP
    have hD : va_D A0 (wF1 h cs I L A Q G J) := hD
    rcases hf_11 with ⟨rfl, i_12, hi_13, hx_14⟩ | ⟨rfl, hn_15⟩
    · skip
      rw [hx_14] at hl
      refine xs_neT (tgt := 26) hx hb dX9_gram_19 (by decide) (by decide) ?_
      refine lv_aload_n hx hb dX9_gram_26 rfl (lv_at hl 0 rfl) ?_
      refine va_get (D := (dC, dI)) (ci := 9) (v := .ref (h 101)) (C := RX9) (T := TX9) (N := 9) hx hb hts hinX9 hown hK hP 0 rfl rfl 0 (by decide) (hts (.fieldLink RX9 12 "MixedWords" "mix" "LMixedWords$Mix;") (by decide +kernel)) (fun _ h9 => h9) rfl dX9_gram_27 ?_
      refine va_get (D := (dC, dI)) (ci := 3) (v := .ref (h 130)) (C := RX3) (T := TX3) (N := 6) hx hb hts hinX3 hown hK hP 6 rfl rfl 4 (by decide) (hts (.fieldLink RX9 173 "MixedWords$Mix" "cells" "[[I") (by decide +kernel)) (fun _ h9 => h9) rfl dX9_gram_30 ?_
      refine lv_aload_n hx hb dX9_gram_33 rfl (lv_at hl 0 rfl) ?_
      refine va_get (D := (dC, dI)) (ci := 9) (v := .ref (h 101)) (C := RX9) (T := TX9) (N := 9) hx hb hts hinX9 hown hK hP 0 rfl rfl 0 (by decide) (hts (.fieldLink RX9 12 "MixedWords" "mix" "LMixedWords$Mix;") (by decide +kernel)) (fun _ h9 => h9) rfl dX9_gram_34 ?_
      refine va_get (D := (dC, dI)) (ci := 3) (v := .int (I 120)) (C := RX3) (T := TX3) (N := 6) hx hb hts hinX3 hown hK hP 6 rfl rfl 0 (by decide) (hts (.fieldLink RX9 147 "MixedWords$Mix" "height" "I") (by decide +kernel)) (fun _ h9 => h9) rfl dX9_gram_37 ?_
      refine xt_i (y := nI R) (hR) ?_
      refine lv_iload_n hx hb dX9_gram_40 rfl (lv_at hl 1 rfl) ?_
      refine lv_iload_n hx hb dX9_gram_41 rfl (lv_at hl 2 rfl) ?_
      refine xj_i (wc := (wGrid (fun k => h (k + 129)) cs I L A Q (fun _ => G 0) J)) (wr := [(h 100, .inr (9, [.ref (h 101), .ref (h 102), .ref (h 103), .ref (h 104), .ref (h 105), .ref (h 106), .ref (h 107), .ref (h 108), .ref (h 109)])), (h 102, .inr (0, [.ref (h 101), .ref (h 140), .ref (h 141), .ref (h 142), .ref (h 143), .int (I 144), .int (I 145), .int (I 146)])), (h 140, .inl (cs 0, 40, .inl (A 140))), (h 141, .inl (cs 0, 40, .inl (A 141))), (h 142, .inl (cs 0, 40, .inl (A 142))), (h 143, .inl (cs 0, 40, .inl (A 143))), (h 101, .inr (3, [.int (I 120), .int (I 121), .int (I 122), .int (I 123), .ref (h 130), .ref (h 136)])), (h 136, .inl (cs 0, 5, .inl (A 136)))]) hP hD hS hA [7, 8, 9, 10, 11, 12] [0, 1, 2, 3, 4, 5, 6, 13] rfl rfl (by decide +kernel) (by decide +kernel) (va_runS (As := [.ref (h 130), .int (nI R), .int (nI i_4), .int (nI i_12)]) (rest := []) ⟨hx, hb, hml, hown, hts⟩ (k_X9_product l dC dI (fun k => h (k + 129)) cs H.size I L A Q (fun _ => G 0) J R i_4 i_12 (by first | assumption | omega) (by first | assumption | omega) (by first | assumption | omega)) (va_cwS 4 hts gX9_gram_X9_product rfl rfl rfl (by decide +kernel) ⟨Nat.le_of_ble_eq_true rfl, Nat.le_of_ble_eq_true rfl⟩) (xpS (wc := (wGrid (fun k => h (k + 129)) cs I L A Q (fun _ => G 0) J)) hP hD hK hN [7, 8, 9, 10, 11, 12] rfl (by decide) _) rfl rfl hl.1 rfl (lv_room (Nat.le_of_ble_eq_true rfl)) dX9_gram_42 ⟨Nat.zero_le _, Nat.zero_le _⟩) (fun r_18 u_17 H locs hw hP hD hS => ?_)
      obtain ⟨hf_19, rfl⟩ := hw
      have hP : va_P (dC, dI) vwCl (wF1 h cs I L A Q G J) H := xP_sub hP [0, 1, 2, 3, 4, 5, 6, 8, 9, 10, 11, 12, 13, 7] rfl
      have hD : va_D A0 (wF1 h cs I L A Q G J) := hD.sub [0, 1, 2, 3, 4, 5, 6, 8, 9, 10, 11, 12, 13, 7] (by decide +kernel) rfl
      obtain rfl := hf_19
      exact xr_i (v := (prodF (G 0) i_4 i_12 R)) hx hb hr hlocks hK hS dX9_gram_45 (I, L, A, Q, G, J) ⟨(Or.inl ⟨i_4, i_12, hi_5, hi_13, hx_6, hx_14, rfl⟩), rfl⟩ hP hD
    · skip
      refine xs_neF (tgt := 26) hx hb dX9_gram_19 (by decide) (by decide) ?_
      refine lv_sipush (v := (-10001)) hx hb dX9_gram_22 (by decide) ?_
      exact xr_i (v := (-10001)) hx hb hr hlocks hK hS dX9_gram_25 (I, L, A, Q, G, J) ⟨(Or.inr ⟨rfl, fun i j a9 b9 c9 d9 => hn_15 j b9 d9⟩), rfl⟩ hP hD
  · skip
    refine xs_eqT (tgt := 22) hx hb dX9_gram_8 (by decide) (by decide) ?_
    refine lv_sipush (v := (-10001)) hx hb dX9_gram_22 (by decide) ?_
    exact xr_i (v := (-10001)) hx hb hr hlocks hK hS dX9_gram_25 (I, L, A, Q, G, J) ⟨(Or.inr ⟨rfl, fun i j a9 b9 c9 d9 => hn_7 i a9 c9⟩), rfl⟩ hP hD
