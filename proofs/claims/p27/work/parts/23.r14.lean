
def nwF (up low : Int32) : Int32 := if 0 ≤ up then (nI 2 * up + low - nI 1) / (nI 2 * low) else -((nI 2 * -up + low - nI 1) / (nI 2 * low))
theorem bdX10_nearestWhole_0 : (decode cX10_nearestWhole 0 = .ok (.iload_n 0, 1)) ∧ (decode cX10_nearestWhole 1 = .ok (.ifCond .ge 8, 3)) ∧ (decode cX10_nearestWhole 4 = .ok (.iload_n 0, 1)) ∧ (decode cX10_nearestWhole 5 = .ok (.ineg, 1)) ∧ (decode cX10_nearestWhole 6 = .ok (.goto 4, 3)) ∧ (decode cX10_nearestWhole 9 = .ok (.iload_n 0, 1)) ∧ (decode cX10_nearestWhole 10 = .ok (.istore_n 2, 1)) ∧ (decode cX10_nearestWhole 11 = .ok (.iconst 2, 1)) ∧ (decode cX10_nearestWhole 12 = .ok (.iload_n 2, 1)) ∧ (decode cX10_nearestWhole 13 = .ok (.imul, 1)) ∧ (decode cX10_nearestWhole 14 = .ok (.iload_n 1, 1)) ∧ (decode cX10_nearestWhole 15 = .ok (.iadd, 1)) ∧ (decode cX10_nearestWhole 16 = .ok (.iconst 1, 1)) ∧ (decode cX10_nearestWhole 17 = .ok (.isub, 1)) ∧ (decode cX10_nearestWhole 18 = .ok (.iconst 2, 1)) ∧ (decode cX10_nearestWhole 19 = .ok (.iload_n 1, 1)) := by decide +kernel
theorem dX10_nearestWhole_0 : decode cX10_nearestWhole 0 = .ok (.iload_n 0, 1) := bdX10_nearestWhole_0.1
theorem dX10_nearestWhole_1 : decode cX10_nearestWhole 1 = .ok (.ifCond .ge 8, 3) := bdX10_nearestWhole_0.2.1
theorem dX10_nearestWhole_4 : decode cX10_nearestWhole 4 = .ok (.iload_n 0, 1) := bdX10_nearestWhole_0.2.2.1
theorem dX10_nearestWhole_5 : decode cX10_nearestWhole 5 = .ok (.ineg, 1) := bdX10_nearestWhole_0.2.2.2.1
theorem dX10_nearestWhole_6 : decode cX10_nearestWhole 6 = .ok (.goto 4, 3) := bdX10_nearestWhole_0.2.2.2.2.1
theorem dX10_nearestWhole_9 : decode cX10_nearestWhole 9 = .ok (.iload_n 0, 1) := bdX10_nearestWhole_0.2.2.2.2.2.1
theorem dX10_nearestWhole_10 : decode cX10_nearestWhole 10 = .ok (.istore_n 2, 1) := bdX10_nearestWhole_0.2.2.2.2.2.2.1
theorem dX10_nearestWhole_11 : decode cX10_nearestWhole 11 = .ok (.iconst 2, 1) := bdX10_nearestWhole_0.2.2.2.2.2.2.2.1
theorem dX10_nearestWhole_12 : decode cX10_nearestWhole 12 = .ok (.iload_n 2, 1) := bdX10_nearestWhole_0.2.2.2.2.2.2.2.2.1
theorem dX10_nearestWhole_13 : decode cX10_nearestWhole 13 = .ok (.imul, 1) := bdX10_nearestWhole_0.2.2.2.2.2.2.2.2.2.1
theorem dX10_nearestWhole_14 : decode cX10_nearestWhole 14 = .ok (.iload_n 1, 1) := bdX10_nearestWhole_0.2.2.2.2.2.2.2.2.2.2.1
theorem dX10_nearestWhole_15 : decode cX10_nearestWhole 15 = .ok (.iadd, 1) := bdX10_nearestWhole_0.2.2.2.2.2.2.2.2.2.2.2.1
theorem dX10_nearestWhole_16 : decode cX10_nearestWhole 16 = .ok (.iconst 1, 1) := bdX10_nearestWhole_0.2.2.2.2.2.2.2.2.2.2.2.2.1
theorem dX10_nearestWhole_17 : decode cX10_nearestWhole 17 = .ok (.isub, 1) := bdX10_nearestWhole_0.2.2.2.2.2.2.2.2.2.2.2.2.2.1
theorem dX10_nearestWhole_18 : decode cX10_nearestWhole 18 = .ok (.iconst 2, 1) := bdX10_nearestWhole_0.2.2.2.2.2.2.2.2.2.2.2.2.2.2.1
theorem dX10_nearestWhole_19 : decode cX10_nearestWhole 19 = .ok (.iload_n 1, 1) := bdX10_nearestWhole_0.2.2.2.2.2.2.2.2.2.2.2.2.2.2.2
theorem bdX10_nearestWhole_20 : (decode cX10_nearestWhole 20 = .ok (.imul, 1)) ∧ (decode cX10_nearestWhole 21 = .ok (.idiv, 1)) ∧ (decode cX10_nearestWhole 22 = .ok (.istore_n 3, 1)) ∧ (decode cX10_nearestWhole 23 = .ok (.iload_n 0, 1)) ∧ (decode cX10_nearestWhole 24 = .ok (.ifCond .ge 8, 3)) ∧ (decode cX10_nearestWhole 27 = .ok (.iload_n 3, 1)) ∧ (decode cX10_nearestWhole 28 = .ok (.ineg, 1)) ∧ (decode cX10_nearestWhole 29 = .ok (.goto 4, 3)) ∧ (decode cX10_nearestWhole 32 = .ok (.iload_n 3, 1)) ∧ (decode cX10_nearestWhole 33 = .ok (.ireturn, 1)) := by decide +kernel
theorem dX10_nearestWhole_20 : decode cX10_nearestWhole 20 = .ok (.imul, 1) := bdX10_nearestWhole_20.1
theorem dX10_nearestWhole_21 : decode cX10_nearestWhole 21 = .ok (.idiv, 1) := bdX10_nearestWhole_20.2.1
theorem dX10_nearestWhole_22 : decode cX10_nearestWhole 22 = .ok (.istore_n 3, 1) := bdX10_nearestWhole_20.2.2.1
theorem dX10_nearestWhole_23 : decode cX10_nearestWhole 23 = .ok (.iload_n 0, 1) := bdX10_nearestWhole_20.2.2.2.1
theorem dX10_nearestWhole_24 : decode cX10_nearestWhole 24 = .ok (.ifCond .ge 8, 3) := bdX10_nearestWhole_20.2.2.2.2.1
theorem dX10_nearestWhole_27 : decode cX10_nearestWhole 27 = .ok (.iload_n 3, 1) := bdX10_nearestWhole_20.2.2.2.2.2.1
theorem dX10_nearestWhole_28 : decode cX10_nearestWhole 28 = .ok (.ineg, 1) := bdX10_nearestWhole_20.2.2.2.2.2.2.1
theorem dX10_nearestWhole_29 : decode cX10_nearestWhole 29 = .ok (.goto 4, 3) := bdX10_nearestWhole_20.2.2.2.2.2.2.2.1
theorem dX10_nearestWhole_32 : decode cX10_nearestWhole 32 = .ok (.iload_n 3, 1) := bdX10_nearestWhole_20.2.2.2.2.2.2.2.2.1
theorem dX10_nearestWhole_33 : decode cX10_nearestWhole 33 = .ok (.ireturn, 1) := bdX10_nearestWhole_20.2.2.2.2.2.2.2.2.2
set_option maxHeartbeats 4000000 in
set_option maxRecDepth 100000 in
theorem k_X10_nearestWhole (l : Launch) (dC : Nat → ClassId) (dI : Nat → Nat → Nat) (h : Nat → Nat) (cs : Nat → ClassId) (sz : Nat) (I : Nat → Int32) (L : Nat → Int64) (A : Nat → Nat → Int32) (Q : Nat → Nat → Int64) (up low : Int32) (hne : ¬ nI 2 * low = 0) : Met l yX10_nearestWhole wsX10_nearestWhole ({ frames := 0, cells := 0, slots := 0, locals := 0 }) (va_Pc [.int up, .int low] (xPre (dC, dI) ([] : va_W) (tysA cs) sz)) (va_Qi (fun (r : Int32) (u : RS) => (r = nwF up low) ∧ u = (I, L, A, Q)) (xB (dC, dI) (tysA cs) (va_A ([] : va_W) sz) (fun _ : RS => ([] : va_W))) (va_A ([] : va_W) sz)) 0 0 (va_A ([] : va_W) sz) := by
  refine Met.ofW (cc := cX10_nearestWhole) (maxL := 4) (ret := (some .int)) (by decide) rfl ?_
  intro p e s m args below meth c s₁ B hml hv
  obtain ⟨rfl, hsz, hP, hK, hD0, hN⟩ := hv
  have hx := B.exec
  have hb := B.bytes
  have hr := B.returns
  have hts := atoms_spec (ws := wsX10_nearestWhole) B.pre
  have hown : s.vm.findClass RX10 = some m.cls := findClass_of_methodNamed B.named
  have hlocks := B.notSynchronized
  subst hsz
  have hD := hD0.self (sz := s.heap.size)
  generalize hAe : va_A ([] : va_W) s.heap.size = A0 at hD ⊢
  have hA : ∀ q : Nat, s.heap.size ≤ q → A0 q := fun q h => by rw [← hAe]; exact Or.inr h
  have hl := lv_entry ([.int up, .int low]) (n := 4) (Nat.le_of_ble_eq_true rfl)
  rw [lg_entry_eq]
  generalize (lg_sl ([.int up, .int low]) ++ List.replicate (4 - (lg_sl ([.int up, .int low])).length) Slot.unset).toArray = ls at hl ⊢
  have hl : lv_has ls 4 [(0, .int up), (1, .int low)] := hl
  generalize hH : s.heap = H at hP ⊢
  have hS : va_S A0 s.heap H [] := by rw [← hH]; exact va_S.rf
  refine lv_iload_n hx hb dX10_nearestWhole_0 rfl (lv_at hl 0 rfl) ?_
  refine lv_if_ge (tgt := 9) hx hb dX10_nearestWhole_1 (by decide) (fun c_1_0 => ?_) (fun c_1_0 => ?_)
  · skip
    refine lv_iload_n hx hb dX10_nearestWhole_9 rfl (lv_at hl 0 rfl) ?_
    refine lv_istore_n (lv' := [(2, .int up), (0, .int up), (1, .int low)]) hx hb dX10_nearestWhole_10 rfl hl (by decide) rfl (fun ls hl => ?_)
    refine lv_iconst (v := nI 2) hx hb dX10_nearestWhole_11 (by decide) ?_
    refine lv_iload_n hx hb dX10_nearestWhole_12 rfl (lv_at hl 0 rfl) ?_
    refine lv_imul hx hb dX10_nearestWhole_13 ?_
    refine lv_iload_n hx hb dX10_nearestWhole_14 rfl (lv_at hl 2 rfl) ?_
    refine lv_iadd hx hb dX10_nearestWhole_15 ?_
    refine lv_iconst (v := nI 1) hx hb dX10_nearestWhole_16 (by decide) ?_
    refine lv_isub hx hb dX10_nearestWhole_17 ?_
    refine lv_iconst (v := nI 2) hx hb dX10_nearestWhole_18 (by decide) ?_
    refine lv_iload_n hx hb dX10_nearestWhole_19 rfl (lv_at hl 2 rfl) ?_
    refine lv_imul hx hb dX10_nearestWhole_20 ?_
    refine lv_idiv hx hb dX10_nearestWhole_21 (hne) ?_
    refine lv_istore_n (lv' := [(3, .int (((((nI 2) * up) + low) - (nI 1)) / ((nI 2) * low))), (2, .int up), (0, .int up), (1, .int low)]) hx hb dX10_nearestWhole_22 rfl hl (by decide) rfl (fun ls hl => ?_)
    refine lv_iload_n hx hb dX10_nearestWhole_23 rfl (lv_at hl 2 rfl) ?_
    refine lv_if_ge (tgt := 32) hx hb dX10_nearestWhole_24 (by decide) (fun c_24_1 => ?_) (fun c_24_1 => ?_)
    · skip
      refine lv_iload_n hx hb dX10_nearestWhole_32 rfl (lv_at hl 0 rfl) ?_
      exact xr_i (v := (((((nI 2) * up) + low) - (nI 1)) / ((nI 2) * low))) hx hb hr hlocks hK hS dX10_nearestWhole_33 (I, L, A, Q) ⟨(by unfold nwF; first | contradiction | rw [if_pos (by assumption)] | rw [if_neg (by assumption)]), rfl⟩ hP hD
    · skip
      refine lv_iload_n hx hb dX10_nearestWhole_27 rfl (lv_at hl 0 rfl) ?_
      refine lv_ineg hx hb dX10_nearestWhole_28 ?_
      refine lv_goto (tgt := 33) hx hb dX10_nearestWhole_29 (by decide) ?_
      exact xr_i (v := (-(((((nI 2) * up) + low) - (nI 1)) / ((nI 2) * low)))) hx hb hr hlocks hK hS dX10_nearestWhole_33 (I, L, A, Q) ⟨(by unfold nwF; first | contradiction | rw [if_pos (by assumption)] | rw [if_neg (by assumption)]), rfl⟩ hP hD
  · skip
    refine lv_iload_n hx hb dX10_nearestWhole_4 rfl (lv_at hl 0 rfl) ?_
    refine lv_ineg hx hb dX10_nearestWhole_5 ?_
    refine lv_goto (tgt := 10) hx hb dX10_nearestWhole_6 (by decide) ?_
    refine lv_istore_n (lv' := [(2, .int (-up)), (0, .int up), (1, .int low)]) hx hb dX10_nearestWhole_10 rfl hl (by decide) rfl (fun ls hl => ?_)
    refine lv_iconst (v := nI 2) hx hb dX10_nearestWhole_11 (by decide) ?_
    refine lv_iload_n hx hb dX10_nearestWhole_12 rfl (lv_at hl 0 rfl) ?_
    refine lv_imul hx hb dX10_nearestWhole_13 ?_
    refine lv_iload_n hx hb dX10_nearestWhole_14 rfl (lv_at hl 2 rfl) ?_
    refine lv_iadd hx hb dX10_nearestWhole_15 ?_
    refine lv_iconst (v := nI 1) hx hb dX10_nearestWhole_16 (by decide) ?_
    refine lv_isub hx hb dX10_nearestWhole_17 ?_
    refine lv_iconst (v := nI 2) hx hb dX10_nearestWhole_18 (by decide) ?_
    refine lv_iload_n hx hb dX10_nearestWhole_19 rfl (lv_at hl 2 rfl) ?_
    refine lv_imul hx hb dX10_nearestWhole_20 ?_
    refine lv_idiv hx hb dX10_nearestWhole_21 (hne) ?_
    refine lv_istore_n (lv' := [(3, .int (((((nI 2) * (-up)) + low) - (nI 1)) / ((nI 2) * low))), (2, .int (-up)), (0, .int up), (1, .int low)]) hx hb dX10_nearestWhole_22 rfl hl (by decide) rfl (fun ls hl => ?_)
    refine lv_iload_n hx hb dX10_nearestWhole_23 rfl (lv_at hl 2 rfl) ?_
    refine lv_if_ge (tgt := 32) hx hb dX10_nearestWhole_24 (by decide) (fun c_24_2 => ?_) (fun c_24_2 => ?_)
    · skip
      refine lv_iload_n hx hb dX10_nearestWhole_32 rfl (lv_at hl 0 rfl) ?_
      exact xr_i (v := (((((nI 2) * (-up)) + low) - (nI 1)) / ((nI 2) * low))) hx hb hr hlocks hK hS dX10_nearestWhole_33 (I, L, A, Q) ⟨(by unfold nwF; first | contradiction | rw [if_pos (by assumption)] | rw [if_neg (by assumption)]), rfl⟩ hP hD
    · skip
      refine lv_iload_n hx hb dX10_nearestWhole_27 rfl (lv_at hl 0 rfl) ?_
      refine lv_ineg hx hb dX10_nearestWhole_28 ?_
      refine lv_goto (tgt := 33) hx hb dX10_nearestWhole_29 (by decide) ?_
      exact xr_i (v := (-(((((nI 2) * (-up)) + low) - (nI 1)) / ((nI 2) * low)))) hx hb hr hlocks hK hS dX10_nearestWhole_33 (I, L, A, Q) ⟨(by unfold nwF; first | contradiction | rw [if_pos (by assumption)] | rw [if_neg (by assumption)]), rfl⟩ hP hD
