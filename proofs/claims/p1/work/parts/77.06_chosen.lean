theorem dX9_mirror_0 : decode cX9_mirror 0 = .ok (.iconst 0, 1) := by decide +kernel
theorem dX9_mirror_1 : decode cX9_mirror 1 = .ok (.istore_n 2, 1) := by decide +kernel
theorem dX9_mirror_2 : decode cX9_mirror 2 = .ok (.iconst 0, 1) := by decide +kernel
theorem dX9_mirror_3 : decode cX9_mirror 3 = .ok (.istore_n 3, 1) := by decide +kernel
theorem dX9_mirror_4 : decode cX9_mirror 4 = .ok (.iload_n 3, 1) := by decide +kernel
theorem dX9_mirror_5 : decode cX9_mirror 5 = .ok (.iload_n 1, 1) := by decide +kernel
theorem dX9_mirror_6 : decode cX9_mirror 6 = .ok (.if_icmp .ge 19, 3) := by decide +kernel
theorem dX9_mirror_9 : decode cX9_mirror 9 = .ok (.iload_n 2, 1) := by decide +kernel
theorem dX9_mirror_10 : decode cX9_mirror 10 = .ok (.iconst 1, 1) := by decide +kernel
theorem dX9_mirror_11 : decode cX9_mirror 11 = .ok (.ishl, 1) := by decide +kernel
theorem dX9_mirror_12 : decode cX9_mirror 12 = .ok (.iload_n 0, 1) := by decide +kernel
theorem dX9_mirror_13 : decode cX9_mirror 13 = .ok (.iload_n 3, 1) := by decide +kernel
theorem dX9_mirror_14 : decode cX9_mirror 14 = .ok (.ishr, 1) := by decide +kernel
theorem dX9_mirror_15 : decode cX9_mirror 15 = .ok (.iconst 1, 1) := by decide +kernel
theorem dX9_mirror_16 : decode cX9_mirror 16 = .ok (.iand, 1) := by decide +kernel
theorem dX9_mirror_17 : decode cX9_mirror 17 = .ok (.ior, 1) := by decide +kernel
theorem dX9_mirror_18 : decode cX9_mirror 18 = .ok (.istore_n 2, 1) := by decide +kernel
theorem dX9_mirror_19 : decode cX9_mirror 19 = .ok (.iinc 3 1, 3) := by decide +kernel
theorem dX9_mirror_22 : decode cX9_mirror 22 = .ok (.goto (-18), 3) := by decide +kernel
theorem dX9_mirror_25 : decode cX9_mirror 25 = .ok (.iload_n 2, 1) := by decide +kernel
theorem dX9_mirror_26 : decode cX9_mirror 26 = .ok (.ireturn, 1) := by decide +kernel
set_option maxHeartbeats 4000000 in
set_option maxRecDepth 100000 in
theorem a_X9_mirror_126 (l : Launch) (dC : Nat → ClassId) (dI : Nat → Nat → Nat) (h : Nat → Nat) (cs : Nat → ClassId) (sz : Nat) (I : Nat → Int32) (L : Nat → Int64) (A : Nat → Nat → Int32) (Q : Nat → Nat → Int64) (G : Nat → Nat → Nat → Int32) (J : Nat → Nat → Nat → Int64) : Met l yX9_mirror wsX9_mirror ({ frames := 0, cells := 0, slots := 0, locals := 0 }) (va_Pc [.int (nI 3), .int (nI 2)] (xPre (dC, dI) ([] : va_W) (tysA cs) sz)) (va_Qi (fun (r : Int32) (u : CS) => (r = nI 3) ∧ u = (I, L, A, Q, G, J)) (xB (dC, dI) (tysA cs) (va_A ([] : va_W) sz) (fun _ : CS => ([] : va_W))) (va_A ([] : va_W) sz)) 0 0 (va_A ([] : va_W) sz) := by
  refine Met.ofW (cc := cX9_mirror) (maxL := 4) (ret := (some .int)) (by decide) rfl ?_
  intro p e s m args below meth c s₁ B hml hv
  obtain ⟨rfl, hsz, hP, hK, hD0, hN⟩ := hv
  have hx := B.exec
  have hb := B.bytes
  have hr := B.returns
  have hts := atoms_spec (ws := wsX9_mirror) B.pre
  have hown : s.vm.findClass RX9 = some m.cls := findClass_of_methodNamed B.named
  have hlocks := B.notSynchronized
  subst hsz
  have hD := hD0.self (sz := s.heap.size)
  generalize hAe : va_A ([] : va_W) s.heap.size = A0 at hD ⊢
  have hA : ∀ q : Nat, s.heap.size ≤ q → A0 q := fun q h => by rw [← hAe]; exact Or.inr h
  have hl := lv_entry ([.int (nI 3), .int (nI 2)]) (n := 4) (Nat.le_of_ble_eq_true rfl)
  rw [lg_entry_eq]
  generalize (lg_sl ([.int (nI 3), .int (nI 2)]) ++ List.replicate (4 - (lg_sl ([.int (nI 3), .int (nI 2)])).length) Slot.unset).toArray = ls at hl ⊢
  have hl : lv_has ls 4 [(0, .int (nI 3)), (1, .int (nI 2))] := hl
  generalize hH : s.heap = H at hP ⊢
  have hS : va_S A0 s.heap H [] := by rw [← hH]; exact va_S.rf
  refine lv_iconst (v := nI 0) hx hb dX9_mirror_0 (by decide) ?_
  refine lv_istore_n (lv' := [(2, .int (nI 0)), (0, .int (nI 3)), (1, .int (nI 2))]) hx hb dX9_mirror_1 rfl hl (by decide) rfl (fun ls hl => ?_)
  refine lv_iconst (v := nI 0) hx hb dX9_mirror_2 (by decide) ?_
  refine lv_istore_n (lv' := [(3, .int (nI 0)), (2, .int (nI 0)), (0, .int (nI 3)), (1, .int (nI 2))]) hx hb dX9_mirror_3 rfl hl (by decide) rfl (fun ls hl => ?_)
  refine lv_iload_n hx hb dX9_mirror_4 rfl (lv_at hl 0 rfl) ?_
  refine lv_iload_n hx hb dX9_mirror_5 rfl (lv_at hl 3 rfl) ?_
  refine lv_icmp_ge (tgt := 25) hx hb dX9_mirror_6 (by decide) (fun c9 => False.elim (by revert c9; decide +kernel)) (fun _ => ?_)
  refine lv_iload_n hx hb dX9_mirror_9 rfl (lv_at hl 1 rfl) ?_
  refine lv_iconst (v := nI 1) hx hb dX9_mirror_10 (by decide) ?_
  refine lv_ishl hx hb dX9_mirror_11 ?_
  refine xt_i (y := nI 0) (by decide +kernel) ?_
  refine lv_iload_n hx hb dX9_mirror_12 rfl (lv_at hl 2 rfl) ?_
  refine lv_iload_n hx hb dX9_mirror_13 rfl (lv_at hl 0 rfl) ?_
  refine lv_ishr hx hb dX9_mirror_14 ?_
  refine xt_i (y := nI 3) (by decide +kernel) ?_
  refine lv_iconst (v := nI 1) hx hb dX9_mirror_15 (by decide) ?_
  refine lv_iand hx hb dX9_mirror_16 ?_
  refine xt_i (y := nI 1) (by decide +kernel) ?_
  refine lv_ior hx hb dX9_mirror_17 ?_
  refine xt_i (y := nI 1) (by decide +kernel) ?_
  refine lv_istore_n (lv' := [(2, .int (nI 1)), (3, .int (nI 0)), (0, .int (nI 3)), (1, .int (nI 2))]) hx hb dX9_mirror_18 rfl hl (by decide) rfl (fun ls hl => ?_)
  refine lv_iinc (v := nI 1) (lv' := [(3, .int (nI 1)), (2, .int (nI 1)), (0, .int (nI 3)), (1, .int (nI 2))]) hx hb dX9_mirror_19 hl (k := 1) rfl (by decide +kernel) (by decide) rfl (fun ls hl => ?_)
  refine lv_goto (tgt := 4) hx hb dX9_mirror_22 (by decide) ?_
  refine lv_iload_n hx hb dX9_mirror_4 rfl (lv_at hl 0 rfl) ?_
  refine lv_iload_n hx hb dX9_mirror_5 rfl (lv_at hl 3 rfl) ?_
  refine lv_icmp_ge (tgt := 25) hx hb dX9_mirror_6 (by decide) (fun c9 => False.elim (by revert c9; decide +kernel)) (fun _ => ?_)
  refine lv_iload_n hx hb dX9_mirror_9 rfl (lv_at hl 1 rfl) ?_
  refine lv_iconst (v := nI 1) hx hb dX9_mirror_10 (by decide) ?_
  refine lv_ishl hx hb dX9_mirror_11 ?_
  refine xt_i (y := nI 2) (by decide +kernel) ?_
  refine lv_iload_n hx hb dX9_mirror_12 rfl (lv_at hl 2 rfl) ?_
  refine lv_iload_n hx hb dX9_mirror_13 rfl (lv_at hl 0 rfl) ?_
  refine lv_ishr hx hb dX9_mirror_14 ?_
  refine xt_i (y := nI 1) (by decide +kernel) ?_
  refine lv_iconst (v := nI 1) hx hb dX9_mirror_15 (by decide) ?_
  refine lv_iand hx hb dX9_mirror_16 ?_
  refine xt_i (y := nI 1) (by decide +kernel) ?_
  refine lv_ior hx hb dX9_mirror_17 ?_
  refine xt_i (y := nI 3) (by decide +kernel) ?_
  refine lv_istore_n (lv' := [(2, .int (nI 3)), (3, .int (nI 1)), (0, .int (nI 3)), (1, .int (nI 2))]) hx hb dX9_mirror_18 rfl hl (by decide) rfl (fun ls hl => ?_)
  refine lv_iinc (v := nI 2) (lv' := [(3, .int (nI 2)), (2, .int (nI 3)), (0, .int (nI 3)), (1, .int (nI 2))]) hx hb dX9_mirror_19 hl (k := 1) rfl (by decide +kernel) (by decide) rfl (fun ls hl => ?_)
  refine lv_goto (tgt := 4) hx hb dX9_mirror_22 (by decide) ?_
  refine lv_iload_n hx hb dX9_mirror_4 rfl (lv_at hl 0 rfl) ?_
  refine lv_iload_n hx hb dX9_mirror_5 rfl (lv_at hl 3 rfl) ?_
  refine lv_icmp_ge (tgt := 25) hx hb dX9_mirror_6 (by decide) (fun _ => ?_) (fun c9 => False.elim (by revert c9; decide +kernel))
  refine lv_iload_n hx hb dX9_mirror_25 rfl (lv_at hl 1 rfl) ?_
  exact xr_i (v := (nI 3)) hx hb hr hlocks hK hS dX9_mirror_26 (I, L, A, Q, G, J) ⟨rfl, rfl⟩ hP hD
theorem dJ6_bitCount_0f7a4_0 : decode cJ6_bitCount_0f7a4 0 = .ok (.iload_n 0, 1) := by decide +kernel
theorem dJ6_bitCount_0f7a4_1 : decode cJ6_bitCount_0f7a4 1 = .ok (.iload_n 0, 1) := by decide +kernel
theorem dJ6_bitCount_0f7a4_2 : decode cJ6_bitCount_0f7a4 2 = .ok (.iconst 1, 1) := by decide +kernel
theorem dJ6_bitCount_0f7a4_3 : decode cJ6_bitCount_0f7a4 3 = .ok (.iushr, 1) := by decide +kernel
theorem dJ6_bitCount_0f7a4_4 : decode cJ6_bitCount_0f7a4 4 = .ok (.ldc_w 265, 3) := by decide +kernel
theorem dJ6_bitCount_0f7a4_7 : decode cJ6_bitCount_0f7a4 7 = .ok (.iand, 1) := by decide +kernel
theorem dJ6_bitCount_0f7a4_8 : decode cJ6_bitCount_0f7a4 8 = .ok (.isub, 1) := by decide +kernel
theorem dJ6_bitCount_0f7a4_9 : decode cJ6_bitCount_0f7a4 9 = .ok (.istore_n 0, 1) := by decide +kernel
theorem dJ6_bitCount_0f7a4_10 : decode cJ6_bitCount_0f7a4 10 = .ok (.iload_n 0, 1) := by decide +kernel
theorem dJ6_bitCount_0f7a4_11 : decode cJ6_bitCount_0f7a4 11 = .ok (.ldc_w 266, 3) := by decide +kernel
theorem dJ6_bitCount_0f7a4_14 : decode cJ6_bitCount_0f7a4 14 = .ok (.iand, 1) := by decide +kernel
theorem dJ6_bitCount_0f7a4_15 : decode cJ6_bitCount_0f7a4 15 = .ok (.iload_n 0, 1) := by decide +kernel
theorem dJ6_bitCount_0f7a4_16 : decode cJ6_bitCount_0f7a4 16 = .ok (.iconst 2, 1) := by decide +kernel
theorem dJ6_bitCount_0f7a4_17 : decode cJ6_bitCount_0f7a4 17 = .ok (.iushr, 1) := by decide +kernel
theorem dJ6_bitCount_0f7a4_18 : decode cJ6_bitCount_0f7a4 18 = .ok (.ldc_w 266, 3) := by decide +kernel
theorem dJ6_bitCount_0f7a4_21 : decode cJ6_bitCount_0f7a4 21 = .ok (.iand, 1) := by decide +kernel
theorem dJ6_bitCount_0f7a4_22 : decode cJ6_bitCount_0f7a4 22 = .ok (.iadd, 1) := by decide +kernel
theorem dJ6_bitCount_0f7a4_23 : decode cJ6_bitCount_0f7a4 23 = .ok (.istore_n 0, 1) := by decide +kernel
theorem dJ6_bitCount_0f7a4_24 : decode cJ6_bitCount_0f7a4 24 = .ok (.iload_n 0, 1) := by decide +kernel
theorem dJ6_bitCount_0f7a4_25 : decode cJ6_bitCount_0f7a4 25 = .ok (.iload_n 0, 1) := by decide +kernel
theorem dJ6_bitCount_0f7a4_26 : decode cJ6_bitCount_0f7a4 26 = .ok (.iconst 4, 1) := by decide +kernel
theorem dJ6_bitCount_0f7a4_27 : decode cJ6_bitCount_0f7a4 27 = .ok (.iushr, 1) := by decide +kernel
theorem dJ6_bitCount_0f7a4_28 : decode cJ6_bitCount_0f7a4 28 = .ok (.iadd, 1) := by decide +kernel
theorem dJ6_bitCount_0f7a4_29 : decode cJ6_bitCount_0f7a4 29 = .ok (.ldc_w 267, 3) := by decide +kernel
theorem dJ6_bitCount_0f7a4_32 : decode cJ6_bitCount_0f7a4 32 = .ok (.iand, 1) := by decide +kernel
theorem dJ6_bitCount_0f7a4_33 : decode cJ6_bitCount_0f7a4 33 = .ok (.istore_n 0, 1) := by decide +kernel
theorem dJ6_bitCount_0f7a4_34 : decode cJ6_bitCount_0f7a4 34 = .ok (.iload_n 0, 1) := by decide +kernel
theorem dJ6_bitCount_0f7a4_35 : decode cJ6_bitCount_0f7a4 35 = .ok (.iload_n 0, 1) := by decide +kernel
theorem dJ6_bitCount_0f7a4_36 : decode cJ6_bitCount_0f7a4 36 = .ok (.bipush 8, 2) := by decide +kernel
theorem dJ6_bitCount_0f7a4_38 : decode cJ6_bitCount_0f7a4 38 = .ok (.iushr, 1) := by decide +kernel
theorem dJ6_bitCount_0f7a4_39 : decode cJ6_bitCount_0f7a4 39 = .ok (.iadd, 1) := by decide +kernel
theorem dJ6_bitCount_0f7a4_40 : decode cJ6_bitCount_0f7a4 40 = .ok (.istore_n 0, 1) := by decide +kernel
theorem dJ6_bitCount_0f7a4_41 : decode cJ6_bitCount_0f7a4 41 = .ok (.iload_n 0, 1) := by decide +kernel
theorem dJ6_bitCount_0f7a4_42 : decode cJ6_bitCount_0f7a4 42 = .ok (.iload_n 0, 1) := by decide +kernel
theorem dJ6_bitCount_0f7a4_43 : decode cJ6_bitCount_0f7a4 43 = .ok (.bipush 16, 2) := by decide +kernel
theorem dJ6_bitCount_0f7a4_45 : decode cJ6_bitCount_0f7a4 45 = .ok (.iushr, 1) := by decide +kernel
theorem dJ6_bitCount_0f7a4_46 : decode cJ6_bitCount_0f7a4 46 = .ok (.iadd, 1) := by decide +kernel
theorem dJ6_bitCount_0f7a4_47 : decode cJ6_bitCount_0f7a4 47 = .ok (.istore_n 0, 1) := by decide +kernel
theorem dJ6_bitCount_0f7a4_48 : decode cJ6_bitCount_0f7a4 48 = .ok (.iload_n 0, 1) := by decide +kernel
theorem dJ6_bitCount_0f7a4_49 : decode cJ6_bitCount_0f7a4 49 = .ok (.bipush 63, 2) := by decide +kernel
theorem dJ6_bitCount_0f7a4_51 : decode cJ6_bitCount_0f7a4 51 = .ok (.iand, 1) := by decide +kernel
theorem dJ6_bitCount_0f7a4_52 : decode cJ6_bitCount_0f7a4 52 = .ok (.ireturn, 1) := by decide +kernel
set_option maxHeartbeats 4000000 in
set_option maxRecDepth 100000 in
theorem a_J6_bitCount_0f7a4_127 (l : Launch) (dC : Nat → ClassId) (dI : Nat → Nat → Nat) (h : Nat → Nat) (cs : Nat → ClassId) (sz : Nat) (I : Nat → Int32) (L : Nat → Int64) (A : Nat → Nat → Int32) (Q : Nat → Nat → Int64) (G : Nat → Nat → Nat → Int32) (J : Nat → Nat → Nat → Int64) : Met l yJ6_bitCount_0f7a4 wsJ6_bitCount_0f7a4 ({ frames := 0, cells := 0, slots := 0, locals := 0 }) (va_Pc [.int (nI 3)] (xPre (dC, dI) ([] : va_W) (tysA cs) sz)) (va_Qi (fun (r : Int32) (u : CS) => (r = nI 2) ∧ u = (I, L, A, Q, G, J)) (xB (dC, dI) (tysA cs) (va_A ([] : va_W) sz) (fun _ : CS => ([] : va_W))) (va_A ([] : va_W) sz)) 0 0 (va_A ([] : va_W) sz) := by
  refine Met.ofW (cc := cJ6_bitCount_0f7a4) (maxL := 1) (ret := (some .int)) (by decide) rfl ?_
  intro p e s m args below meth c s₁ B hml hv
  obtain ⟨rfl, hsz, hP, hK, hD0, hN⟩ := hv
  have hx := B.exec
  have hb := B.bytes
  have hr := B.returns
  have hts := atoms_spec (ws := wsJ6_bitCount_0f7a4) B.pre
  have hown : s.vm.findClass RJ6 = some m.cls := findClass_of_methodNamed B.named
  have hlocks := B.notSynchronized
  subst hsz
  have hD := hD0.self (sz := s.heap.size)
  generalize hAe : va_A ([] : va_W) s.heap.size = A0 at hD ⊢
  have hA : ∀ q : Nat, s.heap.size ≤ q → A0 q := fun q h => by rw [← hAe]; exact Or.inr h
  have hl := lv_entry ([.int (nI 3)]) (n := 1) (Nat.le_of_ble_eq_true rfl)
  rw [lg_entry_eq]
  generalize (lg_sl ([.int (nI 3)]) ++ List.replicate (1 - (lg_sl ([.int (nI 3)])).length) Slot.unset).toArray = ls at hl ⊢
  have hl : lv_has ls 1 [(0, .int (nI 3))] := hl
  generalize hH : s.heap = H at hP ⊢
  have hS : va_S A0 s.heap H [] := by rw [← hH]; exact va_S.rf
  refine lv_iload_n hx hb dJ6_bitCount_0f7a4_0 rfl (lv_at hl 0 rfl) ?_
  refine lv_iload_n hx hb dJ6_bitCount_0f7a4_1 rfl (lv_at hl 0 rfl) ?_
  refine lv_iconst (v := nI 1) hx hb dJ6_bitCount_0f7a4_2 (by decide) ?_
  refine lv_iushr (v := nI 1) hx hb dJ6_bitCount_0f7a4_3 (by decide +kernel) ?_
  refine lv_ldcw (v := 1431655765) hx hb hown (hts (.constant RJ6 265 (1431655765)) (by decide +kernel)) dJ6_bitCount_0f7a4_4 ?_
  refine xt_i (y := nI 1431655765) (rfl) ?_
  refine lv_iand hx hb dJ6_bitCount_0f7a4_7 ?_
  refine xt_i (y := nI 1) (by decide +kernel) ?_
  refine lv_isub hx hb dJ6_bitCount_0f7a4_8 ?_
  refine xt_i (y := nI 2) (by decide +kernel) ?_
  refine lv_istore_n (lv' := [(0, .int (nI 2))]) hx hb dJ6_bitCount_0f7a4_9 rfl hl (by decide) rfl (fun ls hl => ?_)
  refine lv_iload_n hx hb dJ6_bitCount_0f7a4_10 rfl (lv_at hl 0 rfl) ?_
  refine lv_ldcw (v := 858993459) hx hb hown (hts (.constant RJ6 266 (858993459)) (by decide +kernel)) dJ6_bitCount_0f7a4_11 ?_
  refine xt_i (y := nI 858993459) (rfl) ?_
  refine lv_iand hx hb dJ6_bitCount_0f7a4_14 ?_
  refine xt_i (y := nI 2) (by decide +kernel) ?_
  refine lv_iload_n hx hb dJ6_bitCount_0f7a4_15 rfl (lv_at hl 0 rfl) ?_
  refine lv_iconst (v := nI 2) hx hb dJ6_bitCount_0f7a4_16 (by decide) ?_
  refine lv_iushr (v := nI 0) hx hb dJ6_bitCount_0f7a4_17 (by decide +kernel) ?_
  refine lv_ldcw (v := 858993459) hx hb hown (hts (.constant RJ6 266 (858993459)) (by decide +kernel)) dJ6_bitCount_0f7a4_18 ?_
  refine xt_i (y := nI 858993459) (rfl) ?_
  refine lv_iand hx hb dJ6_bitCount_0f7a4_21 ?_
  refine xt_i (y := nI 0) (by decide +kernel) ?_
  refine lv_iadd hx hb dJ6_bitCount_0f7a4_22 ?_
  refine xt_i (y := nI 2) (by decide +kernel) ?_
  refine lv_istore_n (lv' := [(0, .int (nI 2))]) hx hb dJ6_bitCount_0f7a4_23 rfl hl (by decide) rfl (fun ls hl => ?_)
  refine lv_iload_n hx hb dJ6_bitCount_0f7a4_24 rfl (lv_at hl 0 rfl) ?_
  refine lv_iload_n hx hb dJ6_bitCount_0f7a4_25 rfl (lv_at hl 0 rfl) ?_
  refine lv_iconst (v := nI 4) hx hb dJ6_bitCount_0f7a4_26 (by decide) ?_
  refine lv_iushr (v := nI 0) hx hb dJ6_bitCount_0f7a4_27 (by decide +kernel) ?_
  refine lv_iadd hx hb dJ6_bitCount_0f7a4_28 ?_
  refine xt_i (y := nI 2) (by decide +kernel) ?_
  refine lv_ldcw (v := 252645135) hx hb hown (hts (.constant RJ6 267 (252645135)) (by decide +kernel)) dJ6_bitCount_0f7a4_29 ?_
  refine xt_i (y := nI 252645135) (rfl) ?_
  refine lv_iand hx hb dJ6_bitCount_0f7a4_32 ?_
  refine xt_i (y := nI 2) (by decide +kernel) ?_
  refine lv_istore_n (lv' := [(0, .int (nI 2))]) hx hb dJ6_bitCount_0f7a4_33 rfl hl (by decide) rfl (fun ls hl => ?_)
  refine lv_iload_n hx hb dJ6_bitCount_0f7a4_34 rfl (lv_at hl 0 rfl) ?_
  refine lv_iload_n hx hb dJ6_bitCount_0f7a4_35 rfl (lv_at hl 0 rfl) ?_
  refine lv_bipush (v := nI 8) hx hb dJ6_bitCount_0f7a4_36 (by decide) ?_
  refine lv_iushr (v := nI 0) hx hb dJ6_bitCount_0f7a4_38 (by decide +kernel) ?_
  refine lv_iadd hx hb dJ6_bitCount_0f7a4_39 ?_
  refine xt_i (y := nI 2) (by decide +kernel) ?_
  refine lv_istore_n (lv' := [(0, .int (nI 2))]) hx hb dJ6_bitCount_0f7a4_40 rfl hl (by decide) rfl (fun ls hl => ?_)
  refine lv_iload_n hx hb dJ6_bitCount_0f7a4_41 rfl (lv_at hl 0 rfl) ?_
  refine lv_iload_n hx hb dJ6_bitCount_0f7a4_42 rfl (lv_at hl 0 rfl) ?_
  refine lv_bipush (v := nI 16) hx hb dJ6_bitCount_0f7a4_43 (by decide) ?_
  refine lv_iushr (v := nI 0) hx hb dJ6_bitCount_0f7a4_45 (by decide +kernel) ?_
  refine lv_iadd hx hb dJ6_bitCount_0f7a4_46 ?_
  refine xt_i (y := nI 2) (by decide +kernel) ?_
  refine lv_istore_n (lv' := [(0, .int (nI 2))]) hx hb dJ6_bitCount_0f7a4_47 rfl hl (by decide) rfl (fun ls hl => ?_)
  refine lv_iload_n hx hb dJ6_bitCount_0f7a4_48 rfl (lv_at hl 0 rfl) ?_
  refine lv_bipush (v := nI 63) hx hb dJ6_bitCount_0f7a4_49 (by decide) ?_
  refine lv_iand hx hb dJ6_bitCount_0f7a4_51 ?_
  refine xt_i (y := nI 2) (by decide +kernel) ?_
  exact xr_i (v := (nI 2)) hx hb hr hlocks hK hS dJ6_bitCount_0f7a4_52 (I, L, A, Q, G, J) ⟨rfl, rfl⟩ hP hD
set_option maxHeartbeats 4000000 in
set_option maxRecDepth 100000 in
theorem a_X9_mirror_128 (l : Launch) (dC : Nat → ClassId) (dI : Nat → Nat → Nat) (h : Nat → Nat) (cs : Nat → ClassId) (sz : Nat) (I : Nat → Int32) (L : Nat → Int64) (A : Nat → Nat → Int32) (Q : Nat → Nat → Int64) (G : Nat → Nat → Nat → Int32) (J : Nat → Nat → Nat → Int64) : Met l yX9_mirror wsX9_mirror ({ frames := 0, cells := 0, slots := 0, locals := 0 }) (va_Pc [.int (nI 2), .int (nI 2)] (xPre (dC, dI) ([] : va_W) (tysA cs) sz)) (va_Qi (fun (r : Int32) (u : CS) => (r = nI 1) ∧ u = (I, L, A, Q, G, J)) (xB (dC, dI) (tysA cs) (va_A ([] : va_W) sz) (fun _ : CS => ([] : va_W))) (va_A ([] : va_W) sz)) 0 0 (va_A ([] : va_W) sz) := by
  refine Met.ofW (cc := cX9_mirror) (maxL := 4) (ret := (some .int)) (by decide) rfl ?_
  intro p e s m args below meth c s₁ B hml hv
  obtain ⟨rfl, hsz, hP, hK, hD0, hN⟩ := hv
  have hx := B.exec
  have hb := B.bytes
  have hr := B.returns
  have hts := atoms_spec (ws := wsX9_mirror) B.pre
  have hown : s.vm.findClass RX9 = some m.cls := findClass_of_methodNamed B.named
  have hlocks := B.notSynchronized
  subst hsz
  have hD := hD0.self (sz := s.heap.size)
  generalize hAe : va_A ([] : va_W) s.heap.size = A0 at hD ⊢
  have hA : ∀ q : Nat, s.heap.size ≤ q → A0 q := fun q h => by rw [← hAe]; exact Or.inr h
  have hl := lv_entry ([.int (nI 2), .int (nI 2)]) (n := 4) (Nat.le_of_ble_eq_true rfl)
  rw [lg_entry_eq]
  generalize (lg_sl ([.int (nI 2), .int (nI 2)]) ++ List.replicate (4 - (lg_sl ([.int (nI 2), .int (nI 2)])).length) Slot.unset).toArray = ls at hl ⊢
  have hl : lv_has ls 4 [(0, .int (nI 2)), (1, .int (nI 2))] := hl
  generalize hH : s.heap = H at hP ⊢
  have hS : va_S A0 s.heap H [] := by rw [← hH]; exact va_S.rf
  refine lv_iconst (v := nI 0) hx hb dX9_mirror_0 (by decide) ?_
  refine lv_istore_n (lv' := [(2, .int (nI 0)), (0, .int (nI 2)), (1, .int (nI 2))]) hx hb dX9_mirror_1 rfl hl (by decide) rfl (fun ls hl => ?_)
  refine lv_iconst (v := nI 0) hx hb dX9_mirror_2 (by decide) ?_
  refine lv_istore_n (lv' := [(3, .int (nI 0)), (2, .int (nI 0)), (0, .int (nI 2)), (1, .int (nI 2))]) hx hb dX9_mirror_3 rfl hl (by decide) rfl (fun ls hl => ?_)
  refine lv_iload_n hx hb dX9_mirror_4 rfl (lv_at hl 0 rfl) ?_
  refine lv_iload_n hx hb dX9_mirror_5 rfl (lv_at hl 3 rfl) ?_
  refine lv_icmp_ge (tgt := 25) hx hb dX9_mirror_6 (by decide) (fun c9 => False.elim (by revert c9; decide +kernel)) (fun _ => ?_)
  refine lv_iload_n hx hb dX9_mirror_9 rfl (lv_at hl 1 rfl) ?_
  refine lv_iconst (v := nI 1) hx hb dX9_mirror_10 (by decide) ?_
  refine lv_ishl hx hb dX9_mirror_11 ?_
  refine xt_i (y := nI 0) (by decide +kernel) ?_
  refine lv_iload_n hx hb dX9_mirror_12 rfl (lv_at hl 2 rfl) ?_
  refine lv_iload_n hx hb dX9_mirror_13 rfl (lv_at hl 0 rfl) ?_
  refine lv_ishr hx hb dX9_mirror_14 ?_
  refine xt_i (y := nI 2) (by decide +kernel) ?_
  refine lv_iconst (v := nI 1) hx hb dX9_mirror_15 (by decide) ?_
  refine lv_iand hx hb dX9_mirror_16 ?_
  refine xt_i (y := nI 0) (by decide +kernel) ?_
  refine lv_ior hx hb dX9_mirror_17 ?_
  refine xt_i (y := nI 0) (by decide +kernel) ?_
  refine lv_istore_n (lv' := [(2, .int (nI 0)), (3, .int (nI 0)), (0, .int (nI 2)), (1, .int (nI 2))]) hx hb dX9_mirror_18 rfl hl (by decide) rfl (fun ls hl => ?_)
  refine lv_iinc (v := nI 1) (lv' := [(3, .int (nI 1)), (2, .int (nI 0)), (0, .int (nI 2)), (1, .int (nI 2))]) hx hb dX9_mirror_19 hl (k := 1) rfl (by decide +kernel) (by decide) rfl (fun ls hl => ?_)
  refine lv_goto (tgt := 4) hx hb dX9_mirror_22 (by decide) ?_
  refine lv_iload_n hx hb dX9_mirror_4 rfl (lv_at hl 0 rfl) ?_
  refine lv_iload_n hx hb dX9_mirror_5 rfl (lv_at hl 3 rfl) ?_
  refine lv_icmp_ge (tgt := 25) hx hb dX9_mirror_6 (by decide) (fun c9 => False.elim (by revert c9; decide +kernel)) (fun _ => ?_)
  refine lv_iload_n hx hb dX9_mirror_9 rfl (lv_at hl 1 rfl) ?_
  refine lv_iconst (v := nI 1) hx hb dX9_mirror_10 (by decide) ?_
  refine lv_ishl hx hb dX9_mirror_11 ?_
  refine xt_i (y := nI 0) (by decide +kernel) ?_
  refine lv_iload_n hx hb dX9_mirror_12 rfl (lv_at hl 2 rfl) ?_
  refine lv_iload_n hx hb dX9_mirror_13 rfl (lv_at hl 0 rfl) ?_
  refine lv_ishr hx hb dX9_mirror_14 ?_
  refine xt_i (y := nI 1) (by decide +kernel) ?_
  refine lv_iconst (v := nI 1) hx hb dX9_mirror_15 (by decide) ?_
  refine lv_iand hx hb dX9_mirror_16 ?_
  refine xt_i (y := nI 1) (by decide +kernel) ?_
  refine lv_ior hx hb dX9_mirror_17 ?_
  refine xt_i (y := nI 1) (by decide +kernel) ?_
  refine lv_istore_n (lv' := [(2, .int (nI 1)), (3, .int (nI 1)), (0, .int (nI 2)), (1, .int (nI 2))]) hx hb dX9_mirror_18 rfl hl (by decide) rfl (fun ls hl => ?_)
  refine lv_iinc (v := nI 2) (lv' := [(3, .int (nI 2)), (2, .int (nI 1)), (0, .int (nI 2)), (1, .int (nI 2))]) hx hb dX9_mirror_19 hl (k := 1) rfl (by decide +kernel) (by decide) rfl (fun ls hl => ?_)
  refine lv_goto (tgt := 4) hx hb dX9_mirror_22 (by decide) ?_
  refine lv_iload_n hx hb dX9_mirror_4 rfl (lv_at hl 0 rfl) ?_
  refine lv_iload_n hx hb dX9_mirror_5 rfl (lv_at hl 3 rfl) ?_
  refine lv_icmp_ge (tgt := 25) hx hb dX9_mirror_6 (by decide) (fun _ => ?_) (fun c9 => False.elim (by revert c9; decide +kernel))
  refine lv_iload_n hx hb dX9_mirror_25 rfl (lv_at hl 1 rfl) ?_
  exact xr_i (v := (nI 1)) hx hb hr hlocks hK hS dX9_mirror_26 (I, L, A, Q, G, J) ⟨rfl, rfl⟩ hP hD
set_option maxHeartbeats 4000000 in
set_option maxRecDepth 100000 in
theorem a_J6_bitCount_0f7a4_129 (l : Launch) (dC : Nat → ClassId) (dI : Nat → Nat → Nat) (h : Nat → Nat) (cs : Nat → ClassId) (sz : Nat) (I : Nat → Int32) (L : Nat → Int64) (A : Nat → Nat → Int32) (Q : Nat → Nat → Int64) (G : Nat → Nat → Nat → Int32) (J : Nat → Nat → Nat → Int64) : Met l yJ6_bitCount_0f7a4 wsJ6_bitCount_0f7a4 ({ frames := 0, cells := 0, slots := 0, locals := 0 }) (va_Pc [.int (nI 1)] (xPre (dC, dI) ([] : va_W) (tysA cs) sz)) (va_Qi (fun (r : Int32) (u : CS) => (r = nI 1) ∧ u = (I, L, A, Q, G, J)) (xB (dC, dI) (tysA cs) (va_A ([] : va_W) sz) (fun _ : CS => ([] : va_W))) (va_A ([] : va_W) sz)) 0 0 (va_A ([] : va_W) sz) := by
  refine Met.ofW (cc := cJ6_bitCount_0f7a4) (maxL := 1) (ret := (some .int)) (by decide) rfl ?_
  intro p e s m args below meth c s₁ B hml hv
  obtain ⟨rfl, hsz, hP, hK, hD0, hN⟩ := hv
  have hx := B.exec
  have hb := B.bytes
  have hr := B.returns
  have hts := atoms_spec (ws := wsJ6_bitCount_0f7a4) B.pre
  have hown : s.vm.findClass RJ6 = some m.cls := findClass_of_methodNamed B.named
  have hlocks := B.notSynchronized
  subst hsz
  have hD := hD0.self (sz := s.heap.size)
  generalize hAe : va_A ([] : va_W) s.heap.size = A0 at hD ⊢
  have hA : ∀ q : Nat, s.heap.size ≤ q → A0 q := fun q h => by rw [← hAe]; exact Or.inr h
  have hl := lv_entry ([.int (nI 1)]) (n := 1) (Nat.le_of_ble_eq_true rfl)
  rw [lg_entry_eq]
  generalize (lg_sl ([.int (nI 1)]) ++ List.replicate (1 - (lg_sl ([.int (nI 1)])).length) Slot.unset).toArray = ls at hl ⊢
  have hl : lv_has ls 1 [(0, .int (nI 1))] := hl
  generalize hH : s.heap = H at hP ⊢
  have hS : va_S A0 s.heap H [] := by rw [← hH]; exact va_S.rf
  refine lv_iload_n hx hb dJ6_bitCount_0f7a4_0 rfl (lv_at hl 0 rfl) ?_
  refine lv_iload_n hx hb dJ6_bitCount_0f7a4_1 rfl (lv_at hl 0 rfl) ?_
  refine lv_iconst (v := nI 1) hx hb dJ6_bitCount_0f7a4_2 (by decide) ?_
  refine lv_iushr (v := nI 0) hx hb dJ6_bitCount_0f7a4_3 (by decide +kernel) ?_
  refine lv_ldcw (v := 1431655765) hx hb hown (hts (.constant RJ6 265 (1431655765)) (by decide +kernel)) dJ6_bitCount_0f7a4_4 ?_
  refine xt_i (y := nI 1431655765) (rfl) ?_
  refine lv_iand hx hb dJ6_bitCount_0f7a4_7 ?_
  refine xt_i (y := nI 0) (by decide +kernel) ?_
  refine lv_isub hx hb dJ6_bitCount_0f7a4_8 ?_
  refine xt_i (y := nI 1) (by decide +kernel) ?_
  refine lv_istore_n (lv' := [(0, .int (nI 1))]) hx hb dJ6_bitCount_0f7a4_9 rfl hl (by decide) rfl (fun ls hl => ?_)
  refine lv_iload_n hx hb dJ6_bitCount_0f7a4_10 rfl (lv_at hl 0 rfl) ?_
  refine lv_ldcw (v := 858993459) hx hb hown (hts (.constant RJ6 266 (858993459)) (by decide +kernel)) dJ6_bitCount_0f7a4_11 ?_
  refine xt_i (y := nI 858993459) (rfl) ?_
  refine lv_iand hx hb dJ6_bitCount_0f7a4_14 ?_
  refine xt_i (y := nI 1) (by decide +kernel) ?_
  refine lv_iload_n hx hb dJ6_bitCount_0f7a4_15 rfl (lv_at hl 0 rfl) ?_
  refine lv_iconst (v := nI 2) hx hb dJ6_bitCount_0f7a4_16 (by decide) ?_
  refine lv_iushr (v := nI 0) hx hb dJ6_bitCount_0f7a4_17 (by decide +kernel) ?_
  refine lv_ldcw (v := 858993459) hx hb hown (hts (.constant RJ6 266 (858993459)) (by decide +kernel)) dJ6_bitCount_0f7a4_18 ?_
  refine xt_i (y := nI 858993459) (rfl) ?_
  refine lv_iand hx hb dJ6_bitCount_0f7a4_21 ?_
  refine xt_i (y := nI 0) (by decide +kernel) ?_
  refine lv_iadd hx hb dJ6_bitCount_0f7a4_22 ?_
  refine xt_i (y := nI 1) (by decide +kernel) ?_
  refine lv_istore_n (lv' := [(0, .int (nI 1))]) hx hb dJ6_bitCount_0f7a4_23 rfl hl (by decide) rfl (fun ls hl => ?_)
  refine lv_iload_n hx hb dJ6_bitCount_0f7a4_24 rfl (lv_at hl 0 rfl) ?_
  refine lv_iload_n hx hb dJ6_bitCount_0f7a4_25 rfl (lv_at hl 0 rfl) ?_
  refine lv_iconst (v := nI 4) hx hb dJ6_bitCount_0f7a4_26 (by decide) ?_
  refine lv_iushr (v := nI 0) hx hb dJ6_bitCount_0f7a4_27 (by decide +kernel) ?_
  refine lv_iadd hx hb dJ6_bitCount_0f7a4_28 ?_
  refine xt_i (y := nI 1) (by decide +kernel) ?_
  refine lv_ldcw (v := 252645135) hx hb hown (hts (.constant RJ6 267 (252645135)) (by decide +kernel)) dJ6_bitCount_0f7a4_29 ?_
  refine xt_i (y := nI 252645135) (rfl) ?_
  refine lv_iand hx hb dJ6_bitCount_0f7a4_32 ?_
  refine xt_i (y := nI 1) (by decide +kernel) ?_
  refine lv_istore_n (lv' := [(0, .int (nI 1))]) hx hb dJ6_bitCount_0f7a4_33 rfl hl (by decide) rfl (fun ls hl => ?_)
  refine lv_iload_n hx hb dJ6_bitCount_0f7a4_34 rfl (lv_at hl 0 rfl) ?_
  refine lv_iload_n hx hb dJ6_bitCount_0f7a4_35 rfl (lv_at hl 0 rfl) ?_
  refine lv_bipush (v := nI 8) hx hb dJ6_bitCount_0f7a4_36 (by decide) ?_
  refine lv_iushr (v := nI 0) hx hb dJ6_bitCount_0f7a4_38 (by decide +kernel) ?_
  refine lv_iadd hx hb dJ6_bitCount_0f7a4_39 ?_
  refine xt_i (y := nI 1) (by decide +kernel) ?_
  refine lv_istore_n (lv' := [(0, .int (nI 1))]) hx hb dJ6_bitCount_0f7a4_40 rfl hl (by decide) rfl (fun ls hl => ?_)
  refine lv_iload_n hx hb dJ6_bitCount_0f7a4_41 rfl (lv_at hl 0 rfl) ?_
  refine lv_iload_n hx hb dJ6_bitCount_0f7a4_42 rfl (lv_at hl 0 rfl) ?_
  refine lv_bipush (v := nI 16) hx hb dJ6_bitCount_0f7a4_43 (by decide) ?_
  refine lv_iushr (v := nI 0) hx hb dJ6_bitCount_0f7a4_45 (by decide +kernel) ?_
  refine lv_iadd hx hb dJ6_bitCount_0f7a4_46 ?_
  refine xt_i (y := nI 1) (by decide +kernel) ?_
  refine lv_istore_n (lv' := [(0, .int (nI 1))]) hx hb dJ6_bitCount_0f7a4_47 rfl hl (by decide) rfl (fun ls hl => ?_)
  refine lv_iload_n hx hb dJ6_bitCount_0f7a4_48 rfl (lv_at hl 0 rfl) ?_
  refine lv_bipush (v := nI 63) hx hb dJ6_bitCount_0f7a4_49 (by decide) ?_
  refine lv_iand hx hb dJ6_bitCount_0f7a4_51 ?_
  refine xt_i (y := nI 1) (by decide +kernel) ?_
  exact xr_i (v := (nI 1)) hx hb hr hlocks hK hS dJ6_bitCount_0f7a4_52 (I, L, A, Q, G, J) ⟨rfl, rfl⟩ hP hD
set_option maxHeartbeats 4000000 in
set_option maxRecDepth 100000 in
theorem a_X9_mirror_130 (l : Launch) (dC : Nat → ClassId) (dI : Nat → Nat → Nat) (h : Nat → Nat) (cs : Nat → ClassId) (sz : Nat) (I : Nat → Int32) (L : Nat → Int64) (A : Nat → Nat → Int32) (Q : Nat → Nat → Int64) (G : Nat → Nat → Nat → Int32) (J : Nat → Nat → Nat → Int64) : Met l yX9_mirror wsX9_mirror ({ frames := 0, cells := 0, slots := 0, locals := 0 }) (va_Pc [.int (nI 1), .int (nI 2)] (xPre (dC, dI) ([] : va_W) (tysA cs) sz)) (va_Qi (fun (r : Int32) (u : CS) => (r = nI 2) ∧ u = (I, L, A, Q, G, J)) (xB (dC, dI) (tysA cs) (va_A ([] : va_W) sz) (fun _ : CS => ([] : va_W))) (va_A ([] : va_W) sz)) 0 0 (va_A ([] : va_W) sz) := by
  refine Met.ofW (cc := cX9_mirror) (maxL := 4) (ret := (some .int)) (by decide) rfl ?_
  intro p e s m args below meth c s₁ B hml hv
  obtain ⟨rfl, hsz, hP, hK, hD0, hN⟩ := hv
  have hx := B.exec
  have hb := B.bytes
  have hr := B.returns
  have hts := atoms_spec (ws := wsX9_mirror) B.pre
  have hown : s.vm.findClass RX9 = some m.cls := findClass_of_methodNamed B.named
  have hlocks := B.notSynchronized
  subst hsz
  have hD := hD0.self (sz := s.heap.size)
  generalize hAe : va_A ([] : va_W) s.heap.size = A0 at hD ⊢
  have hA : ∀ q : Nat, s.heap.size ≤ q → A0 q := fun q h => by rw [← hAe]; exact Or.inr h
  have hl := lv_entry ([.int (nI 1), .int (nI 2)]) (n := 4) (Nat.le_of_ble_eq_true rfl)
  rw [lg_entry_eq]
  generalize (lg_sl ([.int (nI 1), .int (nI 2)]) ++ List.replicate (4 - (lg_sl ([.int (nI 1), .int (nI 2)])).length) Slot.unset).toArray = ls at hl ⊢
  have hl : lv_has ls 4 [(0, .int (nI 1)), (1, .int (nI 2))] := hl
  generalize hH : s.heap = H at hP ⊢
  have hS : va_S A0 s.heap H [] := by rw [← hH]; exact va_S.rf
  refine lv_iconst (v := nI 0) hx hb dX9_mirror_0 (by decide) ?_
  refine lv_istore_n (lv' := [(2, .int (nI 0)), (0, .int (nI 1)), (1, .int (nI 2))]) hx hb dX9_mirror_1 rfl hl (by decide) rfl (fun ls hl => ?_)
  refine lv_iconst (v := nI 0) hx hb dX9_mirror_2 (by decide) ?_
  refine lv_istore_n (lv' := [(3, .int (nI 0)), (2, .int (nI 0)), (0, .int (nI 1)), (1, .int (nI 2))]) hx hb dX9_mirror_3 rfl hl (by decide) rfl (fun ls hl => ?_)
  refine lv_iload_n hx hb dX9_mirror_4 rfl (lv_at hl 0 rfl) ?_
  refine lv_iload_n hx hb dX9_mirror_5 rfl (lv_at hl 3 rfl) ?_
  refine lv_icmp_ge (tgt := 25) hx hb dX9_mirror_6 (by decide) (fun c9 => False.elim (by revert c9; decide +kernel)) (fun _ => ?_)
  refine lv_iload_n hx hb dX9_mirror_9 rfl (lv_at hl 1 rfl) ?_
  refine lv_iconst (v := nI 1) hx hb dX9_mirror_10 (by decide) ?_
  refine lv_ishl hx hb dX9_mirror_11 ?_
  refine xt_i (y := nI 0) (by decide +kernel) ?_
  refine lv_iload_n hx hb dX9_mirror_12 rfl (lv_at hl 2 rfl) ?_
  refine lv_iload_n hx hb dX9_mirror_13 rfl (lv_at hl 0 rfl) ?_
  refine lv_ishr hx hb dX9_mirror_14 ?_
  refine xt_i (y := nI 1) (by decide +kernel) ?_
  refine lv_iconst (v := nI 1) hx hb dX9_mirror_15 (by decide) ?_
  refine lv_iand hx hb dX9_mirror_16 ?_
  refine xt_i (y := nI 1) (by decide +kernel) ?_
  refine lv_ior hx hb dX9_mirror_17 ?_
  refine xt_i (y := nI 1) (by decide +kernel) ?_
  refine lv_istore_n (lv' := [(2, .int (nI 1)), (3, .int (nI 0)), (0, .int (nI 1)), (1, .int (nI 2))]) hx hb dX9_mirror_18 rfl hl (by decide) rfl (fun ls hl => ?_)
  refine lv_iinc (v := nI 1) (lv' := [(3, .int (nI 1)), (2, .int (nI 1)), (0, .int (nI 1)), (1, .int (nI 2))]) hx hb dX9_mirror_19 hl (k := 1) rfl (by decide +kernel) (by decide) rfl (fun ls hl => ?_)
  refine lv_goto (tgt := 4) hx hb dX9_mirror_22 (by decide) ?_
  refine lv_iload_n hx hb dX9_mirror_4 rfl (lv_at hl 0 rfl) ?_
  refine lv_iload_n hx hb dX9_mirror_5 rfl (lv_at hl 3 rfl) ?_
  refine lv_icmp_ge (tgt := 25) hx hb dX9_mirror_6 (by decide) (fun c9 => False.elim (by revert c9; decide +kernel)) (fun _ => ?_)
  refine lv_iload_n hx hb dX9_mirror_9 rfl (lv_at hl 1 rfl) ?_
  refine lv_iconst (v := nI 1) hx hb dX9_mirror_10 (by decide) ?_
  refine lv_ishl hx hb dX9_mirror_11 ?_
  refine xt_i (y := nI 2) (by decide +kernel) ?_
  refine lv_iload_n hx hb dX9_mirror_12 rfl (lv_at hl 2 rfl) ?_
  refine lv_iload_n hx hb dX9_mirror_13 rfl (lv_at hl 0 rfl) ?_
  refine lv_ishr hx hb dX9_mirror_14 ?_
  refine xt_i (y := nI 0) (by decide +kernel) ?_
  refine lv_iconst (v := nI 1) hx hb dX9_mirror_15 (by decide) ?_
  refine lv_iand hx hb dX9_mirror_16 ?_
  refine xt_i (y := nI 0) (by decide +kernel) ?_
  refine lv_ior hx hb dX9_mirror_17 ?_
  refine xt_i (y := nI 2) (by decide +kernel) ?_
  refine lv_istore_n (lv' := [(2, .int (nI 2)), (3, .int (nI 1)), (0, .int (nI 1)), (1, .int (nI 2))]) hx hb dX9_mirror_18 rfl hl (by decide) rfl (fun ls hl => ?_)
  refine lv_iinc (v := nI 2) (lv' := [(3, .int (nI 2)), (2, .int (nI 2)), (0, .int (nI 1)), (1, .int (nI 2))]) hx hb dX9_mirror_19 hl (k := 1) rfl (by decide +kernel) (by decide) rfl (fun ls hl => ?_)
  refine lv_goto (tgt := 4) hx hb dX9_mirror_22 (by decide) ?_
  refine lv_iload_n hx hb dX9_mirror_4 rfl (lv_at hl 0 rfl) ?_
  refine lv_iload_n hx hb dX9_mirror_5 rfl (lv_at hl 3 rfl) ?_
  refine lv_icmp_ge (tgt := 25) hx hb dX9_mirror_6 (by decide) (fun _ => ?_) (fun c9 => False.elim (by revert c9; decide +kernel))
  refine lv_iload_n hx hb dX9_mirror_25 rfl (lv_at hl 1 rfl) ?_
  exact xr_i (v := (nI 2)) hx hb hr hlocks hK hS dX9_mirror_26 (I, L, A, Q, G, J) ⟨rfl, rfl⟩ hP hD
set_option maxHeartbeats 4000000 in
set_option maxRecDepth 100000 in
theorem a_J6_bitCount_0f7a4_131 (l : Launch) (dC : Nat → ClassId) (dI : Nat → Nat → Nat) (h : Nat → Nat) (cs : Nat → ClassId) (sz : Nat) (I : Nat → Int32) (L : Nat → Int64) (A : Nat → Nat → Int32) (Q : Nat → Nat → Int64) (G : Nat → Nat → Nat → Int32) (J : Nat → Nat → Nat → Int64) : Met l yJ6_bitCount_0f7a4 wsJ6_bitCount_0f7a4 ({ frames := 0, cells := 0, slots := 0, locals := 0 }) (va_Pc [.int (nI 2)] (xPre (dC, dI) ([] : va_W) (tysA cs) sz)) (va_Qi (fun (r : Int32) (u : CS) => (r = nI 1) ∧ u = (I, L, A, Q, G, J)) (xB (dC, dI) (tysA cs) (va_A ([] : va_W) sz) (fun _ : CS => ([] : va_W))) (va_A ([] : va_W) sz)) 0 0 (va_A ([] : va_W) sz) := by
  refine Met.ofW (cc := cJ6_bitCount_0f7a4) (maxL := 1) (ret := (some .int)) (by decide) rfl ?_
  intro p e s m args below meth c s₁ B hml hv
  obtain ⟨rfl, hsz, hP, hK, hD0, hN⟩ := hv
  have hx := B.exec
  have hb := B.bytes
  have hr := B.returns
  have hts := atoms_spec (ws := wsJ6_bitCount_0f7a4) B.pre
  have hown : s.vm.findClass RJ6 = some m.cls := findClass_of_methodNamed B.named
  have hlocks := B.notSynchronized
  subst hsz
  have hD := hD0.self (sz := s.heap.size)
  generalize hAe : va_A ([] : va_W) s.heap.size = A0 at hD ⊢
  have hA : ∀ q : Nat, s.heap.size ≤ q → A0 q := fun q h => by rw [← hAe]; exact Or.inr h
  have hl := lv_entry ([.int (nI 2)]) (n := 1) (Nat.le_of_ble_eq_true rfl)
  rw [lg_entry_eq]
  generalize (lg_sl ([.int (nI 2)]) ++ List.replicate (1 - (lg_sl ([.int (nI 2)])).length) Slot.unset).toArray = ls at hl ⊢
  have hl : lv_has ls 1 [(0, .int (nI 2))] := hl
  generalize hH : s.heap = H at hP ⊢
  have hS : va_S A0 s.heap H [] := by rw [← hH]; exact va_S.rf
  refine lv_iload_n hx hb dJ6_bitCount_0f7a4_0 rfl (lv_at hl 0 rfl) ?_
  refine lv_iload_n hx hb dJ6_bitCount_0f7a4_1 rfl (lv_at hl 0 rfl) ?_
  refine lv_iconst (v := nI 1) hx hb dJ6_bitCount_0f7a4_2 (by decide) ?_
  refine lv_iushr (v := nI 1) hx hb dJ6_bitCount_0f7a4_3 (by decide +kernel) ?_
  refine lv_ldcw (v := 1431655765) hx hb hown (hts (.constant RJ6 265 (1431655765)) (by decide +kernel)) dJ6_bitCount_0f7a4_4 ?_
  refine xt_i (y := nI 1431655765) (rfl) ?_
  refine lv_iand hx hb dJ6_bitCount_0f7a4_7 ?_
  refine xt_i (y := nI 1) (by decide +kernel) ?_
  refine lv_isub hx hb dJ6_bitCount_0f7a4_8 ?_
  refine xt_i (y := nI 1) (by decide +kernel) ?_
  refine lv_istore_n (lv' := [(0, .int (nI 1))]) hx hb dJ6_bitCount_0f7a4_9 rfl hl (by decide) rfl (fun ls hl => ?_)
  refine lv_iload_n hx hb dJ6_bitCount_0f7a4_10 rfl (lv_at hl 0 rfl) ?_
  refine lv_ldcw (v := 858993459) hx hb hown (hts (.constant RJ6 266 (858993459)) (by decide +kernel)) dJ6_bitCount_0f7a4_11 ?_
  refine xt_i (y := nI 858993459) (rfl) ?_
  refine lv_iand hx hb dJ6_bitCount_0f7a4_14 ?_
  refine xt_i (y := nI 1) (by decide +kernel) ?_
  refine lv_iload_n hx hb dJ6_bitCount_0f7a4_15 rfl (lv_at hl 0 rfl) ?_
  refine lv_iconst (v := nI 2) hx hb dJ6_bitCount_0f7a4_16 (by decide) ?_
  refine lv_iushr (v := nI 0) hx hb dJ6_bitCount_0f7a4_17 (by decide +kernel) ?_
  refine lv_ldcw (v := 858993459) hx hb hown (hts (.constant RJ6 266 (858993459)) (by decide +kernel)) dJ6_bitCount_0f7a4_18 ?_
  refine xt_i (y := nI 858993459) (rfl) ?_
  refine lv_iand hx hb dJ6_bitCount_0f7a4_21 ?_
  refine xt_i (y := nI 0) (by decide +kernel) ?_
  refine lv_iadd hx hb dJ6_bitCount_0f7a4_22 ?_
  refine xt_i (y := nI 1) (by decide +kernel) ?_
  refine lv_istore_n (lv' := [(0, .int (nI 1))]) hx hb dJ6_bitCount_0f7a4_23 rfl hl (by decide) rfl (fun ls hl => ?_)
  refine lv_iload_n hx hb dJ6_bitCount_0f7a4_24 rfl (lv_at hl 0 rfl) ?_
  refine lv_iload_n hx hb dJ6_bitCount_0f7a4_25 rfl (lv_at hl 0 rfl) ?_
  refine lv_iconst (v := nI 4) hx hb dJ6_bitCount_0f7a4_26 (by decide) ?_
  refine lv_iushr (v := nI 0) hx hb dJ6_bitCount_0f7a4_27 (by decide +kernel) ?_
  refine lv_iadd hx hb dJ6_bitCount_0f7a4_28 ?_
  refine xt_i (y := nI 1) (by decide +kernel) ?_
  refine lv_ldcw (v := 252645135) hx hb hown (hts (.constant RJ6 267 (252645135)) (by decide +kernel)) dJ6_bitCount_0f7a4_29 ?_
  refine xt_i (y := nI 252645135) (rfl) ?_
  refine lv_iand hx hb dJ6_bitCount_0f7a4_32 ?_
  refine xt_i (y := nI 1) (by decide +kernel) ?_
  refine lv_istore_n (lv' := [(0, .int (nI 1))]) hx hb dJ6_bitCount_0f7a4_33 rfl hl (by decide) rfl (fun ls hl => ?_)
  refine lv_iload_n hx hb dJ6_bitCount_0f7a4_34 rfl (lv_at hl 0 rfl) ?_
  refine lv_iload_n hx hb dJ6_bitCount_0f7a4_35 rfl (lv_at hl 0 rfl) ?_
  refine lv_bipush (v := nI 8) hx hb dJ6_bitCount_0f7a4_36 (by decide) ?_
  refine lv_iushr (v := nI 0) hx hb dJ6_bitCount_0f7a4_38 (by decide +kernel) ?_
  refine lv_iadd hx hb dJ6_bitCount_0f7a4_39 ?_
  refine xt_i (y := nI 1) (by decide +kernel) ?_
  refine lv_istore_n (lv' := [(0, .int (nI 1))]) hx hb dJ6_bitCount_0f7a4_40 rfl hl (by decide) rfl (fun ls hl => ?_)
  refine lv_iload_n hx hb dJ6_bitCount_0f7a4_41 rfl (lv_at hl 0 rfl) ?_
  refine lv_iload_n hx hb dJ6_bitCount_0f7a4_42 rfl (lv_at hl 0 rfl) ?_
  refine lv_bipush (v := nI 16) hx hb dJ6_bitCount_0f7a4_43 (by decide) ?_
  refine lv_iushr (v := nI 0) hx hb dJ6_bitCount_0f7a4_45 (by decide +kernel) ?_
  refine lv_iadd hx hb dJ6_bitCount_0f7a4_46 ?_
  refine xt_i (y := nI 1) (by decide +kernel) ?_
  refine lv_istore_n (lv' := [(0, .int (nI 1))]) hx hb dJ6_bitCount_0f7a4_47 rfl hl (by decide) rfl (fun ls hl => ?_)
  refine lv_iload_n hx hb dJ6_bitCount_0f7a4_48 rfl (lv_at hl 0 rfl) ?_
  refine lv_bipush (v := nI 63) hx hb dJ6_bitCount_0f7a4_49 (by decide) ?_
  refine lv_iand hx hb dJ6_bitCount_0f7a4_51 ?_
  refine xt_i (y := nI 1) (by decide +kernel) ?_
  exact xr_i (v := (nI 1)) hx hb hr hlocks hK hS dJ6_bitCount_0f7a4_52 (I, L, A, Q, G, J) ⟨rfl, rfl⟩ hP hD
set_option maxRecDepth 20000 in
theorem ggX9_chosen_X9_mirror : GoodIn wsX9_chosen wsX9_mirror := goodIn_r _ [8] (by decide +kernel) (by decide +kernel)
set_option maxRecDepth 20000 in
theorem gX9_chosen_X9_mirror : GoodIn wsX9_chosen (va_wsS RX9 258 yX9_mirror wsX9_mirror) := goodIn_app (goodIn_of _ (by decide +kernel)) ggX9_chosen_X9_mirror
set_option maxRecDepth 20000 in
theorem ggX9_chosen_J6_bitCount_0f7a4 : GoodIn wsX9_chosen wsJ6_bitCount_0f7a4 := goodIn_r _ [12, 13, 14, 15] (by decide +kernel) (by decide +kernel)
set_option maxRecDepth 20000 in
theorem gX9_chosen_J6_bitCount_0f7a4 : GoodIn wsX9_chosen (va_wsS RX9 261 yJ6_bitCount_0f7a4 wsJ6_bitCount_0f7a4) := goodIn_app (goodIn_of _ (by decide +kernel)) ggX9_chosen_J6_bitCount_0f7a4
set_option maxRecDepth 20000 in
theorem ggX9_chosen_X2_worthOf : GoodIn wsX9_chosen wsX2_worthOf := goodIn_r _ [20, 21, 22, 23, 24, 25, 26, 7, 27, 28, 29, 19, 30, 40, 41, 42, 43, 44, 45, 46, 47, 48, 49, 50] (by decide +kernel) (by decide +kernel)
set_option maxRecDepth 20000 in
theorem gX9_chosen_X2_worthOf : GoodIn wsX9_chosen (wsV RX9 180 RX2 yX2_worthOf wsX2_worthOf) := goodIn_app (goodIn_of _ (by decide +kernel)) ggX9_chosen_X2_worthOf
theorem dX9_chosen_0 : decode cX9_chosen 0 = .ok (.iload_n 1, 1) := by decide +kernel
theorem dX9_chosen_1 : decode cX9_chosen 1 = .ok (.iconst 1, 1) := by decide +kernel
theorem dX9_chosen_2 : decode cX9_chosen 2 = .ok (.if_icmp .lt 14, 3) := by decide +kernel
theorem dX9_chosen_5 : decode cX9_chosen 5 = .ok (.iload_n 1, 1) := by decide +kernel
theorem dX9_chosen_6 : decode cX9_chosen 6 = .ok (.aload_n 0, 1) := by decide +kernel
theorem dX9_chosen_7 : decode cX9_chosen 7 = .ok (.getfield 12, 3) := by decide +kernel
theorem dX9_chosen_10 : decode cX9_chosen 10 = .ok (.getfield 106, 3) := by decide +kernel
theorem dX9_chosen_13 : decode cX9_chosen 13 = .ok (.if_icmp .le 5, 3) := by decide +kernel
theorem dX9_chosen_16 : decode cX9_chosen 16 = .ok (.iconst (-1), 1) := by decide +kernel
theorem dX9_chosen_17 : decode cX9_chosen 17 = .ok (.ireturn, 1) := by decide +kernel
theorem dX9_chosen_18 : decode cX9_chosen 18 = .ok (.iconst 0, 1) := by decide +kernel
theorem dX9_chosen_19 : decode cX9_chosen 19 = .ok (.istore_n 2, 1) := by decide +kernel
theorem dX9_chosen_20 : decode cX9_chosen 20 = .ok (.ldc2_w 178, 3) := by decide +kernel
theorem dX9_chosen_23 : decode cX9_chosen 23 = .ok (.lstore_n 3, 1) := by decide +kernel
theorem dX9_chosen_24 : decode cX9_chosen 24 = .ok (.iconst 1, 1) := by decide +kernel
theorem dX9_chosen_25 : decode cX9_chosen 25 = .ok (.aload_n 0, 1) := by decide +kernel
theorem dX9_chosen_26 : decode cX9_chosen 26 = .ok (.getfield 12, 3) := by decide +kernel
theorem dX9_chosen_29 : decode cX9_chosen 29 = .ok (.getfield 106, 3) := by decide +kernel
theorem dX9_chosen_32 : decode cX9_chosen 32 = .ok (.ishl, 1) := by decide +kernel
theorem dX9_chosen_33 : decode cX9_chosen 33 = .ok (.iconst 1, 1) := by decide +kernel
theorem dX9_chosen_34 : decode cX9_chosen 34 = .ok (.isub, 1) := by decide +kernel
theorem dX9_chosen_35 : decode cX9_chosen 35 = .ok (.istore 5, 2) := by decide +kernel
theorem dX9_chosen_37 : decode cX9_chosen 37 = .ok (.iload 5, 2) := by decide +kernel
theorem dX9_chosen_39 : decode cX9_chosen 39 = .ok (.iconst 1, 1) := by decide +kernel
theorem dX9_chosen_40 : decode cX9_chosen 40 = .ok (.if_icmp .lt 63, 3) := by decide +kernel
theorem dX9_chosen_43 : decode cX9_chosen 43 = .ok (.iload 5, 2) := by decide +kernel
theorem dX9_chosen_45 : decode cX9_chosen 45 = .ok (.aload_n 0, 1) := by decide +kernel
theorem dX9_chosen_46 : decode cX9_chosen 46 = .ok (.getfield 12, 3) := by decide +kernel
theorem dX9_chosen_49 : decode cX9_chosen 49 = .ok (.getfield 106, 3) := by decide +kernel
theorem dX9_chosen_52 : decode cX9_chosen 52 = .ok (.invokestatic 258, 3) := by decide +kernel
theorem dX9_chosen_55 : decode cX9_chosen 55 = .ok (.istore 6, 2) := by decide +kernel
theorem dX9_chosen_57 : decode cX9_chosen 57 = .ok (.iload 6, 2) := by decide +kernel
theorem dX9_chosen_59 : decode cX9_chosen 59 = .ok (.invokestatic 261, 3) := by decide +kernel
theorem dX9_chosen_62 : decode cX9_chosen 62 = .ok (.iload_n 1, 1) := by decide +kernel
theorem dX9_chosen_63 : decode cX9_chosen 63 = .ok (.if_icmp .eq 6, 3) := by decide +kernel
theorem dX9_chosen_66 : decode cX9_chosen 66 = .ok (.goto 31, 3) := by decide +kernel
theorem dX9_chosen_69 : decode cX9_chosen 69 = .ok (.aload_n 0, 1) := by decide +kernel
theorem dX9_chosen_70 : decode cX9_chosen 70 = .ok (.getfield 51, 3) := by decide +kernel
theorem dX9_chosen_73 : decode cX9_chosen 73 = .ok (.aload_n 0, 1) := by decide +kernel
theorem dX9_chosen_74 : decode cX9_chosen 74 = .ok (.getfield 12, 3) := by decide +kernel
theorem dX9_chosen_77 : decode cX9_chosen 77 = .ok (.iload 6, 2) := by decide +kernel
theorem dX9_chosen_79 : decode cX9_chosen 79 = .ok (.invokevirtual 180, 3) := by decide +kernel
theorem dX9_chosen_82 : decode cX9_chosen 82 = .ok (.lstore 7, 2) := by decide +kernel
theorem dX9_chosen_84 : decode cX9_chosen 84 = .ok (.lload 7, 2) := by decide +kernel
theorem dX9_chosen_86 : decode cX9_chosen 86 = .ok (.lload_n 3, 1) := by decide +kernel
theorem dX9_chosen_87 : decode cX9_chosen 87 = .ok (.lcmp, 1) := by decide +kernel
theorem dX9_chosen_88 : decode cX9_chosen 88 = .ok (.ifCond .le 9, 3) := by decide +kernel
theorem dX9_chosen_91 : decode cX9_chosen 91 = .ok (.iload 6, 2) := by decide +kernel
theorem dX9_chosen_93 : decode cX9_chosen 93 = .ok (.istore_n 2, 1) := by decide +kernel
theorem dX9_chosen_94 : decode cX9_chosen 94 = .ok (.lload 7, 2) := by decide +kernel
theorem dX9_chosen_96 : decode cX9_chosen 96 = .ok (.lstore_n 3, 1) := by decide +kernel
theorem dX9_chosen_97 : decode cX9_chosen 97 = .ok (.iinc 5 (-1), 3) := by decide +kernel
theorem dX9_chosen_100 : decode cX9_chosen 100 = .ok (.goto (-63), 3) := by decide +kernel
theorem dX9_chosen_103 : decode cX9_chosen 103 = .ok (.iload_n 2, 1) := by decide +kernel
theorem dX9_chosen_104 : decode cX9_chosen 104 = .ok (.ireturn, 1) := by decide +kernel
set_option maxHeartbeats 4000000 in
set_option maxRecDepth 100000 in
theorem f_X9_chosen (l : Launch) (dC : Nat → ClassId) (dI : Nat → Nat → Nat) (h : Nat → Nat) (cs : Nat → ClassId) (sz : Nat) (I : Nat → Int32) (L : Nat → Int64) (A : Nat → Nat → Int32) (Q : Nat → Nat → Int64) (G : Nat → Nat → Nat → Int32) (J : Nat → Nat → Nat → Int64) (x : Int32) : Met l yX9_chosen wsX9_chosen ({ frames := 7, cells := 0, slots := 0, locals := 253 }) (va_Pc [.ref (h 100), .int x] (xPre (dC, dI) (wAll h cs fI fL fA fQ fG fJ) (tysA cs) sz)) (va_Qi (fun (r : Int32) (u : CS) => ∃ za9 : Nat → Nat → Int32, (r = an_chosen x) ∧ u = (fI, fL, za9, fQ, fG, fJ)) (xB (dC, dI) (tysA cs) (va_A (wAll h cs fI fL fA fQ fG fJ) sz) (fun u : CS => wAll h cs u.1 u.2.1 u.2.2.1 u.2.2.2.1 u.2.2.2.2.1 u.2.2.2.2.2)) (va_A (wAll h cs fI fL fA fQ fG fJ) sz)) 0 0 (va_A (wAll h cs fI fL fA fQ fG fJ) sz) := by
  refine Met.ofW (cc := cX9_chosen) (maxL := 9) (ret := (some .int)) (by decide) rfl ?_
  intro p e s m args below meth c s₁ B hml hv
  obtain ⟨rfl, hsz, hP, hK, hD0, hN⟩ := hv
  have hx := B.exec
  have hb := B.bytes
  have hr := B.returns
  have hts := atoms_spec (ws := wsX9_chosen) B.pre
  have hown : s.vm.findClass RX9 = some m.cls := findClass_of_methodNamed B.named
  have hlocks := B.notSynchronized
  subst hsz
  have hD := hD0.self (sz := s.heap.size)
  generalize hAe : va_A (wAll h cs fI fL fA fQ fG fJ) s.heap.size = A0 at hD ⊢
  have hA : ∀ q : Nat, s.heap.size ≤ q → A0 q := fun q h => by rw [← hAe]; exact Or.inr h
  have hl := lv_entry ([.ref (h 100), .int x]) (n := 9) (Nat.le_of_ble_eq_true rfl)
  rw [lg_entry_eq]
  generalize (lg_sl ([.ref (h 100), .int x]) ++ List.replicate (9 - (lg_sl ([.ref (h 100), .int x])).length) Slot.unset).toArray = ls at hl ⊢
  have hl : lv_has ls 9 [(0, .ref (h 100)), (1, .int x)] := hl
  generalize hH : s.heap = H at hP ⊢
  have hS : va_S A0 s.heap H [] := by rw [← hH]; exact va_S.rf
  have hinX9 : ∀ w ∈ wsX90, w ∈ wsX9_chosen := by decide +kernel
  have hinX3 : ∀ w ∈ wsX30, w ∈ wsX9_chosen := by decide +kernel
  rcases splR x 1 2 (by decide) with ⟨i_x, h_x, g_x, rfl⟩ | hz_x
  · skip
    rcases (show i_x = 1 ∨ i_x = 2 by omega) with rfl | rfl
    · skip
      refine lv_iload_n hx hb dX9_chosen_0 rfl (lv_at hl 1 rfl) ?_
      refine lv_iconst (v := nI 1) hx hb dX9_chosen_1 (by decide) ?_
      refine lv_icmp_lt (tgt := 16) hx hb dX9_chosen_2 (by decide) (fun c9 => False.elim (by revert c9; decide +kernel)) (fun _ => ?_)
      refine lv_iload_n hx hb dX9_chosen_5 rfl (lv_at hl 1 rfl) ?_
      refine lv_aload_n hx hb dX9_chosen_6 rfl (lv_at hl 0 rfl) ?_
      refine va_get (D := (dC, dI)) (ci := 9) (v := .ref (h 101)) (C := RX9) (T := TX9) (N := 9) hx hb hts hinX9 hown hK hP 0 rfl rfl 0 (by decide) (hts (.fieldLink RX9 12 "MixedWords" "mix" "LMixedWords$Mix;") (by decide +kernel)) (fun _ h9 => h9) rfl dX9_chosen_7 ?_
      refine va_get (D := (dC, dI)) (ci := 3) (v := .int (fI 121)) (C := RX3) (T := TX3) (N := 6) hx hb hts hinX3 hown hK hP 1 rfl rfl 1 (by decide) (hts (.fieldLink RX9 106 "MixedWords$Mix" "width" "I") (by decide +kernel)) (fun _ h9 => h9) rfl dX9_chosen_10 ?_
      refine xt_i (y := nI 2) (by decide +kernel) ?_
      refine lv_icmp_le (tgt := 18) hx hb dX9_chosen_13 (by decide) (fun _ => ?_) (fun c9 => False.elim (by revert c9; decide +kernel))
      refine lv_iconst (v := nI 0) hx hb dX9_chosen_18 (by decide) ?_
      refine lv_istore_n (lv' := [(2, .int (nI 0)), (0, .ref (h 100)), (1, .int (nI 1))]) hx hb dX9_chosen_19 rfl hl (by decide) rfl (fun ls hl => ?_)
      refine lv_ldc2 (v := (-1)) hx hb hown (hts (.constantLong RX9 178 (-1)) (by decide +kernel)) dX9_chosen_20 ?_
      refine lv_lstore_n (lv' := [(3, .long (-1 : Int64)), (2, .int (nI 0)), (0, .ref (h 100)), (1, .int (nI 1))]) hx hb dX9_chosen_23 rfl hl (by decide) rfl (fun ls hl => ?_)
      refine lv_iconst (v := nI 1) hx hb dX9_chosen_24 (by decide) ?_
      refine lv_aload_n hx hb dX9_chosen_25 rfl (lv_at hl 2 rfl) ?_
      refine va_get (D := (dC, dI)) (ci := 9) (v := .ref (h 101)) (C := RX9) (T := TX9) (N := 9) hx hb hts hinX9 hown hK hP 0 rfl rfl 0 (by decide) (hts (.fieldLink RX9 12 "MixedWords" "mix" "LMixedWords$Mix;") (by decide +kernel)) (fun _ h9 => h9) rfl dX9_chosen_26 ?_
      refine va_get (D := (dC, dI)) (ci := 3) (v := .int (fI 121)) (C := RX3) (T := TX3) (N := 6) hx hb hts hinX3 hown hK hP 1 rfl rfl 1 (by decide) (hts (.fieldLink RX9 106 "MixedWords$Mix" "width" "I") (by decide +kernel)) (fun _ h9 => h9) rfl dX9_chosen_29 ?_
      refine xt_i (y := nI 2) (by decide +kernel) ?_
      refine lv_ishl hx hb dX9_chosen_32 ?_
      refine xt_i (y := nI 4) (by decide +kernel) ?_
      refine lv_iconst (v := nI 1) hx hb dX9_chosen_33 (by decide) ?_
      refine lv_isub hx hb dX9_chosen_34 ?_
      refine xt_i (y := nI 3) (by decide +kernel) ?_
      refine lv_istore (lv' := [(5, .int (nI 3)), (3, .long (-1 : Int64)), (2, .int (nI 0)), (0, .ref (h 100)), (1, .int (nI 1))]) hx hb dX9_chosen_35 hl (by decide) rfl (fun ls hl => ?_)
      refine lv_iload hx hb dX9_chosen_37 (lv_at hl 0 rfl) ?_
      refine lv_iconst (v := nI 1) hx hb dX9_chosen_39 (by decide) ?_
      refine lv_icmp_lt (tgt := 103) hx hb dX9_chosen_40 (by decide) (fun c9 => False.elim (by revert c9; decide +kernel)) (fun _ => ?_)
      refine lv_iload hx hb dX9_chosen_43 (lv_at hl 0 rfl) ?_
      refine lv_aload_n hx hb dX9_chosen_45 rfl (lv_at hl 3 rfl) ?_
      refine va_get (D := (dC, dI)) (ci := 9) (v := .ref (h 101)) (C := RX9) (T := TX9) (N := 9) hx hb hts hinX9 hown hK hP 0 rfl rfl 0 (by decide) (hts (.fieldLink RX9 12 "MixedWords" "mix" "LMixedWords$Mix;") (by decide +kernel)) (fun _ h9 => h9) rfl dX9_chosen_46 ?_
      refine va_get (D := (dC, dI)) (ci := 3) (v := .int (fI 121)) (C := RX3) (T := TX3) (N := 6) hx hb hts hinX3 hown hK hP 1 rfl rfl 1 (by decide) (hts (.fieldLink RX9 106 "MixedWords$Mix" "width" "I") (by decide +kernel)) (fun _ h9 => h9) rfl dX9_chosen_49 ?_
      refine xt_i (y := nI 2) (by decide +kernel) ?_
      refine xj_i (wc := ([] : va_W)) (wr := (wAll h cs fI fL fA fQ fG fJ)) hP hD hS hA [] [0, 1, 2, 3, 4, 5, 6, 7, 8, 9, 10, 11, 12, 13, 14, 15, 16, 17, 18, 19, 20, 21, 22, 23, 24, 25, 26, 27, 28, 29, 30, 31, 32, 33, 34, 35, 36, 37, 38, 39, 40, 41, 42, 43, 44, 45, 46, 47, 48, 49, 50, 51, 52, 53, 54, 55, 56, 57, 58, 59, 60, 61] rfl rfl (by decide) (by decide) (va_runS (As := [.int (nI 3), .int (nI 2)]) (rest := []) ⟨hx, hb, hml, hown, hts⟩ (a_X9_mirror_126 l dC dI h cs H.size I L A Q G J ) (va_cwS 2 hts gX9_chosen_X9_mirror rfl rfl rfl (by decide +kernel) ⟨Nat.le_of_ble_eq_true rfl, Nat.le_of_ble_eq_true rfl⟩) (xpS (wc := ([] : va_W)) hP hD hK hN [] rfl (by decide) _) rfl rfl hl.1 rfl (lv_room (Nat.le_of_ble_eq_true rfl)) dX9_chosen_52 ⟨Nat.zero_le _, Nat.zero_le _⟩) (fun r_2 u_1 H locs hw hP hD hS => ?_)
      obtain ⟨hf_3, rfl⟩ := hw
      have hP : va_P (dC, dI) vwCl (wAll h cs fI fL fA fQ fG fJ) H := hP
      have hD : va_D A0 (wAll h cs fI fL fA fQ fG fJ) := hD
      obtain rfl := hf_3
      refine lv_istore (lv' := [(6, .int (nI 3)), (5, .int (nI 3)), (3, .long (-1 : Int64)), (2, .int (nI 0)), (0, .ref (h 100)), (1, .int (nI 1))]) hx hb dX9_chosen_55 hl (by decide) rfl (fun ls hl => ?_)
      refine lv_iload hx hb dX9_chosen_57 (lv_at hl 0 rfl) ?_
      refine xj_i (wc := ([] : va_W)) (wr := (wAll h cs fI fL fA fQ fG fJ)) hP hD hS hA [] [0, 1, 2, 3, 4, 5, 6, 7, 8, 9, 10, 11, 12, 13, 14, 15, 16, 17, 18, 19, 20, 21, 22, 23, 24, 25, 26, 27, 28, 29, 30, 31, 32, 33, 34, 35, 36, 37, 38, 39, 40, 41, 42, 43, 44, 45, 46, 47, 48, 49, 50, 51, 52, 53, 54, 55, 56, 57, 58, 59, 60, 61] rfl rfl (by decide) (by decide) (va_runS (As := [.int (nI 3)]) (rest := []) ⟨hx, hb, hml, hown, hts⟩ (a_J6_bitCount_0f7a4_127 l dC dI h cs H.size I L A Q G J ) (va_cwS 1 hts gX9_chosen_J6_bitCount_0f7a4 rfl rfl rfl (by decide +kernel) ⟨Nat.le_of_ble_eq_true rfl, Nat.le_of_ble_eq_true rfl⟩) (xpS (wc := ([] : va_W)) hP hD hK hN [] rfl (by decide) _) rfl rfl hl.1 rfl (lv_room (Nat.le_of_ble_eq_true rfl)) dX9_chosen_59 ⟨Nat.zero_le _, Nat.zero_le _⟩) (fun r_5 u_4 H locs hw hP hD hS => ?_)
      obtain ⟨hf_6, rfl⟩ := hw
      have hP : va_P (dC, dI) vwCl (wAll h cs fI fL fA fQ fG fJ) H := hP
      have hD : va_D A0 (wAll h cs fI fL fA fQ fG fJ) := hD
      obtain rfl := hf_6
      refine lv_iload_n hx hb dX9_chosen_62 rfl (lv_at hl 5 rfl) ?_
      refine lv_icmp_eq (tgt := 69) hx hb dX9_chosen_63 (by decide) (fun c9 => False.elim (by revert c9; decide +kernel)) (fun _ => ?_)
      refine lv_goto (tgt := 97) hx hb dX9_chosen_66 (by decide) ?_
      refine lv_iinc (v := nI 2) (lv' := [(5, .int (nI 2)), (6, .int (nI 3)), (3, .long (-1 : Int64)), (2, .int (nI 0)), (0, .ref (h 100)), (1, .int (nI 1))]) hx hb dX9_chosen_97 hl (k := 1) rfl (by decide +kernel) (by decide) rfl (fun ls hl => ?_)
      refine lv_goto (tgt := 37) hx hb dX9_chosen_100 (by decide) ?_
      refine lv_iload hx hb dX9_chosen_37 (lv_at hl 0 rfl) ?_
      refine lv_iconst (v := nI 1) hx hb dX9_chosen_39 (by decide) ?_
      refine lv_icmp_lt (tgt := 103) hx hb dX9_chosen_40 (by decide) (fun c9 => False.elim (by revert c9; decide +kernel)) (fun _ => ?_)
      refine lv_iload hx hb dX9_chosen_43 (lv_at hl 0 rfl) ?_
      refine lv_aload_n hx hb dX9_chosen_45 rfl (lv_at hl 4 rfl) ?_
      refine va_get (D := (dC, dI)) (ci := 9) (v := .ref (h 101)) (C := RX9) (T := TX9) (N := 9) hx hb hts hinX9 hown hK hP 0 rfl rfl 0 (by decide) (hts (.fieldLink RX9 12 "MixedWords" "mix" "LMixedWords$Mix;") (by decide +kernel)) (fun _ h9 => h9) rfl dX9_chosen_46 ?_
      refine va_get (D := (dC, dI)) (ci := 3) (v := .int (fI 121)) (C := RX3) (T := TX3) (N := 6) hx hb hts hinX3 hown hK hP 1 rfl rfl 1 (by decide) (hts (.fieldLink RX9 106 "MixedWords$Mix" "width" "I") (by decide +kernel)) (fun _ h9 => h9) rfl dX9_chosen_49 ?_
      refine xt_i (y := nI 2) (by decide +kernel) ?_
      refine xj_i (wc := ([] : va_W)) (wr := (wAll h cs fI fL fA fQ fG fJ)) hP hD hS hA [] [0, 1, 2, 3, 4, 5, 6, 7, 8, 9, 10, 11, 12, 13, 14, 15, 16, 17, 18, 19, 20, 21, 22, 23, 24, 25, 26, 27, 28, 29, 30, 31, 32, 33, 34, 35, 36, 37, 38, 39, 40, 41, 42, 43, 44, 45, 46, 47, 48, 49, 50, 51, 52, 53, 54, 55, 56, 57, 58, 59, 60, 61] rfl rfl (by decide) (by decide) (va_runS (As := [.int (nI 2), .int (nI 2)]) (rest := []) ⟨hx, hb, hml, hown, hts⟩ (a_X9_mirror_128 l dC dI h cs H.size I L A Q G J ) (va_cwS 2 hts gX9_chosen_X9_mirror rfl rfl rfl (by decide +kernel) ⟨Nat.le_of_ble_eq_true rfl, Nat.le_of_ble_eq_true rfl⟩) (xpS (wc := ([] : va_W)) hP hD hK hN [] rfl (by decide) _) rfl rfl hl.1 rfl (lv_room (Nat.le_of_ble_eq_true rfl)) dX9_chosen_52 ⟨Nat.zero_le _, Nat.zero_le _⟩) (fun r_8 u_7 H locs hw hP hD hS => ?_)
      obtain ⟨hf_9, rfl⟩ := hw
      have hP : va_P (dC, dI) vwCl (wAll h cs fI fL fA fQ fG fJ) H := hP
      have hD : va_D A0 (wAll h cs fI fL fA fQ fG fJ) := hD
      obtain rfl := hf_9
      refine lv_istore (lv' := [(6, .int (nI 1)), (5, .int (nI 2)), (3, .long (-1 : Int64)), (2, .int (nI 0)), (0, .ref (h 100)), (1, .int (nI 1))]) hx hb dX9_chosen_55 hl (by decide) rfl (fun ls hl => ?_)
      refine lv_iload hx hb dX9_chosen_57 (lv_at hl 0 rfl) ?_
      refine xj_i (wc := ([] : va_W)) (wr := (wAll h cs fI fL fA fQ fG fJ)) hP hD hS hA [] [0, 1, 2, 3, 4, 5, 6, 7, 8, 9, 10, 11, 12, 13, 14, 15, 16, 17, 18, 19, 20, 21, 22, 23, 24, 25, 26, 27, 28, 29, 30, 31, 32, 33, 34, 35, 36, 37, 38, 39, 40, 41, 42, 43, 44, 45, 46, 47, 48, 49, 50, 51, 52, 53, 54, 55, 56, 57, 58, 59, 60, 61] rfl rfl (by decide) (by decide) (va_runS (As := [.int (nI 1)]) (rest := []) ⟨hx, hb, hml, hown, hts⟩ (a_J6_bitCount_0f7a4_129 l dC dI h cs H.size I L A Q G J ) (va_cwS 1 hts gX9_chosen_J6_bitCount_0f7a4 rfl rfl rfl (by decide +kernel) ⟨Nat.le_of_ble_eq_true rfl, Nat.le_of_ble_eq_true rfl⟩) (xpS (wc := ([] : va_W)) hP hD hK hN [] rfl (by decide) _) rfl rfl hl.1 rfl (lv_room (Nat.le_of_ble_eq_true rfl)) dX9_chosen_59 ⟨Nat.zero_le _, Nat.zero_le _⟩) (fun r_11 u_10 H locs hw hP hD hS => ?_)
      obtain ⟨hf_12, rfl⟩ := hw
      have hP : va_P (dC, dI) vwCl (wAll h cs fI fL fA fQ fG fJ) H := hP
      have hD : va_D A0 (wAll h cs fI fL fA fQ fG fJ) := hD
      obtain rfl := hf_12
      refine lv_iload_n hx hb dX9_chosen_62 rfl (lv_at hl 5 rfl) ?_
      refine lv_icmp_eq (tgt := 69) hx hb dX9_chosen_63 (by decide) (fun _ => ?_) (fun c9 => False.elim (by revert c9; decide +kernel))
      refine lv_aload_n hx hb dX9_chosen_69 rfl (lv_at hl 4 rfl) ?_
      refine va_get (D := (dC, dI)) (ci := 9) (v := .ref (h 106)) (C := RX9) (T := TX9) (N := 9) hx hb hts hinX9 hown hK hP 0 rfl rfl 5 (by decide) (hts (.fieldLink RX9 51 "MixedWords" "least" "LMixedWords$Least;") (by decide +kernel)) (fun _ h9 => h9) rfl dX9_chosen_70 ?_
      refine lv_aload_n hx hb dX9_chosen_73 rfl (lv_at hl 4 rfl) ?_
      refine va_get (D := (dC, dI)) (ci := 9) (v := .ref (h 101)) (C := RX9) (T := TX9) (N := 9) hx hb hts hinX9 hown hK hP 0 rfl rfl 0 (by decide) (hts (.fieldLink RX9 12 "MixedWords" "mix" "LMixedWords$Mix;") (by decide +kernel)) (fun _ h9 => h9) rfl dX9_chosen_74 ?_
      refine lv_iload hx hb dX9_chosen_77 (lv_at hl 0 rfl) ?_
      refine xj_l (wc := (wD_112 h cs fI fL fA fQ fG fJ)) (wr := [(h 100, .inr (9, [.ref (h 101), .ref (h 102), .ref (h 103), .ref (h 104), .ref (h 105), .ref (h 106), .ref (h 107), .ref (h 108), .ref (h 109)])), (h 102, .inr (0, [.ref (h 101), .ref (h 140), .ref (h 141), .ref (h 142), .ref (h 143), .int (fI 144), .int (fI 145), .int (fI 146)])), (h 140, .inl (cs 0, 40, .inl (fA 140))), (h 141, .inl (cs 0, 40, .inl (fA 141))), (h 142, .inl (cs 0, 40, .inl (fA 142))), (h 143, .inl (cs 0, 40, .inl (fA 143))), (h 103, .inr (7, [.ref (h 150), .int (fI 151)])), (h 150, .inl (cs 2, 90, .inl (fA 150))), (h 104, .inr (4, [.ref (h 103), .ref (h 160), .int (fI 166), .int (fI 167), .int (fI 168), .int (fI 169)])), (h 160, .inl (cs 3, 5, .inr (.inr (.inr (.inr (fun i => if i < 5 then some (h (i + 161)) else none)))))), (h 161, .inl (cs 0, 4, .inl ((fG 1) 0))), (h 162, .inl (cs 0, 4, .inl ((fG 1) 1))), (h 163, .inl (cs 0, 4, .inl ((fG 1) 2))), (h 164, .inl (cs 0, 4, .inl ((fG 1) 3))), (h 165, .inl (cs 0, 4, .inl ((fG 1) 4))), (h 105, .inr (8, [.ref (h 101), .ref (h 170), .ref (h 171), .ref (h 172), .int (fI 173), .int (fI 174)])), (h 170, .inl (cs 0, 256, .inl (fA 170))), (h 171, .inl (cs 0, 256, .inl (fA 171))), (h 172, .inl (cs 0, 256, .inl (fA 172))), (h 107, .inr (6, [.ref (h 101), .ref (h 190), .ref (h 191), .ref (h 192)])), (h 190, .inl (cs 0, 5, .inl (fA 190))), (h 191, .inl (cs 0, 4, .inl (fA 191))), (h 192, .inl (cs 0, 4, .inl (fA 192))), (h 108, .inr (1, [.ref (h 101), .ref (h 200), .ref (h 206), .ref (h 211), .int (fI 212), .int (fI 213)])), (h 200, .inl (cs 3, 5, .inr (.inr (.inr (.inr (fun i => if i < 5 then some (h (i + 201)) else none)))))), (h 201, .inl (cs 0, 4, .inl ((fG 2) 0))), (h 202, .inl (cs 0, 4, .inl ((fG 2) 1))), (h 203, .inl (cs 0, 4, .inl ((fG 2) 2))), (h 204, .inl (cs 0, 4, .inl ((fG 2) 3))), (h 205, .inl (cs 0, 4, .inl ((fG 2) 4))), (h 206, .inl (cs 3, 4, .inr (.inr (.inr (.inr (fun i => if i < 4 then some (h (i + 207)) else none)))))), (h 207, .inl (cs 0, 4, .inl ((fG 3) 0))), (h 208, .inl (cs 0, 4, .inl ((fG 3) 1))), (h 209, .inl (cs 0, 4, .inl ((fG 3) 2))), (h 210, .inl (cs 0, 4, .inl ((fG 3) 3))), (h 211, .inl (cs 0, 5, .inl (fA 211))), (h 109, .inl (cs 5, 4, .inr (.inr (.inr (.inr (fun i => if i < 4 then some (h (i + 110)) else none)))))), (h 110, .inr (5, [.int (fI 220), .int (fI 224), .ref (h 228)])), (h 228, .inl (cs 1, 25, .inr (.inl (fQ 228)))), (h 111, .inr (5, [.int (fI 221), .int (fI 225), .ref (h 229)])), (h 229, .inl (cs 1, 25, .inr (.inl (fQ 229)))), (h 112, .inr (5, [.int (fI 222), .int (fI 226), .ref (h 230)])), (h 230, .inl (cs 1, 25, .inr (.inl (fQ 230)))), (h 113, .inr (5, [.int (fI 223), .int (fI 227), .ref (h 231)])), (h 231, .inl (cs 1, 25, .inr (.inl (fQ 231))))]) hP hD hS hA [27, 1, 2, 3, 4, 5, 6, 7, 8, 28, 29, 30, 31, 32, 33, 34, 35] [0, 9, 10, 11, 12, 13, 14, 15, 16, 17, 18, 19, 20, 21, 22, 23, 24, 25, 26, 36, 37, 38, 39, 40, 41, 42, 43, 44, 45, 46, 47, 48, 49, 50, 51, 52, 53, 54, 55, 56, 57, 58, 59, 60, 61] rfl rfl (by decide) (by decide) (va_runV (As := [.ref (h 101), .int (nI 1)]) (rest := []) ⟨hx, hb, hml, hown, hts⟩ (a_X2_worthOf_113 l dC dI h cs H.size fI fL fA fQ fG fJ ) (cwV 2 hts gX9_chosen_X2_worthOf rfl rfl rfl (by decide +kernel) ⟨Nat.le_of_ble_eq_true rfl, Nat.le_of_ble_eq_true rfl⟩) (xpV (wc := (wD_112 h cs fI fL fA fQ fG fJ)) hP hD hK hN [27, 1, 2, 3, 4, 5, 6, 7, 8, 28, 29, 30, 31, 32, 33, 34, 35] rfl (by decide) 27 (ci := 2) rfl rfl _) rfl rfl hl.1 rfl (lv_room (Nat.le_of_ble_eq_true rfl)) dX9_chosen_79 ⟨Nat.zero_le _, Nat.zero_le _⟩) (fun r_14 u_13 H locs hw hP hD hS => ?_)
      obtain ⟨hf_15, rfl⟩ := hw
      have hP : va_P (dC, dI) vwCl (wAll h cs fI fL fA fQ fG fJ) H := xP_sub hP [0, 46, 47, 48, 49, 50, 51, 52, 53, 1, 2, 3, 4, 5, 6, 7, 8, 9, 10, 11, 12, 13, 14, 15, 16, 17, 18, 45, 54, 55, 56, 57, 58, 59, 60, 61, 19, 20, 21, 22, 23, 24, 25, 26, 27, 28, 29, 30, 31, 32, 33, 34, 35, 36, 37, 38, 39, 40, 41, 42, 43, 44] rfl
      have hD : va_D A0 (wAll h cs fI fL fA fQ fG fJ) := hD.sub [0, 46, 47, 48, 49, 50, 51, 52, 53, 1, 2, 3, 4, 5, 6, 7, 8, 9, 10, 11, 12, 13, 14, 15, 16, 17, 18, 45, 54, 55, 56, 57, 58, 59, 60, 61, 19, 20, 21, 22, 23, 24, 25, 26, 27, 28, 29, 30, 31, 32, 33, 34, 35, 36, 37, 38, 39, 40, 41, 42, 43, 44] (by decide) rfl
      obtain rfl := hf_15
      refine lv_lstore (lv' := [(7, .long (0 : Int64)), (6, .int (nI 1)), (5, .int (nI 2)), (3, .long (-1 : Int64)), (2, .int (nI 0)), (0, .ref (h 100)), (1, .int (nI 1))]) hx hb dX9_chosen_82 hl (by decide) rfl (fun ls hl => ?_)
      refine lv_lload hx hb dX9_chosen_84 (lv_at hl 0 rfl) ?_
      refine lv_lload_n hx hb dX9_chosen_86 rfl (lv_at hl 3 rfl) ?_
      refine xl_le (tgt := 97) hx hb dX9_chosen_87 dX9_chosen_88 (by decide) (fun c9 => False.elim (by revert c9; decide +kernel)) (fun _ => ?_)
      refine lv_iload hx hb dX9_chosen_91 (lv_at hl 1 rfl) ?_
      refine lv_istore_n (lv' := [(2, .int (nI 1)), (7, .long (0 : Int64)), (6, .int (nI 1)), (5, .int (nI 2)), (3, .long (-1 : Int64)), (0, .ref (h 100)), (1, .int (nI 1))]) hx hb dX9_chosen_93 rfl hl (by decide) rfl (fun ls hl => ?_)
      refine lv_lload hx hb dX9_chosen_94 (lv_at hl 1 rfl) ?_
      refine lv_lstore_n (lv' := [(3, .long (0 : Int64)), (2, .int (nI 1)), (7, .long (0 : Int64)), (6, .int (nI 1)), (5, .int (nI 2)), (0, .ref (h 100)), (1, .int (nI 1))]) hx hb dX9_chosen_96 rfl hl (by decide) rfl (fun ls hl => ?_)
      refine lv_iinc (v := nI 1) (lv' := [(5, .int (nI 1)), (3, .long (0 : Int64)), (2, .int (nI 1)), (7, .long (0 : Int64)), (6, .int (nI 1)), (0, .ref (h 100)), (1, .int (nI 1))]) hx hb dX9_chosen_97 hl (k := 4) rfl (by decide +kernel) (by decide) rfl (fun ls hl => ?_)
      refine lv_goto (tgt := 37) hx hb dX9_chosen_100 (by decide) ?_
      refine lv_iload hx hb dX9_chosen_37 (lv_at hl 0 rfl) ?_
      refine lv_iconst (v := nI 1) hx hb dX9_chosen_39 (by decide) ?_
      refine lv_icmp_lt (tgt := 103) hx hb dX9_chosen_40 (by decide) (fun c9 => False.elim (by revert c9; decide +kernel)) (fun _ => ?_)
      refine lv_iload hx hb dX9_chosen_43 (lv_at hl 0 rfl) ?_
      refine lv_aload_n hx hb dX9_chosen_45 rfl (lv_at hl 5 rfl) ?_
      refine va_get (D := (dC, dI)) (ci := 9) (v := .ref (h 101)) (C := RX9) (T := TX9) (N := 9) hx hb hts hinX9 hown hK hP 0 rfl rfl 0 (by decide) (hts (.fieldLink RX9 12 "MixedWords" "mix" "LMixedWords$Mix;") (by decide +kernel)) (fun _ h9 => h9) rfl dX9_chosen_46 ?_
      refine va_get (D := (dC, dI)) (ci := 3) (v := .int (fI 121)) (C := RX3) (T := TX3) (N := 6) hx hb hts hinX3 hown hK hP 1 rfl rfl 1 (by decide) (hts (.fieldLink RX9 106 "MixedWords$Mix" "width" "I") (by decide +kernel)) (fun _ h9 => h9) rfl dX9_chosen_49 ?_
      refine xt_i (y := nI 2) (by decide +kernel) ?_
      refine xj_i (wc := ([] : va_W)) (wr := (wAll h cs fI fL fA fQ fG fJ)) hP hD hS hA [] [0, 1, 2, 3, 4, 5, 6, 7, 8, 9, 10, 11, 12, 13, 14, 15, 16, 17, 18, 19, 20, 21, 22, 23, 24, 25, 26, 27, 28, 29, 30, 31, 32, 33, 34, 35, 36, 37, 38, 39, 40, 41, 42, 43, 44, 45, 46, 47, 48, 49, 50, 51, 52, 53, 54, 55, 56, 57, 58, 59, 60, 61] rfl rfl (by decide) (by decide) (va_runS (As := [.int (nI 1), .int (nI 2)]) (rest := []) ⟨hx, hb, hml, hown, hts⟩ (a_X9_mirror_130 l dC dI h cs H.size I L A Q G J ) (va_cwS 2 hts gX9_chosen_X9_mirror rfl rfl rfl (by decide +kernel) ⟨Nat.le_of_ble_eq_true rfl, Nat.le_of_ble_eq_true rfl⟩) (xpS (wc := ([] : va_W)) hP hD hK hN [] rfl (by decide) _) rfl rfl hl.1 rfl (lv_room (Nat.le_of_ble_eq_true rfl)) dX9_chosen_52 ⟨Nat.zero_le _, Nat.zero_le _⟩) (fun r_17 u_16 H locs hw hP hD hS => ?_)
      obtain ⟨hf_18, rfl⟩ := hw
      have hP : va_P (dC, dI) vwCl (wAll h cs fI fL fA fQ fG fJ) H := hP
      have hD : va_D A0 (wAll h cs fI fL fA fQ fG fJ) := hD
      obtain rfl := hf_18
      refine lv_istore (lv' := [(6, .int (nI 2)), (5, .int (nI 1)), (3, .long (0 : Int64)), (2, .int (nI 1)), (7, .long (0 : Int64)), (0, .ref (h 100)), (1, .int (nI 1))]) hx hb dX9_chosen_55 hl (by decide) rfl (fun ls hl => ?_)
      refine lv_iload hx hb dX9_chosen_57 (lv_at hl 0 rfl) ?_
      refine xj_i (wc := ([] : va_W)) (wr := (wAll h cs fI fL fA fQ fG fJ)) hP hD hS hA [] [0, 1, 2, 3, 4, 5, 6, 7, 8, 9, 10, 11, 12, 13, 14, 15, 16, 17, 18, 19, 20, 21, 22, 23, 24, 25, 26, 27, 28, 29, 30, 31, 32, 33, 34, 35, 36, 37, 38, 39, 40, 41, 42, 43, 44, 45, 46, 47, 48, 49, 50, 51, 52, 53, 54, 55, 56, 57, 58, 59, 60, 61] rfl rfl (by decide) (by decide) (va_runS (As := [.int (nI 2)]) (rest := []) ⟨hx, hb, hml, hown, hts⟩ (a_J6_bitCount_0f7a4_131 l dC dI h cs H.size I L A Q G J ) (va_cwS 1 hts gX9_chosen_J6_bitCount_0f7a4 rfl rfl rfl (by decide +kernel) ⟨Nat.le_of_ble_eq_true rfl, Nat.le_of_ble_eq_true rfl⟩) (xpS (wc := ([] : va_W)) hP hD hK hN [] rfl (by decide) _) rfl rfl hl.1 rfl (lv_room (Nat.le_of_ble_eq_true rfl)) dX9_chosen_59 ⟨Nat.zero_le _, Nat.zero_le _⟩) (fun r_20 u_19 H locs hw hP hD hS => ?_)
      obtain ⟨hf_21, rfl⟩ := hw
      have hP : va_P (dC, dI) vwCl (wAll h cs fI fL fA fQ fG fJ) H := hP
      have hD : va_D A0 (wAll h cs fI fL fA fQ fG fJ) := hD
      obtain rfl := hf_21
      refine lv_iload_n hx hb dX9_chosen_62 rfl (lv_at hl 6 rfl) ?_
      refine lv_icmp_eq (tgt := 69) hx hb dX9_chosen_63 (by decide) (fun _ => ?_) (fun c9 => False.elim (by revert c9; decide +kernel))
      refine lv_aload_n hx hb dX9_chosen_69 rfl (lv_at hl 5 rfl) ?_
      refine va_get (D := (dC, dI)) (ci := 9) (v := .ref (h 106)) (C := RX9) (T := TX9) (N := 9) hx hb hts hinX9 hown hK hP 0 rfl rfl 5 (by decide) (hts (.fieldLink RX9 51 "MixedWords" "least" "LMixedWords$Least;") (by decide +kernel)) (fun _ h9 => h9) rfl dX9_chosen_70 ?_
      refine lv_aload_n hx hb dX9_chosen_73 rfl (lv_at hl 5 rfl) ?_
      refine va_get (D := (dC, dI)) (ci := 9) (v := .ref (h 101)) (C := RX9) (T := TX9) (N := 9) hx hb hts hinX9 hown hK hP 0 rfl rfl 0 (by decide) (hts (.fieldLink RX9 12 "MixedWords" "mix" "LMixedWords$Mix;") (by decide +kernel)) (fun _ h9 => h9) rfl dX9_chosen_74 ?_
      refine lv_iload hx hb dX9_chosen_77 (lv_at hl 0 rfl) ?_
      refine xj_l (wc := (wD_112 h cs fI fL fA fQ fG fJ)) (wr := [(h 100, .inr (9, [.ref (h 101), .ref (h 102), .ref (h 103), .ref (h 104), .ref (h 105), .ref (h 106), .ref (h 107), .ref (h 108), .ref (h 109)])), (h 102, .inr (0, [.ref (h 101), .ref (h 140), .ref (h 141), .ref (h 142), .ref (h 143), .int (fI 144), .int (fI 145), .int (fI 146)])), (h 140, .inl (cs 0, 40, .inl (fA 140))), (h 141, .inl (cs 0, 40, .inl (fA 141))), (h 142, .inl (cs 0, 40, .inl (fA 142))), (h 143, .inl (cs 0, 40, .inl (fA 143))), (h 103, .inr (7, [.ref (h 150), .int (fI 151)])), (h 150, .inl (cs 2, 90, .inl (fA 150))), (h 104, .inr (4, [.ref (h 103), .ref (h 160), .int (fI 166), .int (fI 167), .int (fI 168), .int (fI 169)])), (h 160, .inl (cs 3, 5, .inr (.inr (.inr (.inr (fun i => if i < 5 then some (h (i + 161)) else none)))))), (h 161, .inl (cs 0, 4, .inl ((fG 1) 0))), (h 162, .inl (cs 0, 4, .inl ((fG 1) 1))), (h 163, .inl (cs 0, 4, .inl ((fG 1) 2))), (h 164, .inl (cs 0, 4, .inl ((fG 1) 3))), (h 165, .inl (cs 0, 4, .inl ((fG 1) 4))), (h 105, .inr (8, [.ref (h 101), .ref (h 170), .ref (h 171), .ref (h 172), .int (fI 173), .int (fI 174)])), (h 170, .inl (cs 0, 256, .inl (fA 170))), (h 171, .inl (cs 0, 256, .inl (fA 171))), (h 172, .inl (cs 0, 256, .inl (fA 172))), (h 107, .inr (6, [.ref (h 101), .ref (h 190), .ref (h 191), .ref (h 192)])), (h 190, .inl (cs 0, 5, .inl (fA 190))), (h 191, .inl (cs 0, 4, .inl (fA 191))), (h 192, .inl (cs 0, 4, .inl (fA 192))), (h 108, .inr (1, [.ref (h 101), .ref (h 200), .ref (h 206), .ref (h 211), .int (fI 212), .int (fI 213)])), (h 200, .inl (cs 3, 5, .inr (.inr (.inr (.inr (fun i => if i < 5 then some (h (i + 201)) else none)))))), (h 201, .inl (cs 0, 4, .inl ((fG 2) 0))), (h 202, .inl (cs 0, 4, .inl ((fG 2) 1))), (h 203, .inl (cs 0, 4, .inl ((fG 2) 2))), (h 204, .inl (cs 0, 4, .inl ((fG 2) 3))), (h 205, .inl (cs 0, 4, .inl ((fG 2) 4))), (h 206, .inl (cs 3, 4, .inr (.inr (.inr (.inr (fun i => if i < 4 then some (h (i + 207)) else none)))))), (h 207, .inl (cs 0, 4, .inl ((fG 3) 0))), (h 208, .inl (cs 0, 4, .inl ((fG 3) 1))), (h 209, .inl (cs 0, 4, .inl ((fG 3) 2))), (h 210, .inl (cs 0, 4, .inl ((fG 3) 3))), (h 211, .inl (cs 0, 5, .inl (fA 211))), (h 109, .inl (cs 5, 4, .inr (.inr (.inr (.inr (fun i => if i < 4 then some (h (i + 110)) else none)))))), (h 110, .inr (5, [.int (fI 220), .int (fI 224), .ref (h 228)])), (h 228, .inl (cs 1, 25, .inr (.inl (fQ 228)))), (h 111, .inr (5, [.int (fI 221), .int (fI 225), .ref (h 229)])), (h 229, .inl (cs 1, 25, .inr (.inl (fQ 229)))), (h 112, .inr (5, [.int (fI 222), .int (fI 226), .ref (h 230)])), (h 230, .inl (cs 1, 25, .inr (.inl (fQ 230)))), (h 113, .inr (5, [.int (fI 223), .int (fI 227), .ref (h 231)])), (h 231, .inl (cs 1, 25, .inr (.inl (fQ 231))))]) hP hD hS hA [27, 1, 2, 3, 4, 5, 6, 7, 8, 28, 29, 30, 31, 32, 33, 34, 35] [0, 9, 10, 11, 12, 13, 14, 15, 16, 17, 18, 19, 20, 21, 22, 23, 24, 25, 26, 36, 37, 38, 39, 40, 41, 42, 43, 44, 45, 46, 47, 48, 49, 50, 51, 52, 53, 54, 55, 56, 57, 58, 59, 60, 61] rfl rfl (by decide) (by decide) (va_runV (As := [.ref (h 101), .int (nI 2)]) (rest := []) ⟨hx, hb, hml, hown, hts⟩ (a_X2_worthOf_115 l dC dI h cs H.size fI fL fA fQ fG fJ ) (cwV 2 hts gX9_chosen_X2_worthOf rfl rfl rfl (by decide +kernel) ⟨Nat.le_of_ble_eq_true rfl, Nat.le_of_ble_eq_true rfl⟩) (xpV (wc := (wD_112 h cs fI fL fA fQ fG fJ)) hP hD hK hN [27, 1, 2, 3, 4, 5, 6, 7, 8, 28, 29, 30, 31, 32, 33, 34, 35] rfl (by decide) 27 (ci := 2) rfl rfl _) rfl rfl hl.1 rfl (lv_room (Nat.le_of_ble_eq_true rfl)) dX9_chosen_79 ⟨Nat.zero_le _, Nat.zero_le _⟩) (fun r_23 u_22 H locs hw hP hD hS => ?_)
      obtain ⟨hf_24, rfl⟩ := hw
      have hP : va_P (dC, dI) vwCl (wAll h cs fI fL qA_116 fQ fG fJ) H := xP_sub hP [0, 46, 47, 48, 49, 50, 51, 52, 53, 1, 2, 3, 4, 5, 6, 7, 8, 9, 10, 11, 12, 13, 14, 15, 16, 17, 18, 45, 54, 55, 56, 57, 58, 59, 60, 61, 19, 20, 21, 22, 23, 24, 25, 26, 27, 28, 29, 30, 31, 32, 33, 34, 35, 36, 37, 38, 39, 40, 41, 42, 43, 44] rfl
      have hD : va_D A0 (wAll h cs fI fL qA_116 fQ fG fJ) := hD.sub [0, 46, 47, 48, 49, 50, 51, 52, 53, 1, 2, 3, 4, 5, 6, 7, 8, 9, 10, 11, 12, 13, 14, 15, 16, 17, 18, 45, 54, 55, 56, 57, 58, 59, 60, 61, 19, 20, 21, 22, 23, 24, 25, 26, 27, 28, 29, 30, 31, 32, 33, 34, 35, 36, 37, 38, 39, 40, 41, 42, 43, 44] (by decide) rfl
      obtain rfl := hf_24
      refine lv_lstore (lv' := [(7, .long (0 : Int64)), (6, .int (nI 2)), (5, .int (nI 1)), (3, .long (0 : Int64)), (2, .int (nI 1)), (0, .ref (h 100)), (1, .int (nI 1))]) hx hb dX9_chosen_82 hl (by decide) rfl (fun ls hl => ?_)
      refine lv_lload hx hb dX9_chosen_84 (lv_at hl 0 rfl) ?_
      refine lv_lload_n hx hb dX9_chosen_86 rfl (lv_at hl 3 rfl) ?_
      refine xl_le (tgt := 97) hx hb dX9_chosen_87 dX9_chosen_88 (by decide) (fun _ => ?_) (fun c9 => False.elim (by revert c9; decide +kernel))
      refine lv_iinc (v := nI 0) (lv' := [(5, .int (nI 0)), (7, .long (0 : Int64)), (6, .int (nI 2)), (3, .long (0 : Int64)), (2, .int (nI 1)), (0, .ref (h 100)), (1, .int (nI 1))]) hx hb dX9_chosen_97 hl (k := 2) rfl (by decide +kernel) (by decide) rfl (fun ls hl => ?_)
      refine lv_goto (tgt := 37) hx hb dX9_chosen_100 (by decide) ?_
      refine lv_iload hx hb dX9_chosen_37 (lv_at hl 0 rfl) ?_
      refine lv_iconst (v := nI 1) hx hb dX9_chosen_39 (by decide) ?_
      refine lv_icmp_lt (tgt := 103) hx hb dX9_chosen_40 (by decide) (fun _ => ?_) (fun c9 => False.elim (by revert c9; decide +kernel))
      refine lv_iload_n hx hb dX9_chosen_103 rfl (lv_at hl 4 rfl) ?_
      exact xr_i (v := (nI 1)) hx hb hr hlocks hK hS dX9_chosen_104 (fI, fL, qA_116, fQ, fG, fJ) ⟨qA_116, (by decide +kernel), rfl⟩ hP hD
    · skip
      refine lv_iload_n hx hb dX9_chosen_0 rfl (lv_at hl 1 rfl) ?_
      refine lv_iconst (v := nI 1) hx hb dX9_chosen_1 (by decide) ?_
      refine lv_icmp_lt (tgt := 16) hx hb dX9_chosen_2 (by decide) (fun c9 => False.elim (by revert c9; decide +kernel)) (fun _ => ?_)
      refine lv_iload_n hx hb dX9_chosen_5 rfl (lv_at hl 1 rfl) ?_
      refine lv_aload_n hx hb dX9_chosen_6 rfl (lv_at hl 0 rfl) ?_
      refine va_get (D := (dC, dI)) (ci := 9) (v := .ref (h 101)) (C := RX9) (T := TX9) (N := 9) hx hb hts hinX9 hown hK hP 0 rfl rfl 0 (by decide) (hts (.fieldLink RX9 12 "MixedWords" "mix" "LMixedWords$Mix;") (by decide +kernel)) (fun _ h9 => h9) rfl dX9_chosen_7 ?_
      refine va_get (D := (dC, dI)) (ci := 3) (v := .int (fI 121)) (C := RX3) (T := TX3) (N := 6) hx hb hts hinX3 hown hK hP 1 rfl rfl 1 (by decide) (hts (.fieldLink RX9 106 "MixedWords$Mix" "width" "I") (by decide +kernel)) (fun _ h9 => h9) rfl dX9_chosen_10 ?_
      refine xt_i (y := nI 2) (by decide +kernel) ?_
      refine lv_icmp_le (tgt := 18) hx hb dX9_chosen_13 (by decide) (fun _ => ?_) (fun c9 => False.elim (by revert c9; decide +kernel))
      refine lv_iconst (v := nI 0) hx hb dX9_chosen_18 (by decide) ?_
      refine lv_istore_n (lv' := [(2, .int (nI 0)), (0, .ref (h 100)), (1, .int (nI 2))]) hx hb dX9_chosen_19 rfl hl (by decide) rfl (fun ls hl => ?_)
      refine lv_ldc2 (v := (-1)) hx hb hown (hts (.constantLong RX9 178 (-1)) (by decide +kernel)) dX9_chosen_20 ?_
      refine lv_lstore_n (lv' := [(3, .long (-1 : Int64)), (2, .int (nI 0)), (0, .ref (h 100)), (1, .int (nI 2))]) hx hb dX9_chosen_23 rfl hl (by decide) rfl (fun ls hl => ?_)
      refine lv_iconst (v := nI 1) hx hb dX9_chosen_24 (by decide) ?_
      refine lv_aload_n hx hb dX9_chosen_25 rfl (lv_at hl 2 rfl) ?_
      refine va_get (D := (dC, dI)) (ci := 9) (v := .ref (h 101)) (C := RX9) (T := TX9) (N := 9) hx hb hts hinX9 hown hK hP 0 rfl rfl 0 (by decide) (hts (.fieldLink RX9 12 "MixedWords" "mix" "LMixedWords$Mix;") (by decide +kernel)) (fun _ h9 => h9) rfl dX9_chosen_26 ?_
      refine va_get (D := (dC, dI)) (ci := 3) (v := .int (fI 121)) (C := RX3) (T := TX3) (N := 6) hx hb hts hinX3 hown hK hP 1 rfl rfl 1 (by decide) (hts (.fieldLink RX9 106 "MixedWords$Mix" "width" "I") (by decide +kernel)) (fun _ h9 => h9) rfl dX9_chosen_29 ?_
      refine xt_i (y := nI 2) (by decide +kernel) ?_
      refine lv_ishl hx hb dX9_chosen_32 ?_
      refine xt_i (y := nI 4) (by decide +kernel) ?_
      refine lv_iconst (v := nI 1) hx hb dX9_chosen_33 (by decide) ?_
      refine lv_isub hx hb dX9_chosen_34 ?_
      refine xt_i (y := nI 3) (by decide +kernel) ?_
      refine lv_istore (lv' := [(5, .int (nI 3)), (3, .long (-1 : Int64)), (2, .int (nI 0)), (0, .ref (h 100)), (1, .int (nI 2))]) hx hb dX9_chosen_35 hl (by decide) rfl (fun ls hl => ?_)
      refine lv_iload hx hb dX9_chosen_37 (lv_at hl 0 rfl) ?_
      refine lv_iconst (v := nI 1) hx hb dX9_chosen_39 (by decide) ?_
      refine lv_icmp_lt (tgt := 103) hx hb dX9_chosen_40 (by decide) (fun c9 => False.elim (by revert c9; decide +kernel)) (fun _ => ?_)
      refine lv_iload hx hb dX9_chosen_43 (lv_at hl 0 rfl) ?_
      refine lv_aload_n hx hb dX9_chosen_45 rfl (lv_at hl 3 rfl) ?_
      refine va_get (D := (dC, dI)) (ci := 9) (v := .ref (h 101)) (C := RX9) (T := TX9) (N := 9) hx hb hts hinX9 hown hK hP 0 rfl rfl 0 (by decide) (hts (.fieldLink RX9 12 "MixedWords" "mix" "LMixedWords$Mix;") (by decide +kernel)) (fun _ h9 => h9) rfl dX9_chosen_46 ?_
      refine va_get (D := (dC, dI)) (ci := 3) (v := .int (fI 121)) (C := RX3) (T := TX3) (N := 6) hx hb hts hinX3 hown hK hP 1 rfl rfl 1 (by decide) (hts (.fieldLink RX9 106 "MixedWords$Mix" "width" "I") (by decide +kernel)) (fun _ h9 => h9) rfl dX9_chosen_49 ?_
      refine xt_i (y := nI 2) (by decide +kernel) ?_
      refine xj_i (wc := ([] : va_W)) (wr := (wAll h cs fI fL fA fQ fG fJ)) hP hD hS hA [] [0, 1, 2, 3, 4, 5, 6, 7, 8, 9, 10, 11, 12, 13, 14, 15, 16, 17, 18, 19, 20, 21, 22, 23, 24, 25, 26, 27, 28, 29, 30, 31, 32, 33, 34, 35, 36, 37, 38, 39, 40, 41, 42, 43, 44, 45, 46, 47, 48, 49, 50, 51, 52, 53, 54, 55, 56, 57, 58, 59, 60, 61] rfl rfl (by decide) (by decide) (va_runS (As := [.int (nI 3), .int (nI 2)]) (rest := []) ⟨hx, hb, hml, hown, hts⟩ (a_X9_mirror_126 l dC dI h cs H.size I L A Q G J ) (va_cwS 2 hts gX9_chosen_X9_mirror rfl rfl rfl (by decide +kernel) ⟨Nat.le_of_ble_eq_true rfl, Nat.le_of_ble_eq_true rfl⟩) (xpS (wc := ([] : va_W)) hP hD hK hN [] rfl (by decide) _) rfl rfl hl.1 rfl (lv_room (Nat.le_of_ble_eq_true rfl)) dX9_chosen_52 ⟨Nat.zero_le _, Nat.zero_le _⟩) (fun r_26 u_25 H locs hw hP hD hS => ?_)
      obtain ⟨hf_27, rfl⟩ := hw
      have hP : va_P (dC, dI) vwCl (wAll h cs fI fL fA fQ fG fJ) H := hP
      have hD : va_D A0 (wAll h cs fI fL fA fQ fG fJ) := hD
      obtain rfl := hf_27
      refine lv_istore (lv' := [(6, .int (nI 3)), (5, .int (nI 3)), (3, .long (-1 : Int64)), (2, .int (nI 0)), (0, .ref (h 100)), (1, .int (nI 2))]) hx hb dX9_chosen_55 hl (by decide) rfl (fun ls hl => ?_)
      refine lv_iload hx hb dX9_chosen_57 (lv_at hl 0 rfl) ?_
      refine xj_i (wc := ([] : va_W)) (wr := (wAll h cs fI fL fA fQ fG fJ)) hP hD hS hA [] [0, 1, 2, 3, 4, 5, 6, 7, 8, 9, 10, 11, 12, 13, 14, 15, 16, 17, 18, 19, 20, 21, 22, 23, 24, 25, 26, 27, 28, 29, 30, 31, 32, 33, 34, 35, 36, 37, 38, 39, 40, 41, 42, 43, 44, 45, 46, 47, 48, 49, 50, 51, 52, 53, 54, 55, 56, 57, 58, 59, 60, 61] rfl rfl (by decide) (by decide) (va_runS (As := [.int (nI 3)]) (rest := []) ⟨hx, hb, hml, hown, hts⟩ (a_J6_bitCount_0f7a4_127 l dC dI h cs H.size I L A Q G J ) (va_cwS 1 hts gX9_chosen_J6_bitCount_0f7a4 rfl rfl rfl (by decide +kernel) ⟨Nat.le_of_ble_eq_true rfl, Nat.le_of_ble_eq_true rfl⟩) (xpS (wc := ([] : va_W)) hP hD hK hN [] rfl (by decide) _) rfl rfl hl.1 rfl (lv_room (Nat.le_of_ble_eq_true rfl)) dX9_chosen_59 ⟨Nat.zero_le _, Nat.zero_le _⟩) (fun r_29 u_28 H locs hw hP hD hS => ?_)
      obtain ⟨hf_30, rfl⟩ := hw
      have hP : va_P (dC, dI) vwCl (wAll h cs fI fL fA fQ fG fJ) H := hP
      have hD : va_D A0 (wAll h cs fI fL fA fQ fG fJ) := hD
      obtain rfl := hf_30
      refine lv_iload_n hx hb dX9_chosen_62 rfl (lv_at hl 5 rfl) ?_
      refine lv_icmp_eq (tgt := 69) hx hb dX9_chosen_63 (by decide) (fun _ => ?_) (fun c9 => False.elim (by revert c9; decide +kernel))
      refine lv_aload_n hx hb dX9_chosen_69 rfl (lv_at hl 4 rfl) ?_
      refine va_get (D := (dC, dI)) (ci := 9) (v := .ref (h 106)) (C := RX9) (T := TX9) (N := 9) hx hb hts hinX9 hown hK hP 0 rfl rfl 5 (by decide) (hts (.fieldLink RX9 51 "MixedWords" "least" "LMixedWords$Least;") (by decide +kernel)) (fun _ h9 => h9) rfl dX9_chosen_70 ?_
      refine lv_aload_n hx hb dX9_chosen_73 rfl (lv_at hl 4 rfl) ?_
      refine va_get (D := (dC, dI)) (ci := 9) (v := .ref (h 101)) (C := RX9) (T := TX9) (N := 9) hx hb hts hinX9 hown hK hP 0 rfl rfl 0 (by decide) (hts (.fieldLink RX9 12 "MixedWords" "mix" "LMixedWords$Mix;") (by decide +kernel)) (fun _ h9 => h9) rfl dX9_chosen_74 ?_
      refine lv_iload hx hb dX9_chosen_77 (lv_at hl 0 rfl) ?_
      refine xj_l (wc := (wD_112 h cs fI fL fA fQ fG fJ)) (wr := [(h 100, .inr (9, [.ref (h 101), .ref (h 102), .ref (h 103), .ref (h 104), .ref (h 105), .ref (h 106), .ref (h 107), .ref (h 108), .ref (h 109)])), (h 102, .inr (0, [.ref (h 101), .ref (h 140), .ref (h 141), .ref (h 142), .ref (h 143), .int (fI 144), .int (fI 145), .int (fI 146)])), (h 140, .inl (cs 0, 40, .inl (fA 140))), (h 141, .inl (cs 0, 40, .inl (fA 141))), (h 142, .inl (cs 0, 40, .inl (fA 142))), (h 143, .inl (cs 0, 40, .inl (fA 143))), (h 103, .inr (7, [.ref (h 150), .int (fI 151)])), (h 150, .inl (cs 2, 90, .inl (fA 150))), (h 104, .inr (4, [.ref (h 103), .ref (h 160), .int (fI 166), .int (fI 167), .int (fI 168), .int (fI 169)])), (h 160, .inl (cs 3, 5, .inr (.inr (.inr (.inr (fun i => if i < 5 then some (h (i + 161)) else none)))))), (h 161, .inl (cs 0, 4, .inl ((fG 1) 0))), (h 162, .inl (cs 0, 4, .inl ((fG 1) 1))), (h 163, .inl (cs 0, 4, .inl ((fG 1) 2))), (h 164, .inl (cs 0, 4, .inl ((fG 1) 3))), (h 165, .inl (cs 0, 4, .inl ((fG 1) 4))), (h 105, .inr (8, [.ref (h 101), .ref (h 170), .ref (h 171), .ref (h 172), .int (fI 173), .int (fI 174)])), (h 170, .inl (cs 0, 256, .inl (fA 170))), (h 171, .inl (cs 0, 256, .inl (fA 171))), (h 172, .inl (cs 0, 256, .inl (fA 172))), (h 107, .inr (6, [.ref (h 101), .ref (h 190), .ref (h 191), .ref (h 192)])), (h 190, .inl (cs 0, 5, .inl (fA 190))), (h 191, .inl (cs 0, 4, .inl (fA 191))), (h 192, .inl (cs 0, 4, .inl (fA 192))), (h 108, .inr (1, [.ref (h 101), .ref (h 200), .ref (h 206), .ref (h 211), .int (fI 212), .int (fI 213)])), (h 200, .inl (cs 3, 5, .inr (.inr (.inr (.inr (fun i => if i < 5 then some (h (i + 201)) else none)))))), (h 201, .inl (cs 0, 4, .inl ((fG 2) 0))), (h 202, .inl (cs 0, 4, .inl ((fG 2) 1))), (h 203, .inl (cs 0, 4, .inl ((fG 2) 2))), (h 204, .inl (cs 0, 4, .inl ((fG 2) 3))), (h 205, .inl (cs 0, 4, .inl ((fG 2) 4))), (h 206, .inl (cs 3, 4, .inr (.inr (.inr (.inr (fun i => if i < 4 then some (h (i + 207)) else none)))))), (h 207, .inl (cs 0, 4, .inl ((fG 3) 0))), (h 208, .inl (cs 0, 4, .inl ((fG 3) 1))), (h 209, .inl (cs 0, 4, .inl ((fG 3) 2))), (h 210, .inl (cs 0, 4, .inl ((fG 3) 3))), (h 211, .inl (cs 0, 5, .inl (fA 211))), (h 109, .inl (cs 5, 4, .inr (.inr (.inr (.inr (fun i => if i < 4 then some (h (i + 110)) else none)))))), (h 110, .inr (5, [.int (fI 220), .int (fI 224), .ref (h 228)])), (h 228, .inl (cs 1, 25, .inr (.inl (fQ 228)))), (h 111, .inr (5, [.int (fI 221), .int (fI 225), .ref (h 229)])), (h 229, .inl (cs 1, 25, .inr (.inl (fQ 229)))), (h 112, .inr (5, [.int (fI 222), .int (fI 226), .ref (h 230)])), (h 230, .inl (cs 1, 25, .inr (.inl (fQ 230)))), (h 113, .inr (5, [.int (fI 223), .int (fI 227), .ref (h 231)])), (h 231, .inl (cs 1, 25, .inr (.inl (fQ 231))))]) hP hD hS hA [27, 1, 2, 3, 4, 5, 6, 7, 8, 28, 29, 30, 31, 32, 33, 34, 35] [0, 9, 10, 11, 12, 13, 14, 15, 16, 17, 18, 19, 20, 21, 22, 23, 24, 25, 26, 36, 37, 38, 39, 40, 41, 42, 43, 44, 45, 46, 47, 48, 49, 50, 51, 52, 53, 54, 55, 56, 57, 58, 59, 60, 61] rfl rfl (by decide) (by decide) (va_runV (As := [.ref (h 101), .int (nI 3)]) (rest := []) ⟨hx, hb, hml, hown, hts⟩ (a_X2_worthOf_119 l dC dI h cs H.size fI fL fA fQ fG fJ ) (cwV 2 hts gX9_chosen_X2_worthOf rfl rfl rfl (by decide +kernel) ⟨Nat.le_of_ble_eq_true rfl, Nat.le_of_ble_eq_true rfl⟩) (xpV (wc := (wD_112 h cs fI fL fA fQ fG fJ)) hP hD hK hN [27, 1, 2, 3, 4, 5, 6, 7, 8, 28, 29, 30, 31, 32, 33, 34, 35] rfl (by decide) 27 (ci := 2) rfl rfl _) rfl rfl hl.1 rfl (lv_room (Nat.le_of_ble_eq_true rfl)) dX9_chosen_79 ⟨Nat.zero_le _, Nat.zero_le _⟩) (fun r_32 u_31 H locs hw hP hD hS => ?_)
      obtain ⟨hf_33, rfl⟩ := hw
      have hP : va_P (dC, dI) vwCl (wAll h cs fI fL qA_120 fQ fG fJ) H := xP_sub hP [0, 46, 47, 48, 49, 50, 51, 52, 53, 1, 2, 3, 4, 5, 6, 7, 8, 9, 10, 11, 12, 13, 14, 15, 16, 17, 18, 45, 54, 55, 56, 57, 58, 59, 60, 61, 19, 20, 21, 22, 23, 24, 25, 26, 27, 28, 29, 30, 31, 32, 33, 34, 35, 36, 37, 38, 39, 40, 41, 42, 43, 44] rfl
      have hD : va_D A0 (wAll h cs fI fL qA_120 fQ fG fJ) := hD.sub [0, 46, 47, 48, 49, 50, 51, 52, 53, 1, 2, 3, 4, 5, 6, 7, 8, 9, 10, 11, 12, 13, 14, 15, 16, 17, 18, 45, 54, 55, 56, 57, 58, 59, 60, 61, 19, 20, 21, 22, 23, 24, 25, 26, 27, 28, 29, 30, 31, 32, 33, 34, 35, 36, 37, 38, 39, 40, 41, 42, 43, 44] (by decide) rfl
      obtain rfl := hf_33
      refine lv_lstore (lv' := [(7, .long (0 : Int64)), (6, .int (nI 3)), (5, .int (nI 3)), (3, .long (-1 : Int64)), (2, .int (nI 0)), (0, .ref (h 100)), (1, .int (nI 2))]) hx hb dX9_chosen_82 hl (by decide) rfl (fun ls hl => ?_)
      refine lv_lload hx hb dX9_chosen_84 (lv_at hl 0 rfl) ?_
      refine lv_lload_n hx hb dX9_chosen_86 rfl (lv_at hl 3 rfl) ?_
      refine xl_le (tgt := 97) hx hb dX9_chosen_87 dX9_chosen_88 (by decide) (fun c9 => False.elim (by revert c9; decide +kernel)) (fun _ => ?_)
      refine lv_iload hx hb dX9_chosen_91 (lv_at hl 1 rfl) ?_
      refine lv_istore_n (lv' := [(2, .int (nI 3)), (7, .long (0 : Int64)), (6, .int (nI 3)), (5, .int (nI 3)), (3, .long (-1 : Int64)), (0, .ref (h 100)), (1, .int (nI 2))]) hx hb dX9_chosen_93 rfl hl (by decide) rfl (fun ls hl => ?_)
      refine lv_lload hx hb dX9_chosen_94 (lv_at hl 1 rfl) ?_
      refine lv_lstore_n (lv' := [(3, .long (0 : Int64)), (2, .int (nI 3)), (7, .long (0 : Int64)), (6, .int (nI 3)), (5, .int (nI 3)), (0, .ref (h 100)), (1, .int (nI 2))]) hx hb dX9_chosen_96 rfl hl (by decide) rfl (fun ls hl => ?_)
      refine lv_iinc (v := nI 2) (lv' := [(5, .int (nI 2)), (3, .long (0 : Int64)), (2, .int (nI 3)), (7, .long (0 : Int64)), (6, .int (nI 3)), (0, .ref (h 100)), (1, .int (nI 2))]) hx hb dX9_chosen_97 hl (k := 4) rfl (by decide +kernel) (by decide) rfl (fun ls hl => ?_)
      refine lv_goto (tgt := 37) hx hb dX9_chosen_100 (by decide) ?_
      refine lv_iload hx hb dX9_chosen_37 (lv_at hl 0 rfl) ?_
      refine lv_iconst (v := nI 1) hx hb dX9_chosen_39 (by decide) ?_
      refine lv_icmp_lt (tgt := 103) hx hb dX9_chosen_40 (by decide) (fun c9 => False.elim (by revert c9; decide +kernel)) (fun _ => ?_)
      refine lv_iload hx hb dX9_chosen_43 (lv_at hl 0 rfl) ?_
      refine lv_aload_n hx hb dX9_chosen_45 rfl (lv_at hl 5 rfl) ?_
      refine va_get (D := (dC, dI)) (ci := 9) (v := .ref (h 101)) (C := RX9) (T := TX9) (N := 9) hx hb hts hinX9 hown hK hP 0 rfl rfl 0 (by decide) (hts (.fieldLink RX9 12 "MixedWords" "mix" "LMixedWords$Mix;") (by decide +kernel)) (fun _ h9 => h9) rfl dX9_chosen_46 ?_
      refine va_get (D := (dC, dI)) (ci := 3) (v := .int (fI 121)) (C := RX3) (T := TX3) (N := 6) hx hb hts hinX3 hown hK hP 1 rfl rfl 1 (by decide) (hts (.fieldLink RX9 106 "MixedWords$Mix" "width" "I") (by decide +kernel)) (fun _ h9 => h9) rfl dX9_chosen_49 ?_
      refine xt_i (y := nI 2) (by decide +kernel) ?_
      refine xj_i (wc := ([] : va_W)) (wr := (wAll h cs fI fL qA_120 fQ fG fJ)) hP hD hS hA [] [0, 1, 2, 3, 4, 5, 6, 7, 8, 9, 10, 11, 12, 13, 14, 15, 16, 17, 18, 19, 20, 21, 22, 23, 24, 25, 26, 27, 28, 29, 30, 31, 32, 33, 34, 35, 36, 37, 38, 39, 40, 41, 42, 43, 44, 45, 46, 47, 48, 49, 50, 51, 52, 53, 54, 55, 56, 57, 58, 59, 60, 61] rfl rfl (by decide) (by decide) (va_runS (As := [.int (nI 2), .int (nI 2)]) (rest := []) ⟨hx, hb, hml, hown, hts⟩ (a_X9_mirror_128 l dC dI h cs H.size I L A Q G J ) (va_cwS 2 hts gX9_chosen_X9_mirror rfl rfl rfl (by decide +kernel) ⟨Nat.le_of_ble_eq_true rfl, Nat.le_of_ble_eq_true rfl⟩) (xpS (wc := ([] : va_W)) hP hD hK hN [] rfl (by decide) _) rfl rfl hl.1 rfl (lv_room (Nat.le_of_ble_eq_true rfl)) dX9_chosen_52 ⟨Nat.zero_le _, Nat.zero_le _⟩) (fun r_35 u_34 H locs hw hP hD hS => ?_)
      obtain ⟨hf_36, rfl⟩ := hw
      have hP : va_P (dC, dI) vwCl (wAll h cs fI fL qA_120 fQ fG fJ) H := hP
      have hD : va_D A0 (wAll h cs fI fL qA_120 fQ fG fJ) := hD
      obtain rfl := hf_36
      refine lv_istore (lv' := [(6, .int (nI 1)), (5, .int (nI 2)), (3, .long (0 : Int64)), (2, .int (nI 3)), (7, .long (0 : Int64)), (0, .ref (h 100)), (1, .int (nI 2))]) hx hb dX9_chosen_55 hl (by decide) rfl (fun ls hl => ?_)
      refine lv_iload hx hb dX9_chosen_57 (lv_at hl 0 rfl) ?_
      refine xj_i (wc := ([] : va_W)) (wr := (wAll h cs fI fL qA_120 fQ fG fJ)) hP hD hS hA [] [0, 1, 2, 3, 4, 5, 6, 7, 8, 9, 10, 11, 12, 13, 14, 15, 16, 17, 18, 19, 20, 21, 22, 23, 24, 25, 26, 27, 28, 29, 30, 31, 32, 33, 34, 35, 36, 37, 38, 39, 40, 41, 42, 43, 44, 45, 46, 47, 48, 49, 50, 51, 52, 53, 54, 55, 56, 57, 58, 59, 60, 61] rfl rfl (by decide) (by decide) (va_runS (As := [.int (nI 1)]) (rest := []) ⟨hx, hb, hml, hown, hts⟩ (a_J6_bitCount_0f7a4_129 l dC dI h cs H.size I L A Q G J ) (va_cwS 1 hts gX9_chosen_J6_bitCount_0f7a4 rfl rfl rfl (by decide +kernel) ⟨Nat.le_of_ble_eq_true rfl, Nat.le_of_ble_eq_true rfl⟩) (xpS (wc := ([] : va_W)) hP hD hK hN [] rfl (by decide) _) rfl rfl hl.1 rfl (lv_room (Nat.le_of_ble_eq_true rfl)) dX9_chosen_59 ⟨Nat.zero_le _, Nat.zero_le _⟩) (fun r_38 u_37 H locs hw hP hD hS => ?_)
      obtain ⟨hf_39, rfl⟩ := hw
      have hP : va_P (dC, dI) vwCl (wAll h cs fI fL qA_120 fQ fG fJ) H := hP
      have hD : va_D A0 (wAll h cs fI fL qA_120 fQ fG fJ) := hD
      obtain rfl := hf_39
      refine lv_iload_n hx hb dX9_chosen_62 rfl (lv_at hl 6 rfl) ?_
      refine lv_icmp_eq (tgt := 69) hx hb dX9_chosen_63 (by decide) (fun c9 => False.elim (by revert c9; decide +kernel)) (fun _ => ?_)
      refine lv_goto (tgt := 97) hx hb dX9_chosen_66 (by decide) ?_
      refine lv_iinc (v := nI 1) (lv' := [(5, .int (nI 1)), (6, .int (nI 1)), (3, .long (0 : Int64)), (2, .int (nI 3)), (7, .long (0 : Int64)), (0, .ref (h 100)), (1, .int (nI 2))]) hx hb dX9_chosen_97 hl (k := 1) rfl (by decide +kernel) (by decide) rfl (fun ls hl => ?_)
      refine lv_goto (tgt := 37) hx hb dX9_chosen_100 (by decide) ?_
      refine lv_iload hx hb dX9_chosen_37 (lv_at hl 0 rfl) ?_
      refine lv_iconst (v := nI 1) hx hb dX9_chosen_39 (by decide) ?_
      refine lv_icmp_lt (tgt := 103) hx hb dX9_chosen_40 (by decide) (fun c9 => False.elim (by revert c9; decide +kernel)) (fun _ => ?_)
      refine lv_iload hx hb dX9_chosen_43 (lv_at hl 0 rfl) ?_
      refine lv_aload_n hx hb dX9_chosen_45 rfl (lv_at hl 5 rfl) ?_
      refine va_get (D := (dC, dI)) (ci := 9) (v := .ref (h 101)) (C := RX9) (T := TX9) (N := 9) hx hb hts hinX9 hown hK hP 0 rfl rfl 0 (by decide) (hts (.fieldLink RX9 12 "MixedWords" "mix" "LMixedWords$Mix;") (by decide +kernel)) (fun _ h9 => h9) rfl dX9_chosen_46 ?_
      refine va_get (D := (dC, dI)) (ci := 3) (v := .int (fI 121)) (C := RX3) (T := TX3) (N := 6) hx hb hts hinX3 hown hK hP 1 rfl rfl 1 (by decide) (hts (.fieldLink RX9 106 "MixedWords$Mix" "width" "I") (by decide +kernel)) (fun _ h9 => h9) rfl dX9_chosen_49 ?_
      refine xt_i (y := nI 2) (by decide +kernel) ?_
      refine xj_i (wc := ([] : va_W)) (wr := (wAll h cs fI fL qA_120 fQ fG fJ)) hP hD hS hA [] [0, 1, 2, 3, 4, 5, 6, 7, 8, 9, 10, 11, 12, 13, 14, 15, 16, 17, 18, 19, 20, 21, 22, 23, 24, 25, 26, 27, 28, 29, 30, 31, 32, 33, 34, 35, 36, 37, 38, 39, 40, 41, 42, 43, 44, 45, 46, 47, 48, 49, 50, 51, 52, 53, 54, 55, 56, 57, 58, 59, 60, 61] rfl rfl (by decide) (by decide) (va_runS (As := [.int (nI 1), .int (nI 2)]) (rest := []) ⟨hx, hb, hml, hown, hts⟩ (a_X9_mirror_130 l dC dI h cs H.size I L A Q G J ) (va_cwS 2 hts gX9_chosen_X9_mirror rfl rfl rfl (by decide +kernel) ⟨Nat.le_of_ble_eq_true rfl, Nat.le_of_ble_eq_true rfl⟩) (xpS (wc := ([] : va_W)) hP hD hK hN [] rfl (by decide) _) rfl rfl hl.1 rfl (lv_room (Nat.le_of_ble_eq_true rfl)) dX9_chosen_52 ⟨Nat.zero_le _, Nat.zero_le _⟩) (fun r_41 u_40 H locs hw hP hD hS => ?_)
      obtain ⟨hf_42, rfl⟩ := hw
      have hP : va_P (dC, dI) vwCl (wAll h cs fI fL qA_120 fQ fG fJ) H := hP
      have hD : va_D A0 (wAll h cs fI fL qA_120 fQ fG fJ) := hD
      obtain rfl := hf_42
      refine lv_istore (lv' := [(6, .int (nI 2)), (5, .int (nI 1)), (3, .long (0 : Int64)), (2, .int (nI 3)), (7, .long (0 : Int64)), (0, .ref (h 100)), (1, .int (nI 2))]) hx hb dX9_chosen_55 hl (by decide) rfl (fun ls hl => ?_)
      refine lv_iload hx hb dX9_chosen_57 (lv_at hl 0 rfl) ?_
      refine xj_i (wc := ([] : va_W)) (wr := (wAll h cs fI fL qA_120 fQ fG fJ)) hP hD hS hA [] [0, 1, 2, 3, 4, 5, 6, 7, 8, 9, 10, 11, 12, 13, 14, 15, 16, 17, 18, 19, 20, 21, 22, 23, 24, 25, 26, 27, 28, 29, 30, 31, 32, 33, 34, 35, 36, 37, 38, 39, 40, 41, 42, 43, 44, 45, 46, 47, 48, 49, 50, 51, 52, 53, 54, 55, 56, 57, 58, 59, 60, 61] rfl rfl (by decide) (by decide) (va_runS (As := [.int (nI 2)]) (rest := []) ⟨hx, hb, hml, hown, hts⟩ (a_J6_bitCount_0f7a4_131 l dC dI h cs H.size I L A Q G J ) (va_cwS 1 hts gX9_chosen_J6_bitCount_0f7a4 rfl rfl rfl (by decide +kernel) ⟨Nat.le_of_ble_eq_true rfl, Nat.le_of_ble_eq_true rfl⟩) (xpS (wc := ([] : va_W)) hP hD hK hN [] rfl (by decide) _) rfl rfl hl.1 rfl (lv_room (Nat.le_of_ble_eq_true rfl)) dX9_chosen_59 ⟨Nat.zero_le _, Nat.zero_le _⟩) (fun r_44 u_43 H locs hw hP hD hS => ?_)
      obtain ⟨hf_45, rfl⟩ := hw
      have hP : va_P (dC, dI) vwCl (wAll h cs fI fL qA_120 fQ fG fJ) H := hP
      have hD : va_D A0 (wAll h cs fI fL qA_120 fQ fG fJ) := hD
      obtain rfl := hf_45
      refine lv_iload_n hx hb dX9_chosen_62 rfl (lv_at hl 6 rfl) ?_
      refine lv_icmp_eq (tgt := 69) hx hb dX9_chosen_63 (by decide) (fun c9 => False.elim (by revert c9; decide +kernel)) (fun _ => ?_)
      refine lv_goto (tgt := 97) hx hb dX9_chosen_66 (by decide) ?_
      refine lv_iinc (v := nI 0) (lv' := [(5, .int (nI 0)), (6, .int (nI 2)), (3, .long (0 : Int64)), (2, .int (nI 3)), (7, .long (0 : Int64)), (0, .ref (h 100)), (1, .int (nI 2))]) hx hb dX9_chosen_97 hl (k := 1) rfl (by decide +kernel) (by decide) rfl (fun ls hl => ?_)
      refine lv_goto (tgt := 37) hx hb dX9_chosen_100 (by decide) ?_
      refine lv_iload hx hb dX9_chosen_37 (lv_at hl 0 rfl) ?_
      refine lv_iconst (v := nI 1) hx hb dX9_chosen_39 (by decide) ?_
      refine lv_icmp_lt (tgt := 103) hx hb dX9_chosen_40 (by decide) (fun _ => ?_) (fun c9 => False.elim (by revert c9; decide +kernel))
      refine lv_iload_n hx hb dX9_chosen_103 rfl (lv_at hl 3 rfl) ?_
      exact xr_i (v := (nI 3)) hx hb hr hlocks hK hS dX9_chosen_104 (fI, fL, qA_120, fQ, fG, fJ) ⟨qA_120, (by decide +kernel), rfl⟩ hP hD
  · skip
    refine lv_iload_n hx hb dX9_chosen_0 rfl (lv_at hl 1 rfl) ?_
    refine lv_iconst (v := nI 1) hx hb dX9_chosen_1 (by decide) ?_
    refine lv_icmp_lt (tgt := 16) hx hb dX9_chosen_2 (by decide) (fun c_2_45 => ?_) (fun c_2_45 => ?_)
    · skip
      have t_t_46 : x.toInt < 1 := zc_tlt (K := nI 1) (by decide +kernel) c_2_45
      refine lv_iconst (v := (-1)) hx hb dX9_chosen_16 (by decide) ?_
      exact xr_i (v := (-1)) hx hb hr hlocks hK hS dX9_chosen_17 (fI, fL, fA, fQ, fG, fJ) ⟨fA, (by unfold an_chosen; rw [if_neg (by omega)]), rfl⟩ hP hD
    · skip
      have t_f_47 : 1 ≤ x.toInt := zc_flt (K := nI 1) (by decide +kernel) c_2_45
      refine lv_iload_n hx hb dX9_chosen_5 rfl (lv_at hl 1 rfl) ?_
      refine lv_aload_n hx hb dX9_chosen_6 rfl (lv_at hl 0 rfl) ?_
      refine va_get (D := (dC, dI)) (ci := 9) (v := .ref (h 101)) (C := RX9) (T := TX9) (N := 9) hx hb hts hinX9 hown hK hP 0 rfl rfl 0 (by decide) (hts (.fieldLink RX9 12 "MixedWords" "mix" "LMixedWords$Mix;") (by decide +kernel)) (fun _ h9 => h9) rfl dX9_chosen_7 ?_
      refine va_get (D := (dC, dI)) (ci := 3) (v := .int (fI 121)) (C := RX3) (T := TX3) (N := 6) hx hb hts hinX3 hown hK hP 1 rfl rfl 1 (by decide) (hts (.fieldLink RX9 106 "MixedWords$Mix" "width" "I") (by decide +kernel)) (fun _ h9 => h9) rfl dX9_chosen_10 ?_
      refine xt_i (y := nI 2) (by decide +kernel) ?_
      refine lv_icmp_le (tgt := 18) hx hb dX9_chosen_13 (by decide) (fun c_13_48 => ?_) (fun c_13_48 => ?_)
      · skip
        have t_t_49 : x.toInt ≤ 2 := zc_tle (K := nI 2) (by decide +kernel) c_13_48
        exact absurd t_t_49 (by omega)
      · skip
        have t_f_50 : 2 < x.toInt := zc_fle (K := nI 2) (by decide +kernel) c_13_48
        refine lv_iconst (v := (-1)) hx hb dX9_chosen_16 (by decide) ?_
        exact xr_i (v := (-1)) hx hb hr hlocks hK hS dX9_chosen_17 (fI, fL, fA, fQ, fG, fJ) ⟨fA, (by unfold an_chosen; rw [if_neg (by omega)]), rfl⟩ hP hD
