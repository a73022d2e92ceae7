def wD_9 (h : Nat → Nat) (cs : Nat → ClassId) (I : Nat → Int32) (L : Nat → Int64) (A : Nat → Nat → Int32) (Q : Nat → Nat → Int64) (G : Nat → Nat → Nat → Int32) (J : Nat → Nat → Nat → Int64) : va_W := [(h 106, .inr (2, [.ref (h 180), .ref (h 185), .ref (h 186), .ref (h 187), .long (L 188)])), (h 130, .inl (cs 3, 5, .inr (.inr (.inr (.inr (fun i => if i < 5 then some (h (i + 131)) else none)))))), (h 131, .inl (cs 0, 4, .inl ((G 0) 0))), (h 132, .inl (cs 0, 4, .inl ((G 0) 1))), (h 133, .inl (cs 0, 4, .inl ((G 0) 2))), (h 134, .inl (cs 0, 4, .inl ((G 0) 3))), (h 135, .inl (cs 0, 4, .inl ((G 0) 4))), (h 136, .inl (cs 0, 5, .inl (A 136))), (h 180, .inl (cs 4, 4, .inr (.inr (.inr (.inr (fun i => if i < 4 then some (h (i + 181)) else none)))))), (h 181, .inl (cs 1, 4, .inr (.inl ((J 0) 0)))), (h 182, .inl (cs 1, 4, .inr (.inl ((J 0) 1)))), (h 183, .inl (cs 1, 4, .inr (.inl ((J 0) 2)))), (h 184, .inl (cs 1, 4, .inr (.inl ((J 0) 3)))), (h 185, .inl (cs 1, 4, .inr (.inl (Q 185)))), (h 186, .inl (cs 0, 4, .inl (A 186))), (h 187, .inl (cs 1, 4, .inr (.inl (Q 187))))]
def wD_11 (h : Nat → Nat) (cs : Nat → ClassId) (I : Nat → Int32) (L : Nat → Int64) (A : Nat → Nat → Int32) (Q : Nat → Nat → Int64) (G : Nat → Nat → Nat → Int32) (J : Nat → Nat → Nat → Int64) : va_W := [(h 130, .inl (cs 3, 5, .inr (.inr (.inr (.inr (fun i => if i < 5 then some (h (i + 131)) else none)))))), (h 131, .inl (cs 0, 4, .inl ((G 0) 0))), (h 132, .inl (cs 0, 4, .inl ((G 0) 1))), (h 133, .inl (cs 0, 4, .inl ((G 0) 2))), (h 134, .inl (cs 0, 4, .inl ((G 0) 3))), (h 135, .inl (cs 0, 4, .inl ((G 0) 4)))]
set_option maxHeartbeats 4000000 in
set_option maxRecDepth 100000 in
theorem a_X9_product_12 (l : Launch) (dC : Nat → ClassId) (dI : Nat → Nat → Nat) (h : Nat → Nat) (cs : Nat → ClassId) (sz : Nat) (I : Nat → Int32) (L : Nat → Int64) (A : Nat → Nat → Int32) (Q : Nat → Nat → Int64) (G : Nat → Nat → Nat → Int32) (J : Nat → Nat → Nat → Int64) : Met l yX9_product wsX9_product ({ frames := 0, cells := 0, slots := 0, locals := 0 }) (va_Pc [.ref (h 130), .int (nI 2), .int (nI 0), .int (nI 0)] (xPre (dC, dI) (wD_11 h cs fI fL fA fQ fG fJ) (tysA cs) sz)) (va_Qi (fun (r : Int32) (u : CS) => (r = nI 0) ∧ u = (fI, fL, fA, fQ, fG, fJ)) (xB (dC, dI) (tysA cs) (va_A (wD_11 h cs fI fL fA fQ fG fJ) sz) (fun u : CS => wD_11 h cs u.1 u.2.1 u.2.2.1 u.2.2.2.1 u.2.2.2.2.1 u.2.2.2.2.2)) (va_A (wD_11 h cs fI fL fA fQ fG fJ) sz)) 0 0 (va_A (wD_11 h cs fI fL fA fQ fG fJ) sz) := by
  refine Met.ofW (cc := cX9_product) (maxL := 6) (ret := (some .int)) (by decide) rfl ?_
  intro p e s m args below meth c s₁ B hml hv
  obtain ⟨rfl, hsz, hP, hK, hD0, hN⟩ := hv
  have hx := B.exec
  have hb := B.bytes
  have hr := B.returns
  have hts := atoms_spec (ws := wsX9_product) B.pre
  have hown : s.vm.findClass RX9 = some m.cls := findClass_of_methodNamed B.named
  have hlocks := B.notSynchronized
  subst hsz
  have hD := hD0.self (sz := s.heap.size)
  generalize hAe : va_A (wD_11 h cs fI fL fA fQ fG fJ) s.heap.size = A0 at hD ⊢
  have hA : ∀ q : Nat, s.heap.size ≤ q → A0 q := fun q h => by rw [← hAe]; exact Or.inr h
  have hl := lv_entry ([.ref (h 130), .int (nI 2), .int (nI 0), .int (nI 0)]) (n := 6) (Nat.le_of_ble_eq_true rfl)
  rw [lg_entry_eq]
  generalize (lg_sl ([.ref (h 130), .int (nI 2), .int (nI 0), .int (nI 0)]) ++ List.replicate (6 - (lg_sl ([.ref (h 130), .int (nI 2), .int (nI 0), .int (nI 0)])).length) Slot.unset).toArray = ls at hl ⊢
  have hl : lv_has ls 6 [(0, .ref (h 130)), (1, .int (nI 2)), (2, .int (nI 0)), (3, .int (nI 0))] := hl
  generalize hH : s.heap = H at hP ⊢
  have hS : va_S A0 s.heap H [] := by rw [← hH]; exact va_S.rf
  refine lv_iconst (v := nI 0) hx hb dX9_product_0 (by decide) ?_
  refine lv_istore (lv' := [(4, .int (nI 0)), (0, .ref (h 130)), (1, .int (nI 2)), (2, .int (nI 0)), (3, .int (nI 0))]) hx hb dX9_product_1 hl (by decide) rfl (fun ls hl => ?_)
  refine lv_iconst (v := nI 0) hx hb dX9_product_3 (by decide) ?_
  refine lv_istore (lv' := [(5, .int (nI 0)), (4, .int (nI 0)), (0, .ref (h 130)), (1, .int (nI 2)), (2, .int (nI 0)), (3, .int (nI 0))]) hx hb dX9_product_4 hl (by decide) rfl (fun ls hl => ?_)
  refine lv_iload hx hb dX9_product_6 (lv_at hl 0 rfl) ?_
  refine lv_iload_n hx hb dX9_product_8 rfl (lv_at hl 3 rfl) ?_
  refine lv_icmp_ge (tgt := 36) hx hb dX9_product_9 (by decide) (fun c9 => False.elim (by revert c9; decide +kernel)) (fun _ => ?_)
  refine lv_iload hx hb dX9_product_12 (lv_at hl 1 rfl) ?_
  refine lv_aload_n hx hb dX9_product_14 rfl (lv_at hl 2 rfl) ?_
  refine lv_iload hx hb dX9_product_15 (lv_at hl 0 rfl) ?_
  refine xa_aald (b := h 131) hx hb hK hP 0 3 rfl rfl rfl (by omega) (by decide) (if_pos (by omega)) dX9_product_17 ?_
  refine lv_iload_n hx hb dX9_product_18 rfl (lv_at hl 4 rfl) ?_
  refine xa_iald hx hb hK hP 1 0 rfl rfl (by omega) (by decide) dX9_product_19 ?_
  refine xt_i (y := nI 0) (by decide +kernel) ?_
  refine lv_aload_n hx hb dX9_product_20 rfl (lv_at hl 2 rfl) ?_
  refine lv_iload hx hb dX9_product_21 (lv_at hl 0 rfl) ?_
  refine xa_aald (b := h 131) hx hb hK hP 0 3 rfl rfl rfl (by omega) (by decide) (if_pos (by omega)) dX9_product_23 ?_
  refine lv_iload_n hx hb dX9_product_24 rfl (lv_at hl 5 rfl) ?_
  refine xa_iald hx hb hK hP 1 0 rfl rfl (by omega) (by decide) dX9_product_25 ?_
  refine xt_i (y := nI 0) (by decide +kernel) ?_
  refine lv_imul hx hb dX9_product_26 ?_
  refine xt_i (y := nI 0) (by decide +kernel) ?_
  refine lv_iadd hx hb dX9_product_27 ?_
  refine xt_i (y := nI 0) (by decide +kernel) ?_
  refine lv_istore (lv' := [(4, .int (nI 0)), (5, .int (nI 0)), (0, .ref (h 130)), (1, .int (nI 2)), (2, .int (nI 0)), (3, .int (nI 0))]) hx hb dX9_product_28 hl (by decide) rfl (fun ls hl => ?_)
  refine lv_iinc (v := nI 1) (lv' := [(5, .int (nI 1)), (4, .int (nI 0)), (0, .ref (h 130)), (1, .int (nI 2)), (2, .int (nI 0)), (3, .int (nI 0))]) hx hb dX9_product_30 hl (k := 1) rfl (by decide +kernel) (by decide) rfl (fun ls hl => ?_)
  refine lv_goto (tgt := 6) hx hb dX9_product_33 (by decide) ?_
  refine lv_iload hx hb dX9_product_6 (lv_at hl 0 rfl) ?_
  refine lv_iload_n hx hb dX9_product_8 rfl (lv_at hl 3 rfl) ?_
  refine lv_icmp_ge (tgt := 36) hx hb dX9_product_9 (by decide) (fun c9 => False.elim (by revert c9; decide +kernel)) (fun _ => ?_)
  refine lv_iload hx hb dX9_product_12 (lv_at hl 1 rfl) ?_
  refine lv_aload_n hx hb dX9_product_14 rfl (lv_at hl 2 rfl) ?_
  refine lv_iload hx hb dX9_product_15 (lv_at hl 0 rfl) ?_
  refine xa_aald (b := h 132) hx hb hK hP 0 3 rfl rfl rfl (by omega) (by decide) (if_pos (by omega)) dX9_product_17 ?_
  refine lv_iload_n hx hb dX9_product_18 rfl (lv_at hl 4 rfl) ?_
  refine xa_iald hx hb hK hP 2 0 rfl rfl (by omega) (by decide) dX9_product_19 ?_
  refine xt_i (y := nI 0) (by decide +kernel) ?_
  refine lv_aload_n hx hb dX9_product_20 rfl (lv_at hl 2 rfl) ?_
  refine lv_iload hx hb dX9_product_21 (lv_at hl 0 rfl) ?_
  refine xa_aald (b := h 132) hx hb hK hP 0 3 rfl rfl rfl (by omega) (by decide) (if_pos (by omega)) dX9_product_23 ?_
  refine lv_iload_n hx hb dX9_product_24 rfl (lv_at hl 5 rfl) ?_
  refine xa_iald hx hb hK hP 2 0 rfl rfl (by omega) (by decide) dX9_product_25 ?_
  refine xt_i (y := nI 0) (by decide +kernel) ?_
  refine lv_imul hx hb dX9_product_26 ?_
  refine xt_i (y := nI 0) (by decide +kernel) ?_
  refine lv_iadd hx hb dX9_product_27 ?_
  refine xt_i (y := nI 0) (by decide +kernel) ?_
  refine lv_istore (lv' := [(4, .int (nI 0)), (5, .int (nI 1)), (0, .ref (h 130)), (1, .int (nI 2)), (2, .int (nI 0)), (3, .int (nI 0))]) hx hb dX9_product_28 hl (by decide) rfl (fun ls hl => ?_)
  refine lv_iinc (v := nI 2) (lv' := [(5, .int (nI 2)), (4, .int (nI 0)), (0, .ref (h 130)), (1, .int (nI 2)), (2, .int (nI 0)), (3, .int (nI 0))]) hx hb dX9_product_30 hl (k := 1) rfl (by decide +kernel) (by decide) rfl (fun ls hl => ?_)
  refine lv_goto (tgt := 6) hx hb dX9_product_33 (by decide) ?_
  refine lv_iload hx hb dX9_product_6 (lv_at hl 0 rfl) ?_
  refine lv_iload_n hx hb dX9_product_8 rfl (lv_at hl 3 rfl) ?_
  refine lv_icmp_ge (tgt := 36) hx hb dX9_product_9 (by decide) (fun _ => ?_) (fun c9 => False.elim (by revert c9; decide +kernel))
  refine lv_iload hx hb dX9_product_36 (lv_at hl 1 rfl) ?_
  exact xr_i (v := (nI 0)) hx hb hr hlocks hK hS dX9_product_38 (fI, fL, fA, fQ, fG, fJ) ⟨rfl, rfl⟩ hP hD
set_option maxHeartbeats 4000000 in
set_option maxRecDepth 100000 in
theorem a_X9_product_13 (l : Launch) (dC : Nat → ClassId) (dI : Nat → Nat → Nat) (h : Nat → Nat) (cs : Nat → ClassId) (sz : Nat) (I : Nat → Int32) (L : Nat → Int64) (A : Nat → Nat → Int32) (Q : Nat → Nat → Int64) (G : Nat → Nat → Nat → Int32) (J : Nat → Nat → Nat → Int64) : Met l yX9_product wsX9_product ({ frames := 0, cells := 0, slots := 0, locals := 0 }) (va_Pc [.ref (h 130), .int (nI 2), .int (nI 0), .int (nI 1)] (xPre (dC, dI) (wD_11 h cs fI fL fA fQ fG fJ) (tysA cs) sz)) (va_Qi (fun (r : Int32) (u : CS) => (r = nI 0) ∧ u = (fI, fL, fA, fQ, fG, fJ)) (xB (dC, dI) (tysA cs) (va_A (wD_11 h cs fI fL fA fQ fG fJ) sz) (fun u : CS => wD_11 h cs u.1 u.2.1 u.2.2.1 u.2.2.2.1 u.2.2.2.2.1 u.2.2.2.2.2)) (va_A (wD_11 h cs fI fL fA fQ fG fJ) sz)) 0 0 (va_A (wD_11 h cs fI fL fA fQ fG fJ) sz) := by
  refine Met.ofW (cc := cX9_product) (maxL := 6) (ret := (some .int)) (by decide) rfl ?_
  intro p e s m args below meth c s₁ B hml hv
  obtain ⟨rfl, hsz, hP, hK, hD0, hN⟩ := hv
  have hx := B.exec
  have hb := B.bytes
  have hr := B.returns
  have hts := atoms_spec (ws := wsX9_product) B.pre
  have hown : s.vm.findClass RX9 = some m.cls := findClass_of_methodNamed B.named
  have hlocks := B.notSynchronized
  subst hsz
  have hD := hD0.self (sz := s.heap.size)
  generalize hAe : va_A (wD_11 h cs fI fL fA fQ fG fJ) s.heap.size = A0 at hD ⊢
  have hA : ∀ q : Nat, s.heap.size ≤ q → A0 q := fun q h => by rw [← hAe]; exact Or.inr h
  have hl := lv_entry ([.ref (h 130), .int (nI 2), .int (nI 0), .int (nI 1)]) (n := 6) (Nat.le_of_ble_eq_true rfl)
  rw [lg_entry_eq]
  generalize (lg_sl ([.ref (h 130), .int (nI 2), .int (nI 0), .int (nI 1)]) ++ List.replicate (6 - (lg_sl ([.ref (h 130), .int (nI 2), .int (nI 0), .int (nI 1)])).length) Slot.unset).toArray = ls at hl ⊢
  have hl : lv_has ls 6 [(0, .ref (h 130)), (1, .int (nI 2)), (2, .int (nI 0)), (3, .int (nI 1))] := hl
  generalize hH : s.heap = H at hP ⊢
  have hS : va_S A0 s.heap H [] := by rw [← hH]; exact va_S.rf
  refine lv_iconst (v := nI 0) hx hb dX9_product_0 (by decide) ?_
  refine lv_istore (lv' := [(4, .int (nI 0)), (0, .ref (h 130)), (1, .int (nI 2)), (2, .int (nI 0)), (3, .int (nI 1))]) hx hb dX9_product_1 hl (by decide) rfl (fun ls hl => ?_)
  refine lv_iconst (v := nI 0) hx hb dX9_product_3 (by decide) ?_
  refine lv_istore (lv' := [(5, .int (nI 0)), (4, .int (nI 0)), (0, .ref (h 130)), (1, .int (nI 2)), (2, .int (nI 0)), (3, .int (nI 1))]) hx hb dX9_product_4 hl (by decide) rfl (fun ls hl => ?_)
  refine lv_iload hx hb dX9_product_6 (lv_at hl 0 rfl) ?_
  refine lv_iload_n hx hb dX9_product_8 rfl (lv_at hl 3 rfl) ?_
  refine lv_icmp_ge (tgt := 36) hx hb dX9_product_9 (by decide) (fun c9 => False.elim (by revert c9; decide +kernel)) (fun _ => ?_)
  refine lv_iload hx hb dX9_product_12 (lv_at hl 1 rfl) ?_
  refine lv_aload_n hx hb dX9_product_14 rfl (lv_at hl 2 rfl) ?_
  refine lv_iload hx hb dX9_product_15 (lv_at hl 0 rfl) ?_
  refine xa_aald (b := h 131) hx hb hK hP 0 3 rfl rfl rfl (by omega) (by decide) (if_pos (by omega)) dX9_product_17 ?_
  refine lv_iload_n hx hb dX9_product_18 rfl (lv_at hl 4 rfl) ?_
  refine xa_iald hx hb hK hP 1 0 rfl rfl (by omega) (by decide) dX9_product_19 ?_
  refine xt_i (y := nI 0) (by decide +kernel) ?_
  refine lv_aload_n hx hb dX9_product_20 rfl (lv_at hl 2 rfl) ?_
  refine lv_iload hx hb dX9_product_21 (lv_at hl 0 rfl) ?_
  refine xa_aald (b := h 131) hx hb hK hP 0 3 rfl rfl rfl (by omega) (by decide) (if_pos (by omega)) dX9_product_23 ?_
  refine lv_iload_n hx hb dX9_product_24 rfl (lv_at hl 5 rfl) ?_
  refine xa_iald hx hb hK hP 1 0 rfl rfl (by omega) (by decide) dX9_product_25 ?_
  refine xt_i (y := nI 0) (by decide +kernel) ?_
  refine lv_imul hx hb dX9_product_26 ?_
  refine xt_i (y := nI 0) (by decide +kernel) ?_
  refine lv_iadd hx hb dX9_product_27 ?_
  refine xt_i (y := nI 0) (by decide +kernel) ?_
  refine lv_istore (lv' := [(4, .int (nI 0)), (5, .int (nI 0)), (0, .ref (h 130)), (1, .int (nI 2)), (2, .int (nI 0)), (3, .int (nI 1))]) hx hb dX9_product_28 hl (by decide) rfl (fun ls hl => ?_)
  refine lv_iinc (v := nI 1) (lv' := [(5, .int (nI 1)), (4, .int (nI 0)), (0, .ref (h 130)), (1, .int (nI 2)), (2, .int (nI 0)), (3, .int (nI 1))]) hx hb dX9_product_30 hl (k := 1) rfl (by decide +kernel) (by decide) rfl (fun ls hl => ?_)
  refine lv_goto (tgt := 6) hx hb dX9_product_33 (by decide) ?_
  refine lv_iload hx hb dX9_product_6 (lv_at hl 0 rfl) ?_
  refine lv_iload_n hx hb dX9_product_8 rfl (lv_at hl 3 rfl) ?_
  refine lv_icmp_ge (tgt := 36) hx hb dX9_product_9 (by decide) (fun c9 => False.elim (by revert c9; decide +kernel)) (fun _ => ?_)
  refine lv_iload hx hb dX9_product_12 (lv_at hl 1 rfl) ?_
  refine lv_aload_n hx hb dX9_product_14 rfl (lv_at hl 2 rfl) ?_
  refine lv_iload hx hb dX9_product_15 (lv_at hl 0 rfl) ?_
  refine xa_aald (b := h 132) hx hb hK hP 0 3 rfl rfl rfl (by omega) (by decide) (if_pos (by omega)) dX9_product_17 ?_
  refine lv_iload_n hx hb dX9_product_18 rfl (lv_at hl 4 rfl) ?_
  refine xa_iald hx hb hK hP 2 0 rfl rfl (by omega) (by decide) dX9_product_19 ?_
  refine xt_i (y := nI 0) (by decide +kernel) ?_
  refine lv_aload_n hx hb dX9_product_20 rfl (lv_at hl 2 rfl) ?_
  refine lv_iload hx hb dX9_product_21 (lv_at hl 0 rfl) ?_
  refine xa_aald (b := h 132) hx hb hK hP 0 3 rfl rfl rfl (by omega) (by decide) (if_pos (by omega)) dX9_product_23 ?_
  refine lv_iload_n hx hb dX9_product_24 rfl (lv_at hl 5 rfl) ?_
  refine xa_iald hx hb hK hP 2 0 rfl rfl (by omega) (by decide) dX9_product_25 ?_
  refine xt_i (y := nI 0) (by decide +kernel) ?_
  refine lv_imul hx hb dX9_product_26 ?_
  refine xt_i (y := nI 0) (by decide +kernel) ?_
  refine lv_iadd hx hb dX9_product_27 ?_
  refine xt_i (y := nI 0) (by decide +kernel) ?_
  refine lv_istore (lv' := [(4, .int (nI 0)), (5, .int (nI 1)), (0, .ref (h 130)), (1, .int (nI 2)), (2, .int (nI 0)), (3, .int (nI 1))]) hx hb dX9_product_28 hl (by decide) rfl (fun ls hl => ?_)
  refine lv_iinc (v := nI 2) (lv' := [(5, .int (nI 2)), (4, .int (nI 0)), (0, .ref (h 130)), (1, .int (nI 2)), (2, .int (nI 0)), (3, .int (nI 1))]) hx hb dX9_product_30 hl (k := 1) rfl (by decide +kernel) (by decide) rfl (fun ls hl => ?_)
  refine lv_goto (tgt := 6) hx hb dX9_product_33 (by decide) ?_
  refine lv_iload hx hb dX9_product_6 (lv_at hl 0 rfl) ?_
  refine lv_iload_n hx hb dX9_product_8 rfl (lv_at hl 3 rfl) ?_
  refine lv_icmp_ge (tgt := 36) hx hb dX9_product_9 (by decide) (fun _ => ?_) (fun c9 => False.elim (by revert c9; decide +kernel))
  refine lv_iload hx hb dX9_product_36 (lv_at hl 1 rfl) ?_
  exact xr_i (v := (nI 0)) hx hb hr hlocks hK hS dX9_product_38 (fI, fL, fA, fQ, fG, fJ) ⟨rfl, rfl⟩ hP hD
set_option maxHeartbeats 4000000 in
set_option maxRecDepth 100000 in
theorem a_X9_product_14 (l : Launch) (dC : Nat → ClassId) (dI : Nat → Nat → Nat) (h : Nat → Nat) (cs : Nat → ClassId) (sz : Nat) (I : Nat → Int32) (L : Nat → Int64) (A : Nat → Nat → Int32) (Q : Nat → Nat → Int64) (G : Nat → Nat → Nat → Int32) (J : Nat → Nat → Nat → Int64) : Met l yX9_product wsX9_product ({ frames := 0, cells := 0, slots := 0, locals := 0 }) (va_Pc [.ref (h 130), .int (nI 2), .int (nI 1), .int (nI 0)] (xPre (dC, dI) (wD_11 h cs fI fL fA fQ fG fJ) (tysA cs) sz)) (va_Qi (fun (r : Int32) (u : CS) => (r = nI 0) ∧ u = (fI, fL, fA, fQ, fG, fJ)) (xB (dC, dI) (tysA cs) (va_A (wD_11 h cs fI fL fA fQ fG fJ) sz) (fun u : CS => wD_11 h cs u.1 u.2.1 u.2.2.1 u.2.2.2.1 u.2.2.2.2.1 u.2.2.2.2.2)) (va_A (wD_11 h cs fI fL fA fQ fG fJ) sz)) 0 0 (va_A (wD_11 h cs fI fL fA fQ fG fJ) sz) := by
  refine Met.ofW (cc := cX9_product) (maxL := 6) (ret := (some .int)) (by decide) rfl ?_
  intro p e s m args below meth c s₁ B hml hv
  obtain ⟨rfl, hsz, hP, hK, hD0, hN⟩ := hv
  have hx := B.exec
  have hb := B.bytes
  have hr := B.returns
  have hts := atoms_spec (ws := wsX9_product) B.pre
  have hown : s.vm.findClass RX9 = some m.cls := findClass_of_methodNamed B.named
  have hlocks := B.notSynchronized
  subst hsz
  have hD := hD0.self (sz := s.heap.size)
  generalize hAe : va_A (wD_11 h cs fI fL fA fQ fG fJ) s.heap.size = A0 at hD ⊢
  have hA : ∀ q : Nat, s.heap.size ≤ q → A0 q := fun q h => by rw [← hAe]; exact Or.inr h
  have hl := lv_entry ([.ref (h 130), .int (nI 2), .int (nI 1), .int (nI 0)]) (n := 6) (Nat.le_of_ble_eq_true rfl)
  rw [lg_entry_eq]
  generalize (lg_sl ([.ref (h 130), .int (nI 2), .int (nI 1), .int (nI 0)]) ++ List.replicate (6 - (lg_sl ([.ref (h 130), .int (nI 2), .int (nI 1), .int (nI 0)])).length) Slot.unset).toArray = ls at hl ⊢
  have hl : lv_has ls 6 [(0, .ref (h 130)), (1, .int (nI 2)), (2, .int (nI 1)), (3, .int (nI 0))] := hl
  generalize hH : s.heap = H at hP ⊢
  have hS : va_S A0 s.heap H [] := by rw [← hH]; exact va_S.rf
  refine lv_iconst (v := nI 0) hx hb dX9_product_0 (by decide) ?_
  refine lv_istore (lv' := [(4, .int (nI 0)), (0, .ref (h 130)), (1, .int (nI 2)), (2, .int (nI 1)), (3, .int (nI 0))]) hx hb dX9_product_1 hl (by decide) rfl (fun ls hl => ?_)
  refine lv_iconst (v := nI 0) hx hb dX9_product_3 (by decide) ?_
  refine lv_istore (lv' := [(5, .int (nI 0)), (4, .int (nI 0)), (0, .ref (h 130)), (1, .int (nI 2)), (2, .int (nI 1)), (3, .int (nI 0))]) hx hb dX9_product_4 hl (by decide) rfl (fun ls hl => ?_)
  refine lv_iload hx hb dX9_product_6 (lv_at hl 0 rfl) ?_
  refine lv_iload_n hx hb dX9_product_8 rfl (lv_at hl 3 rfl) ?_
  refine lv_icmp_ge (tgt := 36) hx hb dX9_product_9 (by decide) (fun c9 => False.elim (by revert c9; decide +kernel)) (fun _ => ?_)
  refine lv_iload hx hb dX9_product_12 (lv_at hl 1 rfl) ?_
  refine lv_aload_n hx hb dX9_product_14 rfl (lv_at hl 2 rfl) ?_
  refine lv_iload hx hb dX9_product_15 (lv_at hl 0 rfl) ?_
  refine xa_aald (b := h 131) hx hb hK hP 0 3 rfl rfl rfl (by omega) (by decide) (if_pos (by omega)) dX9_product_17 ?_
  refine lv_iload_n hx hb dX9_product_18 rfl (lv_at hl 4 rfl) ?_
  refine xa_iald hx hb hK hP 1 0 rfl rfl (by omega) (by decide) dX9_product_19 ?_
  refine xt_i (y := nI 0) (by decide +kernel) ?_
  refine lv_aload_n hx hb dX9_product_20 rfl (lv_at hl 2 rfl) ?_
  refine lv_iload hx hb dX9_product_21 (lv_at hl 0 rfl) ?_
  refine xa_aald (b := h 131) hx hb hK hP 0 3 rfl rfl rfl (by omega) (by decide) (if_pos (by omega)) dX9_product_23 ?_
  refine lv_iload_n hx hb dX9_product_24 rfl (lv_at hl 5 rfl) ?_
  refine xa_iald hx hb hK hP 1 0 rfl rfl (by omega) (by decide) dX9_product_25 ?_
  refine xt_i (y := nI 0) (by decide +kernel) ?_
  refine lv_imul hx hb dX9_product_26 ?_
  refine xt_i (y := nI 0) (by decide +kernel) ?_
  refine lv_iadd hx hb dX9_product_27 ?_
  refine xt_i (y := nI 0) (by decide +kernel) ?_
  refine lv_istore (lv' := [(4, .int (nI 0)), (5, .int (nI 0)), (0, .ref (h 130)), (1, .int (nI 2)), (2, .int (nI 1)), (3, .int (nI 0))]) hx hb dX9_product_28 hl (by decide) rfl (fun ls hl => ?_)
  refine lv_iinc (v := nI 1) (lv' := [(5, .int (nI 1)), (4, .int (nI 0)), (0, .ref (h 130)), (1, .int (nI 2)), (2, .int (nI 1)), (3, .int (nI 0))]) hx hb dX9_product_30 hl (k := 1) rfl (by decide +kernel) (by decide) rfl (fun ls hl => ?_)
  refine lv_goto (tgt := 6) hx hb dX9_product_33 (by decide) ?_
  refine lv_iload hx hb dX9_product_6 (lv_at hl 0 rfl) ?_
  refine lv_iload_n hx hb dX9_product_8 rfl (lv_at hl 3 rfl) ?_
  refine lv_icmp_ge (tgt := 36) hx hb dX9_product_9 (by decide) (fun c9 => False.elim (by revert c9; decide +kernel)) (fun _ => ?_)
  refine lv_iload hx hb dX9_product_12 (lv_at hl 1 rfl) ?_
  refine lv_aload_n hx hb dX9_product_14 rfl (lv_at hl 2 rfl) ?_
  refine lv_iload hx hb dX9_product_15 (lv_at hl 0 rfl) ?_
  refine xa_aald (b := h 132) hx hb hK hP 0 3 rfl rfl rfl (by omega) (by decide) (if_pos (by omega)) dX9_product_17 ?_
  refine lv_iload_n hx hb dX9_product_18 rfl (lv_at hl 4 rfl) ?_
  refine xa_iald hx hb hK hP 2 0 rfl rfl (by omega) (by decide) dX9_product_19 ?_
  refine xt_i (y := nI 0) (by decide +kernel) ?_
  refine lv_aload_n hx hb dX9_product_20 rfl (lv_at hl 2 rfl) ?_
  refine lv_iload hx hb dX9_product_21 (lv_at hl 0 rfl) ?_
  refine xa_aald (b := h 132) hx hb hK hP 0 3 rfl rfl rfl (by omega) (by decide) (if_pos (by omega)) dX9_product_23 ?_
  refine lv_iload_n hx hb dX9_product_24 rfl (lv_at hl 5 rfl) ?_
  refine xa_iald hx hb hK hP 2 0 rfl rfl (by omega) (by decide) dX9_product_25 ?_
  refine xt_i (y := nI 0) (by decide +kernel) ?_
  refine lv_imul hx hb dX9_product_26 ?_
  refine xt_i (y := nI 0) (by decide +kernel) ?_
  refine lv_iadd hx hb dX9_product_27 ?_
  refine xt_i (y := nI 0) (by decide +kernel) ?_
  refine lv_istore (lv' := [(4, .int (nI 0)), (5, .int (nI 1)), (0, .ref (h 130)), (1, .int (nI 2)), (2, .int (nI 1)), (3, .int (nI 0))]) hx hb dX9_product_28 hl (by decide) rfl (fun ls hl => ?_)
  refine lv_iinc (v := nI 2) (lv' := [(5, .int (nI 2)), (4, .int (nI 0)), (0, .ref (h 130)), (1, .int (nI 2)), (2, .int (nI 1)), (3, .int (nI 0))]) hx hb dX9_product_30 hl (k := 1) rfl (by decide +kernel) (by decide) rfl (fun ls hl => ?_)
  refine lv_goto (tgt := 6) hx hb dX9_product_33 (by decide) ?_
  refine lv_iload hx hb dX9_product_6 (lv_at hl 0 rfl) ?_
  refine lv_iload_n hx hb dX9_product_8 rfl (lv_at hl 3 rfl) ?_
  refine lv_icmp_ge (tgt := 36) hx hb dX9_product_9 (by decide) (fun _ => ?_) (fun c9 => False.elim (by revert c9; decide +kernel))
  refine lv_iload hx hb dX9_product_36 (lv_at hl 1 rfl) ?_
  exact xr_i (v := (nI 0)) hx hb hr hlocks hK hS dX9_product_38 (fI, fL, fA, fQ, fG, fJ) ⟨rfl, rfl⟩ hP hD
set_option maxHeartbeats 4000000 in
set_option maxRecDepth 100000 in
theorem a_X9_product_15 (l : Launch) (dC : Nat → ClassId) (dI : Nat → Nat → Nat) (h : Nat → Nat) (cs : Nat → ClassId) (sz : Nat) (I : Nat → Int32) (L : Nat → Int64) (A : Nat → Nat → Int32) (Q : Nat → Nat → Int64) (G : Nat → Nat → Nat → Int32) (J : Nat → Nat → Nat → Int64) : Met l yX9_product wsX9_product ({ frames := 0, cells := 0, slots := 0, locals := 0 }) (va_Pc [.ref (h 130), .int (nI 2), .int (nI 1), .int (nI 1)] (xPre (dC, dI) (wD_11 h cs fI fL fA fQ fG fJ) (tysA cs) sz)) (va_Qi (fun (r : Int32) (u : CS) => (r = nI 0) ∧ u = (fI, fL, fA, fQ, fG, fJ)) (xB (dC, dI) (tysA cs) (va_A (wD_11 h cs fI fL fA fQ fG fJ) sz) (fun u : CS => wD_11 h cs u.1 u.2.1 u.2.2.1 u.2.2.2.1 u.2.2.2.2.1 u.2.2.2.2.2)) (va_A (wD_11 h cs fI fL fA fQ fG fJ) sz)) 0 0 (va_A (wD_11 h cs fI fL fA fQ fG fJ) sz) := by
  refine Met.ofW (cc := cX9_product) (maxL := 6) (ret := (some .int)) (by decide) rfl ?_
  intro p e s m args below meth c s₁ B hml hv
  obtain ⟨rfl, hsz, hP, hK, hD0, hN⟩ := hv
  have hx := B.exec
  have hb := B.bytes
  have hr := B.returns
  have hts := atoms_spec (ws := wsX9_product) B.pre
  have hown : s.vm.findClass RX9 = some m.cls := findClass_of_methodNamed B.named
  have hlocks := B.notSynchronized
  subst hsz
  have hD := hD0.self (sz := s.heap.size)
  generalize hAe : va_A (wD_11 h cs fI fL fA fQ fG fJ) s.heap.size = A0 at hD ⊢
  have hA : ∀ q : Nat, s.heap.size ≤ q → A0 q := fun q h => by rw [← hAe]; exact Or.inr h
  have hl := lv_entry ([.ref (h 130), .int (nI 2), .int (nI 1), .int (nI 1)]) (n := 6) (Nat.le_of_ble_eq_true rfl)
  rw [lg_entry_eq]
  generalize (lg_sl ([.ref (h 130), .int (nI 2), .int (nI 1), .int (nI 1)]) ++ List.replicate (6 - (lg_sl ([.ref (h 130), .int (nI 2), .int (nI 1), .int (nI 1)])).length) Slot.unset).toArray = ls at hl ⊢
  have hl : lv_has ls 6 [(0, .ref (h 130)), (1, .int (nI 2)), (2, .int (nI 1)), (3, .int (nI 1))] := hl
  generalize hH : s.heap = H at hP ⊢
  have hS : va_S A0 s.heap H [] := by rw [← hH]; exact va_S.rf
  refine lv_iconst (v := nI 0) hx hb dX9_product_0 (by decide) ?_
  refine lv_istore (lv' := [(4, .int (nI 0)), (0, .ref (h 130)), (1, .int (nI 2)), (2, .int (nI 1)), (3, .int (nI 1))]) hx hb dX9_product_1 hl (by decide) rfl (fun ls hl => ?_)
  refine lv_iconst (v := nI 0) hx hb dX9_product_3 (by decide) ?_
  refine lv_istore (lv' := [(5, .int (nI 0)), (4, .int (nI 0)), (0, .ref (h 130)), (1, .int (nI 2)), (2, .int (nI 1)), (3, .int (nI 1))]) hx hb dX9_product_4 hl (by decide) rfl (fun ls hl => ?_)
  refine lv_iload hx hb dX9_product_6 (lv_at hl 0 rfl) ?_
  refine lv_iload_n hx hb dX9_product_8 rfl (lv_at hl 3 rfl) ?_
  refine lv_icmp_ge (tgt := 36) hx hb dX9_product_9 (by decide) (fun c9 => False.elim (by revert c9; decide +kernel)) (fun _ => ?_)
  refine lv_iload hx hb dX9_product_12 (lv_at hl 1 rfl) ?_
  refine lv_aload_n hx hb dX9_product_14 rfl (lv_at hl 2 rfl) ?_
  refine lv_iload hx hb dX9_product_15 (lv_at hl 0 rfl) ?_
  refine xa_aald (b := h 131) hx hb hK hP 0 3 rfl rfl rfl (by omega) (by decide) (if_pos (by omega)) dX9_product_17 ?_
  refine lv_iload_n hx hb dX9_product_18 rfl (lv_at hl 4 rfl) ?_
  refine xa_iald hx hb hK hP 1 0 rfl rfl (by omega) (by decide) dX9_product_19 ?_
  refine xt_i (y := nI 0) (by decide +kernel) ?_
  refine lv_aload_n hx hb dX9_product_20 rfl (lv_at hl 2 rfl) ?_
  refine lv_iload hx hb dX9_product_21 (lv_at hl 0 rfl) ?_
  refine xa_aald (b := h 131) hx hb hK hP 0 3 rfl rfl rfl (by omega) (by decide) (if_pos (by omega)) dX9_product_23 ?_
  refine lv_iload_n hx hb dX9_product_24 rfl (lv_at hl 5 rfl) ?_
  refine xa_iald hx hb hK hP 1 0 rfl rfl (by omega) (by decide) dX9_product_25 ?_
  refine xt_i (y := nI 0) (by decide +kernel) ?_
  refine lv_imul hx hb dX9_product_26 ?_
  refine xt_i (y := nI 0) (by decide +kernel) ?_
  refine lv_iadd hx hb dX9_product_27 ?_
  refine xt_i (y := nI 0) (by decide +kernel) ?_
  refine lv_istore (lv' := [(4, .int (nI 0)), (5, .int (nI 0)), (0, .ref (h 130)), (1, .int (nI 2)), (2, .int (nI 1)), (3, .int (nI 1))]) hx hb dX9_product_28 hl (by decide) rfl (fun ls hl => ?_)
  refine lv_iinc (v := nI 1) (lv' := [(5, .int (nI 1)), (4, .int (nI 0)), (0, .ref (h 130)), (1, .int (nI 2)), (2, .int (nI 1)), (3, .int (nI 1))]) hx hb dX9_product_30 hl (k := 1) rfl (by decide +kernel) (by decide) rfl (fun ls hl => ?_)
  refine lv_goto (tgt := 6) hx hb dX9_product_33 (by decide) ?_
  refine lv_iload hx hb dX9_product_6 (lv_at hl 0 rfl) ?_
  refine lv_iload_n hx hb dX9_product_8 rfl (lv_at hl 3 rfl) ?_
  refine lv_icmp_ge (tgt := 36) hx hb dX9_product_9 (by decide) (fun c9 => False.elim (by revert c9; decide +kernel)) (fun _ => ?_)
  refine lv_iload hx hb dX9_product_12 (lv_at hl 1 rfl) ?_
  refine lv_aload_n hx hb dX9_product_14 rfl (lv_at hl 2 rfl) ?_
  refine lv_iload hx hb dX9_product_15 (lv_at hl 0 rfl) ?_
  refine xa_aald (b := h 132) hx hb hK hP 0 3 rfl rfl rfl (by omega) (by decide) (if_pos (by omega)) dX9_product_17 ?_
  refine lv_iload_n hx hb dX9_product_18 rfl (lv_at hl 4 rfl) ?_
  refine xa_iald hx hb hK hP 2 0 rfl rfl (by omega) (by decide) dX9_product_19 ?_
  refine xt_i (y := nI 0) (by decide +kernel) ?_
  refine lv_aload_n hx hb dX9_product_20 rfl (lv_at hl 2 rfl) ?_
  refine lv_iload hx hb dX9_product_21 (lv_at hl 0 rfl) ?_
  refine xa_aald (b := h 132) hx hb hK hP 0 3 rfl rfl rfl (by omega) (by decide) (if_pos (by omega)) dX9_product_23 ?_
  refine lv_iload_n hx hb dX9_product_24 rfl (lv_at hl 5 rfl) ?_
  refine xa_iald hx hb hK hP 2 0 rfl rfl (by omega) (by decide) dX9_product_25 ?_
  refine xt_i (y := nI 0) (by decide +kernel) ?_
  refine lv_imul hx hb dX9_product_26 ?_
  refine xt_i (y := nI 0) (by decide +kernel) ?_
  refine lv_iadd hx hb dX9_product_27 ?_
  refine xt_i (y := nI 0) (by decide +kernel) ?_
  refine lv_istore (lv' := [(4, .int (nI 0)), (5, .int (nI 1)), (0, .ref (h 130)), (1, .int (nI 2)), (2, .int (nI 1)), (3, .int (nI 1))]) hx hb dX9_product_28 hl (by decide) rfl (fun ls hl => ?_)
  refine lv_iinc (v := nI 2) (lv' := [(5, .int (nI 2)), (4, .int (nI 0)), (0, .ref (h 130)), (1, .int (nI 2)), (2, .int (nI 1)), (3, .int (nI 1))]) hx hb dX9_product_30 hl (k := 1) rfl (by decide +kernel) (by decide) rfl (fun ls hl => ?_)
  refine lv_goto (tgt := 6) hx hb dX9_product_33 (by decide) ?_
  refine lv_iload hx hb dX9_product_6 (lv_at hl 0 rfl) ?_
  refine lv_iload_n hx hb dX9_product_8 rfl (lv_at hl 3 rfl) ?_
  refine lv_icmp_ge (tgt := 36) hx hb dX9_product_9 (by decide) (fun _ => ?_) (fun c9 => False.elim (by revert c9; decide +kernel))
  refine lv_iload hx hb dX9_product_36 (lv_at hl 1 rfl) ?_
  exact xr_i (v := (nI 0)) hx hb hr hlocks hK hS dX9_product_38 (fI, fL, fA, fQ, fG, fJ) ⟨rfl, rfl⟩ hP hD
def wD_16 (h : Nat → Nat) (cs : Nat → ClassId) (I : Nat → Int32) (L : Nat → Int64) (A : Nat → Nat → Int32) (Q : Nat → Nat → Int64) (G : Nat → Nat → Nat → Int32) (J : Nat → Nat → Nat → Int64) : va_W := [(h 180, .inl (cs 4, 4, .inr (.inr (.inr (.inr (fun i => if i < 4 then some (h (i + 181)) else none)))))), (h 181, .inl (cs 1, 4, .inr (.inl ((J 0) 0)))), (h 182, .inl (cs 1, 4, .inr (.inl ((J 0) 1)))), (h 183, .inl (cs 1, 4, .inr (.inl ((J 0) 2)))), (h 184, .inl (cs 1, 4, .inr (.inl ((J 0) 3))))]
set_option maxRecDepth 20000 in
theorem ggX2_determinant_X2_determinant : GoodIn wsX2_determinant wsX2_determinant := goodIn_r _ [0, 1, 2, 3] (by decide +kernel) (by decide +kernel)
set_option maxRecDepth 20000 in
theorem gX2_determinant_X2_determinant : GoodIn wsX2_determinant (va_wsS RX2 44 yX2_determinant wsX2_determinant) := goodIn_app (goodIn_of _ (by decide +kernel)) ggX2_determinant_X2_determinant
theorem dX2_determinant_0 : decode cX2_determinant 0 = .ok (.iload_n 2, 1) := by decide +kernel
theorem dX2_determinant_1 : decode cX2_determinant 1 = .ok (.iload_n 1, 1) := by decide +kernel
theorem dX2_determinant_2 : decode cX2_determinant 2 = .ok (.if_icmp .lt 5, 3) := by decide +kernel
theorem dX2_determinant_5 : decode cX2_determinant 5 = .ok (.lconst 1, 1) := by decide +kernel
theorem dX2_determinant_6 : decode cX2_determinant 6 = .ok (.lreturn, 1) := by decide +kernel
theorem dX2_determinant_7 : decode cX2_determinant 7 = .ok (.lconst 0, 1) := by decide +kernel
theorem dX2_determinant_8 : decode cX2_determinant 8 = .ok (.lstore 4, 2) := by decide +kernel
theorem dX2_determinant_10 : decode cX2_determinant 10 = .ok (.lconst 1, 1) := by decide +kernel
theorem dX2_determinant_11 : decode cX2_determinant 11 = .ok (.lstore 6, 2) := by decide +kernel
theorem dX2_determinant_13 : decode cX2_determinant 13 = .ok (.iconst 0, 1) := by decide +kernel
theorem dX2_determinant_14 : decode cX2_determinant 14 = .ok (.istore 8, 2) := by decide +kernel
theorem dX2_determinant_16 : decode cX2_determinant 16 = .ok (.iload 8, 2) := by decide +kernel
theorem dX2_determinant_18 : decode cX2_determinant 18 = .ok (.iload_n 1, 1) := by decide +kernel
theorem dX2_determinant_19 : decode cX2_determinant 19 = .ok (.if_icmp .ge 68, 3) := by decide +kernel
theorem dX2_determinant_22 : decode cX2_determinant 22 = .ok (.iload_n 3, 1) := by decide +kernel
theorem dX2_determinant_23 : decode cX2_determinant 23 = .ok (.iload 8, 2) := by decide +kernel
theorem dX2_determinant_25 : decode cX2_determinant 25 = .ok (.ishr, 1) := by decide +kernel
theorem dX2_determinant_26 : decode cX2_determinant 26 = .ok (.iconst 1, 1) := by decide +kernel
theorem dX2_determinant_27 : decode cX2_determinant 27 = .ok (.iand, 1) := by decide +kernel
theorem dX2_determinant_28 : decode cX2_determinant 28 = .ok (.ifCond .ne 6, 3) := by decide +kernel
theorem dX2_determinant_31 : decode cX2_determinant 31 = .ok (.goto 50, 3) := by decide +kernel
theorem dX2_determinant_34 : decode cX2_determinant 34 = .ok (.aload_n 0, 1) := by decide +kernel
theorem dX2_determinant_35 : decode cX2_determinant 35 = .ok (.iload_n 2, 1) := by decide +kernel
theorem dX2_determinant_36 : decode cX2_determinant 36 = .ok (.aaload, 1) := by decide +kernel
theorem dX2_determinant_37 : decode cX2_determinant 37 = .ok (.iload 8, 2) := by decide +kernel
theorem dX2_determinant_39 : decode cX2_determinant 39 = .ok (.laload, 1) := by decide +kernel
theorem dX2_determinant_40 : decode cX2_determinant 40 = .ok (.lconst 0, 1) := by decide +kernel
theorem dX2_determinant_41 : decode cX2_determinant 41 = .ok (.lcmp, 1) := by decide +kernel
theorem dX2_determinant_42 : decode cX2_determinant 42 = .ok (.ifCond .eq 34, 3) := by decide +kernel
theorem dX2_determinant_45 : decode cX2_determinant 45 = .ok (.lload 4, 2) := by decide +kernel
theorem dX2_determinant_47 : decode cX2_determinant 47 = .ok (.lload 6, 2) := by decide +kernel
theorem dX2_determinant_49 : decode cX2_determinant 49 = .ok (.aload_n 0, 1) := by decide +kernel
theorem dX2_determinant_50 : decode cX2_determinant 50 = .ok (.iload_n 2, 1) := by decide +kernel
theorem dX2_determinant_51 : decode cX2_determinant 51 = .ok (.aaload, 1) := by decide +kernel
theorem dX2_determinant_52 : decode cX2_determinant 52 = .ok (.iload 8, 2) := by decide +kernel
theorem dX2_determinant_54 : decode cX2_determinant 54 = .ok (.laload, 1) := by decide +kernel
theorem dX2_determinant_55 : decode cX2_determinant 55 = .ok (.lmul, 1) := by decide +kernel
theorem dX2_determinant_56 : decode cX2_determinant 56 = .ok (.aload_n 0, 1) := by decide +kernel
theorem dX2_determinant_57 : decode cX2_determinant 57 = .ok (.iload_n 1, 1) := by decide +kernel
theorem dX2_determinant_58 : decode cX2_determinant 58 = .ok (.iload_n 2, 1) := by decide +kernel
theorem dX2_determinant_59 : decode cX2_determinant 59 = .ok (.iconst 1, 1) := by decide +kernel
theorem dX2_determinant_60 : decode cX2_determinant 60 = .ok (.iadd, 1) := by decide +kernel
theorem dX2_determinant_61 : decode cX2_determinant 61 = .ok (.iload_n 3, 1) := by decide +kernel
theorem dX2_determinant_62 : decode cX2_determinant 62 = .ok (.iconst 1, 1) := by decide +kernel
theorem dX2_determinant_63 : decode cX2_determinant 63 = .ok (.iload 8, 2) := by decide +kernel
theorem dX2_determinant_65 : decode cX2_determinant 65 = .ok (.ishl, 1) := by decide +kernel
theorem dX2_determinant_66 : decode cX2_determinant 66 = .ok (.iconst (-1), 1) := by decide +kernel
theorem dX2_determinant_67 : decode cX2_determinant 67 = .ok (.ixor, 1) := by decide +kernel
theorem dX2_determinant_68 : decode cX2_determinant 68 = .ok (.iand, 1) := by decide +kernel
theorem dX2_determinant_69 : decode cX2_determinant 69 = .ok (.invokestatic 44, 3) := by decide +kernel
theorem dX2_determinant_72 : decode cX2_determinant 72 = .ok (.lmul, 1) := by decide +kernel
theorem dX2_determinant_73 : decode cX2_determinant 73 = .ok (.ladd, 1) := by decide +kernel
theorem dX2_determinant_74 : decode cX2_determinant 74 = .ok (.lstore 4, 2) := by decide +kernel
theorem dX2_determinant_76 : decode cX2_determinant 76 = .ok (.lload 6, 2) := by decide +kernel
theorem dX2_determinant_78 : decode cX2_determinant 78 = .ok (.lneg, 1) := by decide +kernel
theorem dX2_determinant_79 : decode cX2_determinant 79 = .ok (.lstore 6, 2) := by decide +kernel
theorem dX2_determinant_81 : decode cX2_determinant 81 = .ok (.iinc 8 1, 3) := by decide +kernel
theorem dX2_determinant_84 : decode cX2_determinant 84 = .ok (.goto (-68), 3) := by decide +kernel
theorem dX2_determinant_87 : decode cX2_determinant 87 = .ok (.lload 4, 2) := by decide +kernel
theorem dX2_determinant_89 : decode cX2_determinant 89 = .ok (.lreturn, 1) := by decide +kernel
set_option maxHeartbeats 4000000 in
set_option maxRecDepth 100000 in
theorem a_X2_determinant_17 (l : Launch) (dC : Nat → ClassId) (dI : Nat → Nat → Nat) (h : Nat → Nat) (cs : Nat → ClassId) (sz : Nat) (I : Nat → Int32) (L : Nat → Int64) (A : Nat → Nat → Int32) (Q : Nat → Nat → Int64) (G : Nat → Nat → Nat → Int32) (J : Nat → Nat → Nat → Int64) : Met l yX2_determinant wsX2_determinant ({ frames := 5, cells := 0, slots := 0, locals := 200 }) (va_Pc [.ref (h 180), .int (nI 2), .int (nI 0), .int (nI 3)] (xPre (dC, dI) (wD_16 h cs fI fL fA fQ fG fJ) (tysA cs) sz)) (va_Ql (fun (r : Int64) (u : CS) => (r = (0 : Int64)) ∧ u = (fI, fL, fA, fQ, fG, fJ)) (xB (dC, dI) (tysA cs) (va_A (wD_16 h cs fI fL fA fQ fG fJ) sz) (fun u : CS => wD_16 h cs u.1 u.2.1 u.2.2.1 u.2.2.2.1 u.2.2.2.2.1 u.2.2.2.2.2)) (va_A (wD_16 h cs fI fL fA fQ fG fJ) sz)) 0 0 (va_A (wD_16 h cs fI fL fA fQ fG fJ) sz) := by
  refine Met.ofW (cc := cX2_determinant) (maxL := 9) (ret := (some .long)) (by decide) rfl ?_
  intro p e s m args below meth c s₁ B hml hv
  obtain ⟨rfl, hsz, hP, hK, hD0, hN⟩ := hv
  have hx := B.exec
  have hb := B.bytes
  have hr := B.returns
  have hts := atoms_spec (ws := wsX2_determinant) B.pre
  have hown : s.vm.findClass RX2 = some m.cls := findClass_of_methodNamed B.named
  have hlocks := B.notSynchronized
  subst hsz
  have hD := hD0.self (sz := s.heap.size)
  generalize hAe : va_A (wD_16 h cs fI fL fA fQ fG fJ) s.heap.size = A0 at hD ⊢
  have hA : ∀ q : Nat, s.heap.size ≤ q → A0 q := fun q h => by rw [← hAe]; exact Or.inr h
  have hl := lv_entry ([.ref (h 180), .int (nI 2), .int (nI 0), .int (nI 3)]) (n := 9) (Nat.le_of_ble_eq_true rfl)
  rw [lg_entry_eq]
  generalize (lg_sl ([.ref (h 180), .int (nI 2), .int (nI 0), .int (nI 3)]) ++ List.replicate (9 - (lg_sl ([.ref (h 180), .int (nI 2), .int (nI 0), .int (nI 3)])).length) Slot.unset).toArray = ls at hl ⊢
  have hl : lv_has ls 9 [(0, .ref (h 180)), (1, .int (nI 2)), (2, .int (nI 0)), (3, .int (nI 3))] := hl
  generalize hH : s.heap = H at hP ⊢
  have hS : va_S A0 s.heap H [] := by rw [← hH]; exact va_S.rf
  refine lv_iload_n hx hb dX2_determinant_0 rfl (lv_at hl 2 rfl) ?_
  refine lv_iload_n hx hb dX2_determinant_1 rfl (lv_at hl 1 rfl) ?_
  refine lv_icmp_lt (tgt := 7) hx hb dX2_determinant_2 (by decide) (fun _ => ?_) (fun c9 => False.elim (by revert c9; decide +kernel))
  refine lv_lconst (v := 0) hx hb dX2_determinant_7 rfl ?_
  refine lv_lstore (lv' := [(4, .long (0 : Int64)), (0, .ref (h 180)), (1, .int (nI 2)), (2, .int (nI 0)), (3, .int (nI 3))]) hx hb dX2_determinant_8 hl (by decide) rfl (fun ls hl => ?_)
  refine lv_lconst (v := 1) hx hb dX2_determinant_10 rfl ?_
  refine lv_lstore (lv' := [(6, .long (1 : Int64)), (4, .long (0 : Int64)), (0, .ref (h 180)), (1, .int (nI 2)), (2, .int (nI 0)), (3, .int (nI 3))]) hx hb dX2_determinant_11 hl (by decide) rfl (fun ls hl => ?_)
  refine lv_iconst (v := nI 0) hx hb dX2_determinant_13 (by decide) ?_
  refine lv_istore (lv' := [(8, .int (nI 0)), (6, .long (1 : Int64)), (4, .long (0 : Int64)), (0, .ref (h 180)), (1, .int (nI 2)), (2, .int (nI 0)), (3, .int (nI 3))]) hx hb dX2_determinant_14 hl (by decide) rfl (fun ls hl => ?_)
  refine lv_iload hx hb dX2_determinant_16 (lv_at hl 0 rfl) ?_
  refine lv_iload_n hx hb dX2_determinant_18 rfl (lv_at hl 4 rfl) ?_
  refine lv_icmp_ge (tgt := 87) hx hb dX2_determinant_19 (by decide) (fun c9 => False.elim (by revert c9; decide +kernel)) (fun _ => ?_)
  refine lv_iload_n hx hb dX2_determinant_22 rfl (lv_at hl 6 rfl) ?_
  refine lv_iload hx hb dX2_determinant_23 (lv_at hl 0 rfl) ?_
  refine lv_ishr hx hb dX2_determinant_25 ?_
  refine xt_i (y := nI 3) (by decide +kernel) ?_
  refine lv_iconst (v := nI 1) hx hb dX2_determinant_26 (by decide) ?_
  refine lv_iand hx hb dX2_determinant_27 ?_
  refine xt_i (y := nI 1) (by decide +kernel) ?_
  refine lv_if_ne (tgt := 34) hx hb dX2_determinant_28 (by decide) (fun _ => ?_) (fun c9 => False.elim (by revert c9; decide +kernel))
  refine lv_aload_n hx hb dX2_determinant_34 rfl (lv_at hl 3 rfl) ?_
  refine lv_iload_n hx hb dX2_determinant_35 rfl (lv_at hl 5 rfl) ?_
  refine xa_aald (b := h 181) hx hb hK hP 0 4 rfl rfl rfl (by omega) (by decide) (if_pos (by omega)) dX2_determinant_36 ?_
  refine lv_iload hx hb dX2_determinant_37 (lv_at hl 0 rfl) ?_
  refine xa_lald hx hb hK hP 1 1 rfl rfl (by omega) (by decide) dX2_determinant_39 ?_
  refine xt_l (y := (0 : Int64)) (by decide +kernel) ?_
  refine lv_lconst (v := 0) hx hb dX2_determinant_40 rfl ?_
  refine xl_eq (tgt := 76) hx hb dX2_determinant_41 dX2_determinant_42 (by decide) (fun _ => ?_) (fun c9 => False.elim (by revert c9; decide +kernel))
  refine lv_lload hx hb dX2_determinant_76 (lv_at hl 1 rfl) ?_
  refine lv_lneg hx hb dX2_determinant_78 ?_
  refine xt_l (y := (-1 : Int64)) (by decide +kernel) ?_
  refine lv_lstore (lv' := [(6, .long (-1 : Int64)), (8, .int (nI 0)), (4, .long (0 : Int64)), (0, .ref (h 180)), (1, .int (nI 2)), (2, .int (nI 0)), (3, .int (nI 3))]) hx hb dX2_determinant_79 hl (by decide) rfl (fun ls hl => ?_)
  refine lv_iinc (v := nI 1) (lv' := [(8, .int (nI 1)), (6, .long (-1 : Int64)), (4, .long (0 : Int64)), (0, .ref (h 180)), (1, .int (nI 2)), (2, .int (nI 0)), (3, .int (nI 3))]) hx hb dX2_determinant_81 hl (k := 1) rfl (by decide +kernel) (by decide) rfl (fun ls hl => ?_)
  refine lv_goto (tgt := 16) hx hb dX2_determinant_84 (by decide) ?_
  refine lv_iload hx hb dX2_determinant_16 (lv_at hl 0 rfl) ?_
  refine lv_iload_n hx hb dX2_determinant_18 rfl (lv_at hl 4 rfl) ?_
  refine lv_icmp_ge (tgt := 87) hx hb dX2_determinant_19 (by decide) (fun c9 => False.elim (by revert c9; decide +kernel)) (fun _ => ?_)
  refine lv_iload_n hx hb dX2_determinant_22 rfl (lv_at hl 6 rfl) ?_
  refine lv_iload hx hb dX2_determinant_23 (lv_at hl 0 rfl) ?_
  refine lv_ishr hx hb dX2_determinant_25 ?_
  refine xt_i (y := nI 1) (by decide +kernel) ?_
  refine lv_iconst (v := nI 1) hx hb dX2_determinant_26 (by decide) ?_
  refine lv_iand hx hb dX2_determinant_27 ?_
  refine xt_i (y := nI 1) (by decide +kernel) ?_
  refine lv_if_ne (tgt := 34) hx hb dX2_determinant_28 (by decide) (fun _ => ?_) (fun c9 => False.elim (by revert c9; decide +kernel))
  refine lv_aload_n hx hb dX2_determinant_34 rfl (lv_at hl 3 rfl) ?_
  refine lv_iload_n hx hb dX2_determinant_35 rfl (lv_at hl 5 rfl) ?_
  refine xa_aald (b := h 181) hx hb hK hP 0 4 rfl rfl rfl (by omega) (by decide) (if_pos (by omega)) dX2_determinant_36 ?_
  refine lv_iload hx hb dX2_determinant_37 (lv_at hl 0 rfl) ?_
  refine xa_lald hx hb hK hP 1 1 rfl rfl (by omega) (by decide) dX2_determinant_39 ?_
  refine xt_l (y := (0 : Int64)) (by decide +kernel) ?_
  refine lv_lconst (v := 0) hx hb dX2_determinant_40 rfl ?_
  refine xl_eq (tgt := 76) hx hb dX2_determinant_41 dX2_determinant_42 (by decide) (fun _ => ?_) (fun c9 => False.elim (by revert c9; decide +kernel))
  refine lv_lload hx hb dX2_determinant_76 (lv_at hl 1 rfl) ?_
  refine lv_lneg hx hb dX2_determinant_78 ?_
  refine xt_l (y := (1 : Int64)) (by decide +kernel) ?_
  refine lv_lstore (lv' := [(6, .long (1 : Int64)), (8, .int (nI 1)), (4, .long (0 : Int64)), (0, .ref (h 180)), (1, .int (nI 2)), (2, .int (nI 0)), (3, .int (nI 3))]) hx hb dX2_determinant_79 hl (by decide) rfl (fun ls hl => ?_)
  refine lv_iinc (v := nI 2) (lv' := [(8, .int (nI 2)), (6, .long (1 : Int64)), (4, .long (0 : Int64)), (0, .ref (h 180)), (1, .int (nI 2)), (2, .int (nI 0)), (3, .int (nI 3))]) hx hb dX2_determinant_81 hl (k := 1) rfl (by decide +kernel) (by decide) rfl (fun ls hl => ?_)
  refine lv_goto (tgt := 16) hx hb dX2_determinant_84 (by decide) ?_
  refine lv_iload hx hb dX2_determinant_16 (lv_at hl 0 rfl) ?_
  refine lv_iload_n hx hb dX2_determinant_18 rfl (lv_at hl 4 rfl) ?_
  refine lv_icmp_ge (tgt := 87) hx hb dX2_determinant_19 (by decide) (fun _ => ?_) (fun c9 => False.elim (by revert c9; decide +kernel))
  refine lv_lload hx hb dX2_determinant_87 (lv_at hl 2 rfl) ?_
  exact xr_l (v := (0 : Int64)) hx hb hr hlocks hK hS dX2_determinant_89 (fI, fL, fA, fQ, fG, fJ) ⟨rfl, rfl⟩ hP hD
def wD_18 (h : Nat → Nat) (cs : Nat → ClassId) (I : Nat → Int32) (L : Nat → Int64) (A : Nat → Nat → Int32) (Q : Nat → Nat → Int64) (G : Nat → Nat → Nat → Int32) (J : Nat → Nat → Nat → Int64) : va_W := [(h 106, .inr (2, [.ref (h 180), .ref (h 185), .ref (h 186), .ref (h 187), .long (L 188)])), (h 180, .inl (cs 4, 4, .inr (.inr (.inr (.inr (fun i => if i < 4 then some (h (i + 181)) else none)))))), (h 181, .inl (cs 1, 4, .inr (.inl ((J 0) 0)))), (h 182, .inl (cs 1, 4, .inr (.inl ((J 0) 1)))), (h 183, .inl (cs 1, 4, .inr (.inl ((J 0) 2)))), (h 184, .inl (cs 1, 4, .inr (.inl ((J 0) 3)))), (h 185, .inl (cs 1, 4, .inr (.inl (Q 185)))), (h 186, .inl (cs 0, 4, .inl (A 186))), (h 187, .inl (cs 1, 4, .inr (.inl (Q 187))))]
theorem dX2_swapRight_0 : decode cX2_swapRight 0 = .ok (.iconst 0, 1) := by decide +kernel
theorem dX2_swapRight_1 : decode cX2_swapRight 1 = .ok (.istore_n 3, 1) := by decide +kernel
theorem dX2_swapRight_2 : decode cX2_swapRight 2 = .ok (.iload_n 3, 1) := by decide +kernel
theorem dX2_swapRight_3 : decode cX2_swapRight 3 = .ok (.iload_n 2, 1) := by decide +kernel
theorem dX2_swapRight_4 : decode cX2_swapRight 4 = .ok (.if_icmp .ge 41, 3) := by decide +kernel
theorem dX2_swapRight_7 : decode cX2_swapRight 7 = .ok (.aload_n 0, 1) := by decide +kernel
theorem dX2_swapRight_8 : decode cX2_swapRight 8 = .ok (.getfield 11, 3) := by decide +kernel
theorem dX2_swapRight_11 : decode cX2_swapRight 11 = .ok (.iload_n 3, 1) := by decide +kernel
theorem dX2_swapRight_12 : decode cX2_swapRight 12 = .ok (.aaload, 1) := by decide +kernel
theorem dX2_swapRight_13 : decode cX2_swapRight 13 = .ok (.iload_n 1, 1) := by decide +kernel
theorem dX2_swapRight_14 : decode cX2_swapRight 14 = .ok (.laload, 1) := by decide +kernel
theorem dX2_swapRight_15 : decode cX2_swapRight 15 = .ok (.lstore 4, 2) := by decide +kernel
theorem dX2_swapRight_17 : decode cX2_swapRight 17 = .ok (.aload_n 0, 1) := by decide +kernel
theorem dX2_swapRight_18 : decode cX2_swapRight 18 = .ok (.getfield 11, 3) := by decide +kernel
theorem dX2_swapRight_21 : decode cX2_swapRight 21 = .ok (.iload_n 3, 1) := by decide +kernel
theorem dX2_swapRight_22 : decode cX2_swapRight 22 = .ok (.aaload, 1) := by decide +kernel
theorem dX2_swapRight_23 : decode cX2_swapRight 23 = .ok (.iload_n 1, 1) := by decide +kernel
theorem dX2_swapRight_24 : decode cX2_swapRight 24 = .ok (.aload_n 0, 1) := by decide +kernel
theorem dX2_swapRight_25 : decode cX2_swapRight 25 = .ok (.getfield 16, 3) := by decide +kernel
theorem dX2_swapRight_28 : decode cX2_swapRight 28 = .ok (.iload_n 3, 1) := by decide +kernel
theorem dX2_swapRight_29 : decode cX2_swapRight 29 = .ok (.laload, 1) := by decide +kernel
theorem dX2_swapRight_30 : decode cX2_swapRight 30 = .ok (.lastore, 1) := by decide +kernel
theorem dX2_swapRight_31 : decode cX2_swapRight 31 = .ok (.aload_n 0, 1) := by decide +kernel
theorem dX2_swapRight_32 : decode cX2_swapRight 32 = .ok (.getfield 16, 3) := by decide +kernel
theorem dX2_swapRight_35 : decode cX2_swapRight 35 = .ok (.iload_n 3, 1) := by decide +kernel
theorem dX2_swapRight_36 : decode cX2_swapRight 36 = .ok (.lload 4, 2) := by decide +kernel
theorem dX2_swapRight_38 : decode cX2_swapRight 38 = .ok (.lastore, 1) := by decide +kernel
theorem dX2_swapRight_39 : decode cX2_swapRight 39 = .ok (.iinc 3 1, 3) := by decide +kernel
theorem dX2_swapRight_42 : decode cX2_swapRight 42 = .ok (.goto (-40), 3) := by decide +kernel
theorem dX2_swapRight_45 : decode cX2_swapRight 45 = .ok (.return_, 1) := by decide +kernel
set_option maxHeartbeats 4000000 in
set_option maxRecDepth 100000 in
theorem a_X2_swapRight_19 (l : Launch) (dC : Nat → ClassId) (dI : Nat → Nat → Nat) (h : Nat → Nat) (cs : Nat → ClassId) (sz : Nat) (I : Nat → Int32) (L : Nat → Int64) (A : Nat → Nat → Int32) (Q : Nat → Nat → Int64) (G : Nat → Nat → Nat → Int32) (J : Nat → Nat → Nat → Int64) : Met l yX2_swapRight wsX2_swapRight ({ frames := 0, cells := 0, slots := 0, locals := 0 }) (va_Pc [.ref (h 106), .int (nI 0), .int (nI 2)] (xPre (dC, dI) (wD_18 h cs fI fL fA fQ fG fJ) (tysA cs) sz)) (va_Qv (fun (u : CS) => (True) ∧ u = (fI, fL, fA, fQ, fG, fJ)) (xB (dC, dI) (tysA cs) (va_A (wD_18 h cs fI fL fA fQ fG fJ) sz) (fun u : CS => wD_18 h cs u.1 u.2.1 u.2.2.1 u.2.2.2.1 u.2.2.2.2.1 u.2.2.2.2.2)) (va_A (wD_18 h cs fI fL fA fQ fG fJ) sz)) 0 0 (va_A (wD_18 h cs fI fL fA fQ fG fJ) sz) := by
  refine Met.ofW (cc := cX2_swapRight) (maxL := 6) (ret := none) (by decide) rfl ?_
  intro p e s m args below meth c s₁ B hml hv
  obtain ⟨rfl, hsz, hP, hK, hD0, hN⟩ := hv
  have hx := B.exec
  have hb := B.bytes
  have hr := B.returns
  have hts := atoms_spec (ws := wsX2_swapRight) B.pre
  have hown : s.vm.findClass RX2 = some m.cls := findClass_of_methodNamed B.named
  have hlocks := B.notSynchronized
  subst hsz
  have hD := hD0.self (sz := s.heap.size)
  generalize hAe : va_A (wD_18 h cs fI fL fA fQ fG fJ) s.heap.size = A0 at hD ⊢
  have hA : ∀ q : Nat, s.heap.size ≤ q → A0 q := fun q h => by rw [← hAe]; exact Or.inr h
  have hl := lv_entry ([.ref (h 106), .int (nI 0), .int (nI 2)]) (n := 6) (Nat.le_of_ble_eq_true rfl)
  rw [lg_entry_eq]
  generalize (lg_sl ([.ref (h 106), .int (nI 0), .int (nI 2)]) ++ List.replicate (6 - (lg_sl ([.ref (h 106), .int (nI 0), .int (nI 2)])).length) Slot.unset).toArray = ls at hl ⊢
  have hl : lv_has ls 6 [(0, .ref (h 106)), (1, .int (nI 0)), (2, .int (nI 2))] := hl
  generalize hH : s.heap = H at hP ⊢
  have hS : va_S A0 s.heap H [] := by rw [← hH]; exact va_S.rf
  have hinX2 : ∀ w ∈ wsX20, w ∈ wsX2_swapRight := by decide +kernel
  refine lv_iconst (v := nI 0) hx hb dX2_swapRight_0 (by decide) ?_
  refine lv_istore_n (lv' := [(3, .int (nI 0)), (0, .ref (h 106)), (1, .int (nI 0)), (2, .int (nI 2))]) hx hb dX2_swapRight_1 rfl hl (by decide) rfl (fun ls hl => ?_)
  refine lv_iload_n hx hb dX2_swapRight_2 rfl (lv_at hl 0 rfl) ?_
  refine lv_iload_n hx hb dX2_swapRight_3 rfl (lv_at hl 3 rfl) ?_
  refine lv_icmp_ge (tgt := 45) hx hb dX2_swapRight_4 (by decide) (fun c9 => False.elim (by revert c9; decide +kernel)) (fun _ => ?_)
  refine lv_aload_n hx hb dX2_swapRight_7 rfl (lv_at hl 1 rfl) ?_
  refine va_get (D := (dC, dI)) (ci := 2) (v := .ref (h 180)) (C := RX2) (T := TX2) (N := 5) hx hb hts hinX2 hown hK hP 0 rfl rfl 0 (by decide) (hts (.fieldLink RX2 11 "MixedWords$Least" "square" "[[J") (by decide +kernel)) (fun _ h9 => h9) rfl dX2_swapRight_8 ?_
  refine lv_iload_n hx hb dX2_swapRight_11 rfl (lv_at hl 0 rfl) ?_
  refine xa_aald (b := h 181) hx hb hK hP 1 4 rfl rfl rfl (by omega) (by decide) (if_pos (by omega)) dX2_swapRight_12 ?_
  refine lv_iload_n hx hb dX2_swapRight_13 rfl (lv_at hl 2 rfl) ?_
  refine xa_lald hx hb hK hP 2 1 rfl rfl (by omega) (by decide) dX2_swapRight_14 ?_
  refine xt_l (y := (0 : Int64)) (by decide +kernel) ?_
  refine lv_lstore (lv' := [(4, .long (0 : Int64)), (3, .int (nI 0)), (0, .ref (h 106)), (1, .int (nI 0)), (2, .int (nI 2))]) hx hb dX2_swapRight_15 hl (by decide) rfl (fun ls hl => ?_)
  refine lv_aload_n hx hb dX2_swapRight_17 rfl (lv_at hl 2 rfl) ?_
  refine va_get (D := (dC, dI)) (ci := 2) (v := .ref (h 180)) (C := RX2) (T := TX2) (N := 5) hx hb hts hinX2 hown hK hP 0 rfl rfl 0 (by decide) (hts (.fieldLink RX2 11 "MixedWords$Least" "square" "[[J") (by decide +kernel)) (fun _ h9 => h9) rfl dX2_swapRight_18 ?_
  refine lv_iload_n hx hb dX2_swapRight_21 rfl (lv_at hl 1 rfl) ?_
  refine xa_aald (b := h 181) hx hb hK hP 1 4 rfl rfl rfl (by omega) (by decide) (if_pos (by omega)) dX2_swapRight_22 ?_
  refine lv_iload_n hx hb dX2_swapRight_23 rfl (lv_at hl 3 rfl) ?_
  refine lv_aload_n hx hb dX2_swapRight_24 rfl (lv_at hl 2 rfl) ?_
  refine va_get (D := (dC, dI)) (ci := 2) (v := .ref (h 185)) (C := RX2) (T := TX2) (N := 5) hx hb hts hinX2 hown hK hP 0 rfl rfl 1 (by decide) (hts (.fieldLink RX2 16 "MixedWords$Least" "right" "[J") (by decide +kernel)) (fun _ h9 => h9) rfl dX2_swapRight_25 ?_
  refine lv_iload_n hx hb dX2_swapRight_28 rfl (lv_at hl 1 rfl) ?_
  refine xa_lald hx hb hK hP 6 1 rfl rfl (by omega) (by decide) dX2_swapRight_29 ?_
  refine xt_l (y := (0 : Int64)) (by decide +kernel) ?_
  refine xa_lastS hx hb hK hP hD hS 2 1 rfl rfl (by omega) (by decide) (by decide +kernel) dX2_swapRight_30 (fun H locs hP hD hS => ?_)
  refine lv_aload_n hx hb dX2_swapRight_31 rfl (lv_at hl 2 rfl) ?_
  refine va_get (D := (dC, dI)) (ci := 2) (v := .ref (h 185)) (C := RX2) (T := TX2) (N := 5) hx hb hts hinX2 hown hK hP 0 rfl rfl 1 (by decide) (hts (.fieldLink RX2 16 "MixedWords$Least" "right" "[J") (by decide +kernel)) (fun _ h9 => h9) rfl dX2_swapRight_32 ?_
  refine lv_iload_n hx hb dX2_swapRight_35 rfl (lv_at hl 1 rfl) ?_
  refine lv_lload hx hb dX2_swapRight_36 (lv_at hl 0 rfl) ?_
  refine xa_lastS hx hb hK hP hD hS 6 1 rfl rfl (by omega) (by decide) (by decide +kernel) dX2_swapRight_38 (fun H locs hP hD hS => ?_)
  refine lv_iinc (v := nI 1) (lv' := [(3, .int (nI 1)), (4, .long (0 : Int64)), (0, .ref (h 106)), (1, .int (nI 0)), (2, .int (nI 2))]) hx hb dX2_swapRight_39 hl (k := 1) rfl (by decide +kernel) (by decide) rfl (fun ls hl => ?_)
  refine lv_goto (tgt := 2) hx hb dX2_swapRight_42 (by decide) ?_
  refine lv_iload_n hx hb dX2_swapRight_2 rfl (lv_at hl 0 rfl) ?_
  refine lv_iload_n hx hb dX2_swapRight_3 rfl (lv_at hl 4 rfl) ?_
  refine lv_icmp_ge (tgt := 45) hx hb dX2_swapRight_4 (by decide) (fun c9 => False.elim (by revert c9; decide +kernel)) (fun _ => ?_)
  refine lv_aload_n hx hb dX2_swapRight_7 rfl (lv_at hl 2 rfl) ?_
  refine va_get (D := (dC, dI)) (ci := 2) (v := .ref (h 180)) (C := RX2) (T := TX2) (N := 5) hx hb hts hinX2 hown hK hP 0 rfl rfl 0 (by decide) (hts (.fieldLink RX2 11 "MixedWords$Least" "square" "[[J") (by decide +kernel)) (fun _ h9 => h9) rfl dX2_swapRight_8 ?_
  refine lv_iload_n hx hb dX2_swapRight_11 rfl (lv_at hl 0 rfl) ?_
  refine xa_aald (b := h 182) hx hb hK hP 1 4 rfl rfl rfl (by omega) (by decide) (if_pos (by omega)) dX2_swapRight_12 ?_
  refine lv_iload_n hx hb dX2_swapRight_13 rfl (lv_at hl 3 rfl) ?_
  refine xa_lald hx hb hK hP 3 1 rfl rfl (by omega) (by decide) dX2_swapRight_14 ?_
  refine xt_l (y := (0 : Int64)) (by decide +kernel) ?_
  refine lv_lstore (lv' := [(4, .long (0 : Int64)), (3, .int (nI 1)), (0, .ref (h 106)), (1, .int (nI 0)), (2, .int (nI 2))]) hx hb dX2_swapRight_15 hl (by decide) rfl (fun ls hl => ?_)
  refine lv_aload_n hx hb dX2_swapRight_17 rfl (lv_at hl 2 rfl) ?_
  refine va_get (D := (dC, dI)) (ci := 2) (v := .ref (h 180)) (C := RX2) (T := TX2) (N := 5) hx hb hts hinX2 hown hK hP 0 rfl rfl 0 (by decide) (hts (.fieldLink RX2 11 "MixedWords$Least" "square" "[[J") (by decide +kernel)) (fun _ h9 => h9) rfl dX2_swapRight_18 ?_
  refine lv_iload_n hx hb dX2_swapRight_21 rfl (lv_at hl 1 rfl) ?_
  refine xa_aald (b := h 182) hx hb hK hP 1 4 rfl rfl rfl (by omega) (by decide) (if_pos (by omega)) dX2_swapRight_22 ?_
  refine lv_iload_n hx hb dX2_swapRight_23 rfl (lv_at hl 3 rfl) ?_
  refine lv_aload_n hx hb dX2_swapRight_24 rfl (lv_at hl 2 rfl) ?_
  refine va_get (D := (dC, dI)) (ci := 2) (v := .ref (h 185)) (C := RX2) (T := TX2) (N := 5) hx hb hts hinX2 hown hK hP 0 rfl rfl 1 (by decide) (hts (.fieldLink RX2 16 "MixedWords$Least" "right" "[J") (by decide +kernel)) (fun _ h9 => h9) rfl dX2_swapRight_25 ?_
  refine lv_iload_n hx hb dX2_swapRight_28 rfl (lv_at hl 1 rfl) ?_
  refine xa_lald hx hb hK hP 6 1 rfl rfl (by omega) (by decide) dX2_swapRight_29 ?_
  refine xt_l (y := (0 : Int64)) (by decide +kernel) ?_
  refine xa_lastS hx hb hK hP hD hS 3 1 rfl rfl (by omega) (by decide) (by decide +kernel) dX2_swapRight_30 (fun H locs hP hD hS => ?_)
  refine lv_aload_n hx hb dX2_swapRight_31 rfl (lv_at hl 2 rfl) ?_
  refine va_get (D := (dC, dI)) (ci := 2) (v := .ref (h 185)) (C := RX2) (T := TX2) (N := 5) hx hb hts hinX2 hown hK hP 0 rfl rfl 1 (by decide) (hts (.fieldLink RX2 16 "MixedWords$Least" "right" "[J") (by decide +kernel)) (fun _ h9 => h9) rfl dX2_swapRight_32 ?_
  refine lv_iload_n hx hb dX2_swapRight_35 rfl (lv_at hl 1 rfl) ?_
  refine lv_lload hx hb dX2_swapRight_36 (lv_at hl 0 rfl) ?_
  refine xa_lastS hx hb hK hP hD hS 6 1 rfl rfl (by omega) (by decide) (by decide +kernel) dX2_swapRight_38 (fun H locs hP hD hS => ?_)
  refine lv_iinc (v := nI 2) (lv' := [(3, .int (nI 2)), (4, .long (0 : Int64)), (0, .ref (h 106)), (1, .int (nI 0)), (2, .int (nI 2))]) hx hb dX2_swapRight_39 hl (k := 1) rfl (by decide +kernel) (by decide) rfl (fun ls hl => ?_)
  refine lv_goto (tgt := 2) hx hb dX2_swapRight_42 (by decide) ?_
  refine lv_iload_n hx hb dX2_swapRight_2 rfl (lv_at hl 0 rfl) ?_
  refine lv_iload_n hx hb dX2_swapRight_3 rfl (lv_at hl 4 rfl) ?_
  refine lv_icmp_ge (tgt := 45) hx hb dX2_swapRight_4 (by decide) (fun _ => ?_) (fun c9 => False.elim (by revert c9; decide +kernel))
  exact xr_v hx hb hr hlocks hK hS dX2_swapRight_45 (fI, fL, fA, fQ, fG, fJ) ⟨trivial, rfl⟩ hP hD
set_option maxHeartbeats 4000000 in
set_option maxRecDepth 100000 in
theorem a_X2_swapRight_20 (l : Launch) (dC : Nat → ClassId) (dI : Nat → Nat → Nat) (h : Nat → Nat) (cs : Nat → ClassId) (sz : Nat) (I : Nat → Int32) (L : Nat → Int64) (A : Nat → Nat → Int32) (Q : Nat → Nat → Int64) (G : Nat → Nat → Nat → Int32) (J : Nat → Nat → Nat → Int64) : Met l yX2_swapRight wsX2_swapRight ({ frames := 0, cells := 0, slots := 0, locals := 0 }) (va_Pc [.ref (h 106), .int (nI 1), .int (nI 2)] (xPre (dC, dI) (wD_18 h cs fI fL fA fQ fG fJ) (tysA cs) sz)) (va_Qv (fun (u : CS) => (True) ∧ u = (fI, fL, fA, fQ, fG, fJ)) (xB (dC, dI) (tysA cs) (va_A (wD_18 h cs fI fL fA fQ fG fJ) sz) (fun u : CS => wD_18 h cs u.1 u.2.1 u.2.2.1 u.2.2.2.1 u.2.2.2.2.1 u.2.2.2.2.2)) (va_A (wD_18 h cs fI fL fA fQ fG fJ) sz)) 0 0 (va_A (wD_18 h cs fI fL fA fQ fG fJ) sz) := by
  refine Met.ofW (cc := cX2_swapRight) (maxL := 6) (ret := none) (by decide) rfl ?_
  intro p e s m args below meth c s₁ B hml hv
  obtain ⟨rfl, hsz, hP, hK, hD0, hN⟩ := hv
  have hx := B.exec
  have hb := B.bytes
  have hr := B.returns
  have hts := atoms_spec (ws := wsX2_swapRight) B.pre
  have hown : s.vm.findClass RX2 = some m.cls := findClass_of_methodNamed B.named
  have hlocks := B.notSynchronized
  subst hsz
  have hD := hD0.self (sz := s.heap.size)
  generalize hAe : va_A (wD_18 h cs fI fL fA fQ fG fJ) s.heap.size = A0 at hD ⊢
  have hA : ∀ q : Nat, s.heap.size ≤ q → A0 q := fun q h => by rw [← hAe]; exact Or.inr h
  have hl := lv_entry ([.ref (h 106), .int (nI 1), .int (nI 2)]) (n := 6) (Nat.le_of_ble_eq_true rfl)
  rw [lg_entry_eq]
  generalize (lg_sl ([.ref (h 106), .int (nI 1), .int (nI 2)]) ++ List.replicate (6 - (lg_sl ([.ref (h 106), .int (nI 1), .int (nI 2)])).length) Slot.unset).toArray = ls at hl ⊢
  have hl : lv_has ls 6 [(0, .ref (h 106)), (1, .int (nI 1)), (2, .int (nI 2))] := hl
  generalize hH : s.heap = H at hP ⊢
  have hS : va_S A0 s.heap H [] := by rw [← hH]; exact va_S.rf
  have hinX2 : ∀ w ∈ wsX20, w ∈ wsX2_swapRight := by decide +kernel
  refine lv_iconst (v := nI 0) hx hb dX2_swapRight_0 (by decide) ?_
  refine lv_istore_n (lv' := [(3, .int (nI 0)), (0, .ref (h 106)), (1, .int (nI 1)), (2, .int (nI 2))]) hx hb dX2_swapRight_1 rfl hl (by decide) rfl (fun ls hl => ?_)
  refine lv_iload_n hx hb dX2_swapRight_2 rfl (lv_at hl 0 rfl) ?_
  refine lv_iload_n hx hb dX2_swapRight_3 rfl (lv_at hl 3 rfl) ?_
  refine lv_icmp_ge (tgt := 45) hx hb dX2_swapRight_4 (by decide) (fun c9 => False.elim (by revert c9; decide +kernel)) (fun _ => ?_)
  refine lv_aload_n hx hb dX2_swapRight_7 rfl (lv_at hl 1 rfl) ?_
  refine va_get (D := (dC, dI)) (ci := 2) (v := .ref (h 180)) (C := RX2) (T := TX2) (N := 5) hx hb hts hinX2 hown hK hP 0 rfl rfl 0 (by decide) (hts (.fieldLink RX2 11 "MixedWords$Least" "square" "[[J") (by decide +kernel)) (fun _ h9 => h9) rfl dX2_swapRight_8 ?_
  refine lv_iload_n hx hb dX2_swapRight_11 rfl (lv_at hl 0 rfl) ?_
  refine xa_aald (b := h 181) hx hb hK hP 1 4 rfl rfl rfl (by omega) (by decide) (if_pos (by omega)) dX2_swapRight_12 ?_
  refine lv_iload_n hx hb dX2_swapRight_13 rfl (lv_at hl 2 rfl) ?_
  refine xa_lald hx hb hK hP 2 1 rfl rfl (by omega) (by decide) dX2_swapRight_14 ?_
  refine xt_l (y := (0 : Int64)) (by decide +kernel) ?_
  refine lv_lstore (lv' := [(4, .long (0 : Int64)), (3, .int (nI 0)), (0, .ref (h 106)), (1, .int (nI 1)), (2, .int (nI 2))]) hx hb dX2_swapRight_15 hl (by decide) rfl (fun ls hl => ?_)
  refine lv_aload_n hx hb dX2_swapRight_17 rfl (lv_at hl 2 rfl) ?_
  refine va_get (D := (dC, dI)) (ci := 2) (v := .ref (h 180)) (C := RX2) (T := TX2) (N := 5) hx hb hts hinX2 hown hK hP 0 rfl rfl 0 (by decide) (hts (.fieldLink RX2 11 "MixedWords$Least" "square" "[[J") (by decide +kernel)) (fun _ h9 => h9) rfl dX2_swapRight_18 ?_
  refine lv_iload_n hx hb dX2_swapRight_21 rfl (lv_at hl 1 rfl) ?_
  refine xa_aald (b := h 181) hx hb hK hP 1 4 rfl rfl rfl (by omega) (by decide) (if_pos (by omega)) dX2_swapRight_22 ?_
  refine lv_iload_n hx hb dX2_swapRight_23 rfl (lv_at hl 3 rfl) ?_
  refine lv_aload_n hx hb dX2_swapRight_24 rfl (lv_at hl 2 rfl) ?_
  refine va_get (D := (dC, dI)) (ci := 2) (v := .ref (h 185)) (C := RX2) (T := TX2) (N := 5) hx hb hts hinX2 hown hK hP 0 rfl rfl 1 (by decide) (hts (.fieldLink RX2 16 "MixedWords$Least" "right" "[J") (by decide +kernel)) (fun _ h9 => h9) rfl dX2_swapRight_25 ?_
  refine lv_iload_n hx hb dX2_swapRight_28 rfl (lv_at hl 1 rfl) ?_
  refine xa_lald hx hb hK hP 6 1 rfl rfl (by omega) (by decide) dX2_swapRight_29 ?_
  refine xt_l (y := (0 : Int64)) (by decide +kernel) ?_
  refine xa_lastS hx hb hK hP hD hS 2 1 rfl rfl (by omega) (by decide) (by decide +kernel) dX2_swapRight_30 (fun H locs hP hD hS => ?_)
  refine lv_aload_n hx hb dX2_swapRight_31 rfl (lv_at hl 2 rfl) ?_
  refine va_get (D := (dC, dI)) (ci := 2) (v := .ref (h 185)) (C := RX2) (T := TX2) (N := 5) hx hb hts hinX2 hown hK hP 0 rfl rfl 1 (by decide) (hts (.fieldLink RX2 16 "MixedWords$Least" "right" "[J") (by decide +kernel)) (fun _ h9 => h9) rfl dX2_swapRight_32 ?_
  refine lv_iload_n hx hb dX2_swapRight_35 rfl (lv_at hl 1 rfl) ?_
  refine lv_lload hx hb dX2_swapRight_36 (lv_at hl 0 rfl) ?_
  refine xa_lastS hx hb hK hP hD hS 6 1 rfl rfl (by omega) (by decide) (by decide +kernel) dX2_swapRight_38 (fun H locs hP hD hS => ?_)
  refine lv_iinc (v := nI 1) (lv' := [(3, .int (nI 1)), (4, .long (0 : Int64)), (0, .ref (h 106)), (1, .int (nI 1)), (2, .int (nI 2))]) hx hb dX2_swapRight_39 hl (k := 1) rfl (by decide +kernel) (by decide) rfl (fun ls hl => ?_)
  refine lv_goto (tgt := 2) hx hb dX2_swapRight_42 (by decide) ?_
  refine lv_iload_n hx hb dX2_swapRight_2 rfl (lv_at hl 0 rfl) ?_
  refine lv_iload_n hx hb dX2_swapRight_3 rfl (lv_at hl 4 rfl) ?_
  refine lv_icmp_ge (tgt := 45) hx hb dX2_swapRight_4 (by decide) (fun c9 => False.elim (by revert c9; decide +kernel)) (fun _ => ?_)
  refine lv_aload_n hx hb dX2_swapRight_7 rfl (lv_at hl 2 rfl) ?_
  refine va_get (D := (dC, dI)) (ci := 2) (v := .ref (h 180)) (C := RX2) (T := TX2) (N := 5) hx hb hts hinX2 hown hK hP 0 rfl rfl 0 (by decide) (hts (.fieldLink RX2 11 "MixedWords$Least" "square" "[[J") (by decide +kernel)) (fun _ h9 => h9) rfl dX2_swapRight_8 ?_
  refine lv_iload_n hx hb dX2_swapRight_11 rfl (lv_at hl 0 rfl) ?_
  refine xa_aald (b := h 182) hx hb hK hP 1 4 rfl rfl rfl (by omega) (by decide) (if_pos (by omega)) dX2_swapRight_12 ?_
  refine lv_iload_n hx hb dX2_swapRight_13 rfl (lv_at hl 3 rfl) ?_
  refine xa_lald hx hb hK hP 3 1 rfl rfl (by omega) (by decide) dX2_swapRight_14 ?_
  refine xt_l (y := (0 : Int64)) (by decide +kernel) ?_
  refine lv_lstore (lv' := [(4, .long (0 : Int64)), (3, .int (nI 1)), (0, .ref (h 106)), (1, .int (nI 1)), (2, .int (nI 2))]) hx hb dX2_swapRight_15 hl (by decide) rfl (fun ls hl => ?_)
  refine lv_aload_n hx hb dX2_swapRight_17 rfl (lv_at hl 2 rfl) ?_
  refine va_get (D := (dC, dI)) (ci := 2) (v := .ref (h 180)) (C := RX2) (T := TX2) (N := 5) hx hb hts hinX2 hown hK hP 0 rfl rfl 0 (by decide) (hts (.fieldLink RX2 11 "MixedWords$Least" "square" "[[J") (by decide +kernel)) (fun _ h9 => h9) rfl dX2_swapRight_18 ?_
  refine lv_iload_n hx hb dX2_swapRight_21 rfl (lv_at hl 1 rfl) ?_
  refine xa_aald (b := h 182) hx hb hK hP 1 4 rfl rfl rfl (by omega) (by decide) (if_pos (by omega)) dX2_swapRight_22 ?_
  refine lv_iload_n hx hb dX2_swapRight_23 rfl (lv_at hl 3 rfl) ?_
  refine lv_aload_n hx hb dX2_swapRight_24 rfl (lv_at hl 2 rfl) ?_
  refine va_get (D := (dC, dI)) (ci := 2) (v := .ref (h 185)) (C := RX2) (T := TX2) (N := 5) hx hb hts hinX2 hown hK hP 0 rfl rfl 1 (by decide) (hts (.fieldLink RX2 16 "MixedWords$Least" "right" "[J") (by decide +kernel)) (fun _ h9 => h9) rfl dX2_swapRight_25 ?_
  refine lv_iload_n hx hb dX2_swapRight_28 rfl (lv_at hl 1 rfl) ?_
  refine xa_lald hx hb hK hP 6 1 rfl rfl (by omega) (by decide) dX2_swapRight_29 ?_
  refine xt_l (y := (0 : Int64)) (by decide +kernel) ?_
  refine xa_lastS hx hb hK hP hD hS 3 1 rfl rfl (by omega) (by decide) (by decide +kernel) dX2_swapRight_30 (fun H locs hP hD hS => ?_)
  refine lv_aload_n hx hb dX2_swapRight_31 rfl (lv_at hl 2 rfl) ?_
  refine va_get (D := (dC, dI)) (ci := 2) (v := .ref (h 185)) (C := RX2) (T := TX2) (N := 5) hx hb hts hinX2 hown hK hP 0 rfl rfl 1 (by decide) (hts (.fieldLink RX2 16 "MixedWords$Least" "right" "[J") (by decide +kernel)) (fun _ h9 => h9) rfl dX2_swapRight_32 ?_
  refine lv_iload_n hx hb dX2_swapRight_35 rfl (lv_at hl 1 rfl) ?_
  refine lv_lload hx hb dX2_swapRight_36 (lv_at hl 0 rfl) ?_
  refine xa_lastS hx hb hK hP hD hS 6 1 rfl rfl (by omega) (by decide) (by decide +kernel) dX2_swapRight_38 (fun H locs hP hD hS => ?_)
  refine lv_iinc (v := nI 2) (lv' := [(3, .int (nI 2)), (4, .long (0 : Int64)), (0, .ref (h 106)), (1, .int (nI 1)), (2, .int (nI 2))]) hx hb dX2_swapRight_39 hl (k := 1) rfl (by decide +kernel) (by decide) rfl (fun ls hl => ?_)
  refine lv_goto (tgt := 2) hx hb dX2_swapRight_42 (by decide) ?_
  refine lv_iload_n hx hb dX2_swapRight_2 rfl (lv_at hl 0 rfl) ?_
  refine lv_iload_n hx hb dX2_swapRight_3 rfl (lv_at hl 4 rfl) ?_
  refine lv_icmp_ge (tgt := 45) hx hb dX2_swapRight_4 (by decide) (fun _ => ?_) (fun c9 => False.elim (by revert c9; decide +kernel))
  exact xr_v hx hb hr hlocks hK hS dX2_swapRight_45 (fI, fL, fA, fQ, fG, fJ) ⟨trivial, rfl⟩ hP hD
set_option maxRecDepth 20000 in
theorem ggX2_solve_X9_product : GoodIn wsX2_solve wsX9_product := goodIn_r _ [7] (by decide +kernel) (by decide +kernel)
set_option maxRecDepth 20000 in
theorem gX2_solve_X9_product_n40 : GoodIn wsX2_solve (wsX9_product) := ggX2_solve_X9_product
set_option maxRecDepth 20000 in
theorem ggX2_solve_X2_determinant : GoodIn wsX2_solve wsX2_determinant := goodIn_r _ [11, 8, 9, 10] (by decide +kernel) (by decide +kernel)
set_option maxRecDepth 20000 in
theorem gX2_solve_X2_determinant : GoodIn wsX2_solve (va_wsS RX2 44 yX2_determinant wsX2_determinant) := goodIn_app (goodIn_of _ (by decide +kernel)) ggX2_solve_X2_determinant
set_option maxRecDepth 20000 in
theorem ggX2_solve_X2_swapRight : GoodIn wsX2_solve wsX2_swapRight := goodIn_r _ [15, 2, 1, 16, 17, 18, 19, 20] (by decide +kernel) (by decide +kernel)
set_option maxRecDepth 20000 in
theorem gX2_solve_X2_swapRight : GoodIn wsX2_solve (wsV RX2 52 RX2 yX2_swapRight wsX2_swapRight) := goodIn_app (goodIn_of _ (by decide +kernel)) ggX2_solve_X2_swapRight
theorem dX2_solve_0 : decode cX2_solve 0 = .ok (.iconst 0, 1) := by decide +kernel
theorem dX2_solve_1 : decode cX2_solve 1 = .ok (.istore 5, 2) := by decide +kernel
theorem dX2_solve_3 : decode cX2_solve 3 = .ok (.iload 5, 2) := by decide +kernel
theorem dX2_solve_5 : decode cX2_solve 5 = .ok (.iload 4, 2) := by decide +kernel
theorem dX2_solve_7 : decode cX2_solve 7 = .ok (.if_icmp .ge 91, 3) := by decide +kernel
theorem dX2_solve_10 : decode cX2_solve 10 = .ok (.aload_n 0, 1) := by decide +kernel
theorem dX2_solve_11 : decode cX2_solve 11 = .ok (.getfield 16, 3) := by decide +kernel
theorem dX2_solve_14 : decode cX2_solve 14 = .ok (.iload 5, 2) := by decide +kernel
theorem dX2_solve_16 : decode cX2_solve 16 = .ok (.lconst 0, 1) := by decide +kernel
theorem dX2_solve_17 : decode cX2_solve 17 = .ok (.lastore, 1) := by decide +kernel
theorem dX2_solve_18 : decode cX2_solve 18 = .ok (.iconst 0, 1) := by decide +kernel
theorem dX2_solve_19 : decode cX2_solve 19 = .ok (.istore 6, 2) := by decide +kernel
theorem dX2_solve_21 : decode cX2_solve 21 = .ok (.iload 6, 2) := by decide +kernel
theorem dX2_solve_23 : decode cX2_solve 23 = .ok (.iload_n 3, 1) := by decide +kernel
theorem dX2_solve_24 : decode cX2_solve 24 = .ok (.if_icmp .ge 32, 3) := by decide +kernel
theorem dX2_solve_27 : decode cX2_solve 27 = .ok (.aload_n 0, 1) := by decide +kernel
theorem dX2_solve_28 : decode cX2_solve 28 = .ok (.getfield 16, 3) := by decide +kernel
theorem dX2_solve_31 : decode cX2_solve 31 = .ok (.iload 5, 2) := by decide +kernel
theorem dX2_solve_33 : decode cX2_solve 33 = .ok (.dup2, 1) := by decide +kernel
theorem dX2_solve_34 : decode cX2_solve 34 = .ok (.laload, 1) := by decide +kernel
theorem dX2_solve_35 : decode cX2_solve 35 = .ok (.aload_n 1, 1) := by decide +kernel
theorem dX2_solve_36 : decode cX2_solve 36 = .ok (.iload 6, 2) := by decide +kernel
theorem dX2_solve_38 : decode cX2_solve 38 = .ok (.aaload, 1) := by decide +kernel
theorem dX2_solve_39 : decode cX2_solve 39 = .ok (.iload 5, 2) := by decide +kernel
theorem dX2_solve_41 : decode cX2_solve 41 = .ok (.iaload, 1) := by decide +kernel
theorem dX2_solve_42 : decode cX2_solve 42 = .ok (.aload_n 2, 1) := by decide +kernel
theorem dX2_solve_43 : decode cX2_solve 43 = .ok (.iload 6, 2) := by decide +kernel
theorem dX2_solve_45 : decode cX2_solve 45 = .ok (.iaload, 1) := by decide +kernel
theorem dX2_solve_46 : decode cX2_solve 46 = .ok (.imul, 1) := by decide +kernel
theorem dX2_solve_47 : decode cX2_solve 47 = .ok (.i2l, 1) := by decide +kernel
theorem dX2_solve_48 : decode cX2_solve 48 = .ok (.ladd, 1) := by decide +kernel
theorem dX2_solve_49 : decode cX2_solve 49 = .ok (.lastore, 1) := by decide +kernel
theorem dX2_solve_50 : decode cX2_solve 50 = .ok (.iinc 6 1, 3) := by decide +kernel
theorem dX2_solve_53 : decode cX2_solve 53 = .ok (.goto (-32), 3) := by decide +kernel
theorem dX2_solve_56 : decode cX2_solve 56 = .ok (.iconst 0, 1) := by decide +kernel
theorem dX2_solve_57 : decode cX2_solve 57 = .ok (.istore 6, 2) := by decide +kernel
theorem dX2_solve_59 : decode cX2_solve 59 = .ok (.iload 6, 2) := by decide +kernel
theorem dX2_solve_61 : decode cX2_solve 61 = .ok (.iload 4, 2) := by decide +kernel
theorem dX2_solve_63 : decode cX2_solve 63 = .ok (.if_icmp .ge 29, 3) := by decide +kernel
theorem dX2_solve_66 : decode cX2_solve 66 = .ok (.aload_n 0, 1) := by decide +kernel
theorem dX2_solve_67 : decode cX2_solve 67 = .ok (.getfield 11, 3) := by decide +kernel
theorem dX2_solve_70 : decode cX2_solve 70 = .ok (.iload 5, 2) := by decide +kernel
theorem dX2_solve_72 : decode cX2_solve 72 = .ok (.aaload, 1) := by decide +kernel
theorem dX2_solve_73 : decode cX2_solve 73 = .ok (.iload 6, 2) := by decide +kernel
theorem dX2_solve_75 : decode cX2_solve 75 = .ok (.aload_n 1, 1) := by decide +kernel
theorem dX2_solve_76 : decode cX2_solve 76 = .ok (.iload_n 3, 1) := by decide +kernel
theorem dX2_solve_77 : decode cX2_solve 77 = .ok (.iload 5, 2) := by decide +kernel
theorem dX2_solve_79 : decode cX2_solve 79 = .ok (.iload 6, 2) := by decide +kernel
theorem dX2_solve_81 : decode cX2_solve 81 = .ok (.invokestatic 40, 3) := by decide +kernel
theorem dX2_solve_84 : decode cX2_solve 84 = .ok (.i2l, 1) := by decide +kernel
theorem dX2_solve_85 : decode cX2_solve 85 = .ok (.lastore, 1) := by decide +kernel
theorem dX2_solve_86 : decode cX2_solve 86 = .ok (.iinc 6 1, 3) := by decide +kernel
theorem dX2_solve_89 : decode cX2_solve 89 = .ok (.goto (-30), 3) := by decide +kernel
theorem dX2_solve_92 : decode cX2_solve 92 = .ok (.iinc 5 1, 3) := by decide +kernel
theorem dX2_solve_95 : decode cX2_solve 95 = .ok (.goto (-92), 3) := by decide +kernel
theorem dX2_solve_98 : decode cX2_solve 98 = .ok (.aload_n 0, 1) := by decide +kernel
theorem dX2_solve_99 : decode cX2_solve 99 = .ok (.aload_n 0, 1) := by decide +kernel
theorem dX2_solve_100 : decode cX2_solve 100 = .ok (.getfield 11, 3) := by decide +kernel
theorem dX2_solve_103 : decode cX2_solve 103 = .ok (.iload 4, 2) := by decide +kernel
theorem dX2_solve_105 : decode cX2_solve 105 = .ok (.iconst 0, 1) := by decide +kernel
theorem dX2_solve_106 : decode cX2_solve 106 = .ok (.iconst 1, 1) := by decide +kernel
theorem dX2_solve_107 : decode cX2_solve 107 = .ok (.iload 4, 2) := by decide +kernel
theorem dX2_solve_109 : decode cX2_solve 109 = .ok (.ishl, 1) := by decide +kernel
theorem dX2_solve_110 : decode cX2_solve 110 = .ok (.iconst 1, 1) := by decide +kernel
theorem dX2_solve_111 : decode cX2_solve 111 = .ok (.isub, 1) := by decide +kernel
theorem dX2_solve_112 : decode cX2_solve 112 = .ok (.invokestatic 44, 3) := by decide +kernel
theorem dX2_solve_115 : decode cX2_solve 115 = .ok (.putfield 48, 3) := by decide +kernel
theorem dX2_solve_118 : decode cX2_solve 118 = .ok (.iconst 0, 1) := by decide +kernel
theorem dX2_solve_119 : decode cX2_solve 119 = .ok (.istore 5, 2) := by decide +kernel
theorem dX2_solve_121 : decode cX2_solve 121 = .ok (.iload 5, 2) := by decide +kernel
theorem dX2_solve_123 : decode cX2_solve 123 = .ok (.iload 4, 2) := by decide +kernel
theorem dX2_solve_125 : decode cX2_solve 125 = .ok (.if_icmp .ge 48, 3) := by decide +kernel
theorem dX2_solve_128 : decode cX2_solve 128 = .ok (.aload_n 0, 1) := by decide +kernel
theorem dX2_solve_129 : decode cX2_solve 129 = .ok (.iload 5, 2) := by decide +kernel
theorem dX2_solve_131 : decode cX2_solve 131 = .ok (.iload 4, 2) := by decide +kernel
theorem dX2_solve_133 : decode cX2_solve 133 = .ok (.invokevirtual 52, 3) := by decide +kernel
theorem dX2_solve_136 : decode cX2_solve 136 = .ok (.aload_n 0, 1) := by decide +kernel
theorem dX2_solve_137 : decode cX2_solve 137 = .ok (.getfield 24, 3) := by decide +kernel
theorem dX2_solve_140 : decode cX2_solve 140 = .ok (.iload 5, 2) := by decide +kernel
theorem dX2_solve_142 : decode cX2_solve 142 = .ok (.aload_n 0, 1) := by decide +kernel
theorem dX2_solve_143 : decode cX2_solve 143 = .ok (.getfield 11, 3) := by decide +kernel
theorem dX2_solve_146 : decode cX2_solve 146 = .ok (.iload 4, 2) := by decide +kernel
theorem dX2_solve_148 : decode cX2_solve 148 = .ok (.iconst 0, 1) := by decide +kernel
theorem dX2_solve_149 : decode cX2_solve 149 = .ok (.iconst 1, 1) := by decide +kernel
theorem dX2_solve_150 : decode cX2_solve 150 = .ok (.iload 4, 2) := by decide +kernel
theorem dX2_solve_152 : decode cX2_solve 152 = .ok (.ishl, 1) := by decide +kernel
theorem dX2_solve_153 : decode cX2_solve 153 = .ok (.iconst 1, 1) := by decide +kernel
theorem dX2_solve_154 : decode cX2_solve 154 = .ok (.isub, 1) := by decide +kernel
theorem dX2_solve_155 : decode cX2_solve 155 = .ok (.invokestatic 44, 3) := by decide +kernel
theorem dX2_solve_158 : decode cX2_solve 158 = .ok (.lastore, 1) := by decide +kernel
theorem dX2_solve_159 : decode cX2_solve 159 = .ok (.aload_n 0, 1) := by decide +kernel
theorem dX2_solve_160 : decode cX2_solve 160 = .ok (.iload 5, 2) := by decide +kernel
theorem dX2_solve_162 : decode cX2_solve 162 = .ok (.iload 4, 2) := by decide +kernel
theorem dX2_solve_164 : decode cX2_solve 164 = .ok (.invokevirtual 52, 3) := by decide +kernel
theorem dX2_solve_167 : decode cX2_solve 167 = .ok (.iinc 5 1, 3) := by decide +kernel
theorem dX2_solve_170 : decode cX2_solve 170 = .ok (.goto (-49), 3) := by decide +kernel
theorem dX2_solve_173 : decode cX2_solve 173 = .ok (.return_, 1) := by decide +kernel
set_option maxHeartbeats 4000000 in
set_option maxRecDepth 100000 in
theorem a_X2_solve_10 (l : Launch) (dC : Nat → ClassId) (dI : Nat → Nat → Nat) (h : Nat → Nat) (cs : Nat → ClassId) (sz : Nat) (I : Nat → Int32) (L : Nat → Int64) (A : Nat → Nat → Int32) (Q : Nat → Nat → Int64) (G : Nat → Nat → Nat → Int32) (J : Nat → Nat → Nat → Int64) : Met l yX2_solve wsX2_solve ({ frames := 6, cells := 0, slots := 0, locals := 228 }) (va_Pc [.ref (h 106), .ref (h 130), .ref (h 136), .int (nI 2), .int (nI 2)] (xPre (dC, dI) (wD_9 h cs fI fL fA fQ fG fJ) (tysA cs) sz)) (va_Qv (fun (u : CS) => (True) ∧ u = (fI, fL, fA, fQ, fG, fJ)) (xB (dC, dI) (tysA cs) (va_A (wD_9 h cs fI fL fA fQ fG fJ) sz) (fun u : CS => wD_9 h cs u.1 u.2.1 u.2.2.1 u.2.2.2.1 u.2.2.2.2.1 u.2.2.2.2.2)) (va_A (wD_9 h cs fI fL fA fQ fG fJ) sz)) 0 0 (va_A (wD_9 h cs fI fL fA fQ fG fJ) sz) := by
  refine Met.ofW (cc := cX2_solve) (maxL := 7) (ret := none) (by decide) rfl ?_
  intro p e s m args below meth c s₁ B hml hv
  obtain ⟨rfl, hsz, hP, hK, hD0, hN⟩ := hv
  have hx := B.exec
  have hb := B.bytes
  have hr := B.returns
  have hts := atoms_spec (ws := wsX2_solve) B.pre
  have hown : s.vm.findClass RX2 = some m.cls := findClass_of_methodNamed B.named
  have hlocks := B.notSynchronized
  subst hsz
  have hD := hD0.self (sz := s.heap.size)
  generalize hAe : va_A (wD_9 h cs fI fL fA fQ fG fJ) s.heap.size = A0 at hD ⊢
  have hA : ∀ q : Nat, s.heap.size ≤ q → A0 q := fun q h => by rw [← hAe]; exact Or.inr h
  have hl := lv_entry ([.ref (h 106), .ref (h 130), .ref (h 136), .int (nI 2), .int (nI 2)]) (n := 7) (Nat.le_of_ble_eq_true rfl)
  rw [lg_entry_eq]
  generalize (lg_sl ([.ref (h 106), .ref (h 130), .ref (h 136), .int (nI 2), .int (nI 2)]) ++ List.replicate (7 - (lg_sl ([.ref (h 106), .ref (h 130), .ref (h 136), .int (nI 2), .int (nI 2)])).length) Slot.unset).toArray = ls at hl ⊢
  have hl : lv_has ls 7 [(0, .ref (h 106)), (1, .ref (h 130)), (2, .ref (h 136)), (3, .int (nI 2)), (4, .int (nI 2))] := hl
  generalize hH : s.heap = H at hP ⊢
  have hS : va_S A0 s.heap H [] := by rw [← hH]; exact va_S.rf
  have hinX2 : ∀ w ∈ wsX20, w ∈ wsX2_solve := by decide +kernel
  refine lv_iconst (v := nI 0) hx hb dX2_solve_0 (by decide) ?_
  refine lv_istore (lv' := [(5, .int (nI 0)), (0, .ref (h 106)), (1, .ref (h 130)), (2, .ref (h 136)), (3, .int (nI 2)), (4, .int (nI 2))]) hx hb dX2_solve_1 hl (by decide) rfl (fun ls hl => ?_)
  refine lv_iload hx hb dX2_solve_3 (lv_at hl 0 rfl) ?_
  refine lv_iload hx hb dX2_solve_5 (lv_at hl 5 rfl) ?_
  refine lv_icmp_ge (tgt := 98) hx hb dX2_solve_7 (by decide) (fun c9 => False.elim (by revert c9; decide +kernel)) (fun _ => ?_)
  refine lv_aload_n hx hb dX2_solve_10 rfl (lv_at hl 1 rfl) ?_
  refine va_get (D := (dC, dI)) (ci := 2) (v := .ref (h 185)) (C := RX2) (T := TX2) (N := 5) hx hb hts hinX2 hown hK hP 0 rfl rfl 1 (by decide) (hts (.fieldLink RX2 16 "MixedWords$Least" "right" "[J") (by decide +kernel)) (fun _ h9 => h9) rfl dX2_solve_11 ?_
  refine lv_iload hx hb dX2_solve_14 (lv_at hl 0 rfl) ?_
  refine lv_lconst (v := 0) hx hb dX2_solve_16 rfl ?_
  refine xa_lastS hx hb hK hP hD hS 13 1 rfl rfl (by omega) (by decide) (by decide +kernel) dX2_solve_17 (fun H locs hP hD hS => ?_)
  refine lv_iconst (v := nI 0) hx hb dX2_solve_18 (by decide) ?_
  refine lv_istore (lv' := [(6, .int (nI 0)), (5, .int (nI 0)), (0, .ref (h 106)), (1, .ref (h 130)), (2, .ref (h 136)), (3, .int (nI 2)), (4, .int (nI 2))]) hx hb dX2_solve_19 hl (by decide) rfl (fun ls hl => ?_)
  refine lv_iload hx hb dX2_solve_21 (lv_at hl 0 rfl) ?_
  refine lv_iload_n hx hb dX2_solve_23 rfl (lv_at hl 5 rfl) ?_
  refine lv_icmp_ge (tgt := 56) hx hb dX2_solve_24 (by decide) (fun c9 => False.elim (by revert c9; decide +kernel)) (fun _ => ?_)
  refine lv_aload_n hx hb dX2_solve_27 rfl (lv_at hl 2 rfl) ?_
  refine va_get (D := (dC, dI)) (ci := 2) (v := .ref (h 185)) (C := RX2) (T := TX2) (N := 5) hx hb hts hinX2 hown hK hP 0 rfl rfl 1 (by decide) (hts (.fieldLink RX2 16 "MixedWords$Least" "right" "[J") (by decide +kernel)) (fun _ h9 => h9) rfl dX2_solve_28 ?_
  refine lv_iload hx hb dX2_solve_31 (lv_at hl 1 rfl) ?_
  refine lv_dup2_11 hx hb dX2_solve_33 rfl rfl ?_
  refine xa_lald hx hb hK hP 13 1 rfl rfl (by omega) (by decide) dX2_solve_34 ?_
  refine xt_l (y := (0 : Int64)) (by decide +kernel) ?_
  refine lv_aload_n hx hb dX2_solve_35 rfl (lv_at hl 3 rfl) ?_
  refine lv_iload hx hb dX2_solve_36 (lv_at hl 0 rfl) ?_
  refine xa_aald (b := h 131) hx hb hK hP 1 3 rfl rfl rfl (by omega) (by decide) (if_pos (by omega)) dX2_solve_38 ?_
  refine lv_iload hx hb dX2_solve_39 (lv_at hl 1 rfl) ?_
  refine xa_iald hx hb hK hP 2 0 rfl rfl (by omega) (by decide) dX2_solve_41 ?_
  refine xt_i (y := nI 0) (by decide +kernel) ?_
  refine lv_aload_n hx hb dX2_solve_42 rfl (lv_at hl 4 rfl) ?_
  refine lv_iload hx hb dX2_solve_43 (lv_at hl 0 rfl) ?_
  refine xa_iald hx hb hK hP 7 0 rfl rfl (by omega) (by decide) dX2_solve_45 ?_
  refine xt_i (y := nI 0) (by decide +kernel) ?_
  refine lv_imul hx hb dX2_solve_46 ?_
  refine xt_i (y := nI 0) (by decide +kernel) ?_
  refine lv_i2l (v := (0 : Int64)) hx hb dX2_solve_47 (by decide +kernel) ?_
  refine lv_ladd hx hb dX2_solve_48 ?_
  refine xt_l (y := (0 : Int64)) (by decide +kernel) ?_
  refine xa_lastS hx hb hK hP hD hS 13 1 rfl rfl (by omega) (by decide) (by decide +kernel) dX2_solve_49 (fun H locs hP hD hS => ?_)
  refine lv_iinc (v := nI 1) (lv' := [(6, .int (nI 1)), (5, .int (nI 0)), (0, .ref (h 106)), (1, .ref (h 130)), (2, .ref (h 136)), (3, .int (nI 2)), (4, .int (nI 2))]) hx hb dX2_solve_50 hl (k := 0) rfl (by decide +kernel) (by decide) rfl (fun ls hl => ?_)
  refine lv_goto (tgt := 21) hx hb dX2_solve_53 (by decide) ?_
  refine lv_iload hx hb dX2_solve_21 (lv_at hl 0 rfl) ?_
  refine lv_iload_n hx hb dX2_solve_23 rfl (lv_at hl 5 rfl) ?_
  refine lv_icmp_ge (tgt := 56) hx hb dX2_solve_24 (by decide) (fun c9 => False.elim (by revert c9; decide +kernel)) (fun _ => ?_)
  refine lv_aload_n hx hb dX2_solve_27 rfl (lv_at hl 2 rfl) ?_
  refine va_get (D := (dC, dI)) (ci := 2) (v := .ref (h 185)) (C := RX2) (T := TX2) (N := 5) hx hb hts hinX2 hown hK hP 0 rfl rfl 1 (by decide) (hts (.fieldLink RX2 16 "MixedWords$Least" "right" "[J") (by decide +kernel)) (fun _ h9 => h9) rfl dX2_solve_28 ?_
  refine lv_iload hx hb dX2_solve_31 (lv_at hl 1 rfl) ?_
  refine lv_dup2_11 hx hb dX2_solve_33 rfl rfl ?_
  refine xa_lald hx hb hK hP 13 1 rfl rfl (by omega) (by decide) dX2_solve_34 ?_
  refine xt_l (y := (0 : Int64)) (by decide +kernel) ?_
  refine lv_aload_n hx hb dX2_solve_35 rfl (lv_at hl 3 rfl) ?_
  refine lv_iload hx hb dX2_solve_36 (lv_at hl 0 rfl) ?_
  refine xa_aald (b := h 132) hx hb hK hP 1 3 rfl rfl rfl (by omega) (by decide) (if_pos (by omega)) dX2_solve_38 ?_
  refine lv_iload hx hb dX2_solve_39 (lv_at hl 1 rfl) ?_
  refine xa_iald hx hb hK hP 3 0 rfl rfl (by omega) (by decide) dX2_solve_41 ?_
  refine xt_i (y := nI 0) (by decide +kernel) ?_
  refine lv_aload_n hx hb dX2_solve_42 rfl (lv_at hl 4 rfl) ?_
  refine lv_iload hx hb dX2_solve_43 (lv_at hl 0 rfl) ?_
  refine xa_iald hx hb hK hP 7 0 rfl rfl (by omega) (by decide) dX2_solve_45 ?_
  refine xt_i (y := nI 0) (by decide +kernel) ?_
  refine lv_imul hx hb dX2_solve_46 ?_
  refine xt_i (y := nI 0) (by decide +kernel) ?_
  refine lv_i2l (v := (0 : Int64)) hx hb dX2_solve_47 (by decide +kernel) ?_
  refine lv_ladd hx hb dX2_solve_48 ?_
  refine xt_l (y := (0 : Int64)) (by decide +kernel) ?_
  refine xa_lastS hx hb hK hP hD hS 13 1 rfl rfl (by omega) (by decide) (by decide +kernel) dX2_solve_49 (fun H locs hP hD hS => ?_)
  refine lv_iinc (v := nI 2) (lv' := [(6, .int (nI 2)), (5, .int (nI 0)), (0, .ref (h 106)), (1, .ref (h 130)), (2, .ref (h 136)), (3, .int (nI 2)), (4, .int (nI 2))]) hx hb dX2_solve_50 hl (k := 0) rfl (by decide +kernel) (by decide) rfl (fun ls hl => ?_)
  refine lv_goto (tgt := 21) hx hb dX2_solve_53 (by decide) ?_
  refine lv_iload hx hb dX2_solve_21 (lv_at hl 0 rfl) ?_
  refine lv_iload_n hx hb dX2_solve_23 rfl (lv_at hl 5 rfl) ?_
  refine lv_icmp_ge (tgt := 56) hx hb dX2_solve_24 (by decide) (fun _ => ?_) (fun c9 => False.elim (by revert c9; decide +kernel))
  refine lv_iconst (v := nI 0) hx hb dX2_solve_56 (by decide) ?_
  refine lv_istore (lv' := [(6, .int (nI 0)), (5, .int (nI 0)), (0, .ref (h 106)), (1, .ref (h 130)), (2, .ref (h 136)), (3, .int (nI 2)), (4, .int (nI 2))]) hx hb dX2_solve_57 hl (by decide) rfl (fun ls hl => ?_)
  refine lv_iload hx hb dX2_solve_59 (lv_at hl 0 rfl) ?_
  refine lv_iload hx hb dX2_solve_61 (lv_at hl 6 rfl) ?_
  refine lv_icmp_ge (tgt := 92) hx hb dX2_solve_63 (by decide) (fun c9 => False.elim (by revert c9; decide +kernel)) (fun _ => ?_)
  refine lv_aload_n hx hb dX2_solve_66 rfl (lv_at hl 2 rfl) ?_
  refine va_get (D := (dC, dI)) (ci := 2) (v := .ref (h 180)) (C := RX2) (T := TX2) (N := 5) hx hb hts hinX2 hown hK hP 0 rfl rfl 0 (by decide) (hts (.fieldLink RX2 11 "MixedWords$Least" "square" "[[J") (by decide +kernel)) (fun _ h9 => h9) rfl dX2_solve_67 ?_
  refine lv_iload hx hb dX2_solve_70 (lv_at hl 1 rfl) ?_
  refine xa_aald (b := h 181) hx hb hK hP 8 4 rfl rfl rfl (by omega) (by decide) (if_pos (by omega)) dX2_solve_72 ?_
  refine lv_iload hx hb dX2_solve_73 (lv_at hl 0 rfl) ?_
  refine lv_aload_n hx hb dX2_solve_75 rfl (lv_at hl 3 rfl) ?_
  refine lv_iload_n hx hb dX2_solve_76 rfl (lv_at hl 5 rfl) ?_
  refine lv_iload hx hb dX2_solve_77 (lv_at hl 1 rfl) ?_
  refine lv_iload hx hb dX2_solve_79 (lv_at hl 0 rfl) ?_
  refine xj_i (wc := (wD_11 h cs fI fL fA fQ fG fJ)) (wr := [(h 106, .inr (2, [.ref (h 180), .ref (h 185), .ref (h 186), .ref (h 187), .long (fL 188)])), (h 136, .inl (cs 0, 5, .inl (fA 136))), (h 180, .inl (cs 4, 4, .inr (.inr (.inr (.inr (fun i => if i < 4 then some (h (i + 181)) else none)))))), (h 181, .inl (cs 1, 4, .inr (.inl ((fJ 0) 0)))), (h 182, .inl (cs 1, 4, .inr (.inl ((fJ 0) 1)))), (h 183, .inl (cs 1, 4, .inr (.inl ((fJ 0) 2)))), (h 184, .inl (cs 1, 4, .inr (.inl ((fJ 0) 3)))), (h 185, .inl (cs 1, 4, .inr (.inl (fQ 185)))), (h 186, .inl (cs 0, 4, .inl (fA 186))), (h 187, .inl (cs 1, 4, .inr (.inl (fQ 187))))]) hP hD hS hA [1, 2, 3, 4, 5, 6] [0, 7, 8, 9, 10, 11, 12, 13, 14, 15] rfl rfl (by decide) (by decide) (va_runSN (As := [.ref (h 130), .int (nI 2), .int (nI 0), .int (nI 0)]) (rest := [.int (nI 0), .ref (h 181)]) ⟨hx, hb, hml, hown, hts⟩ (a_X9_product_12 l dC dI h cs H.size fI fL fA fQ fG fJ ) ⟨va_cnB (host := "MixedWords") 4 hts gX2_solve_X9_product_n40 rfl rfl rfl hN.2.2.2.2.2.1 (hts (.initialized RX9) (by decide +kernel)) (by decide +kernel) ⟨Nat.le_of_ble_eq_true rfl, Nat.le_of_ble_eq_true rfl⟩, hts (.static yX9_product) (by decide +kernel), trivial⟩ (xpS (wc := (wD_11 h cs fI fL fA fQ fG fJ)) hP hD hK hN [1, 2, 3, 4, 5, 6] rfl (by decide) _) rfl rfl hl.1 rfl (lv_room (Nat.le_of_ble_eq_true rfl)) dX2_solve_81 ⟨Nat.zero_le _, Nat.zero_le _⟩) (fun r_2 u_1 H locs hw hP hD hS => ?_)
  obtain ⟨hf_3, rfl⟩ := hw
  have hP : va_P (dC, dI) vwCl (wD_9 h cs fI fL fA fQ fG fJ) H := xP_sub hP [0, 10, 11, 12, 13, 14, 15, 1, 2, 3, 4, 5, 6, 7, 8, 9] rfl
  have hD : va_D A0 (wD_9 h cs fI fL fA fQ fG fJ) := hD.sub [0, 10, 11, 12, 13, 14, 15, 1, 2, 3, 4, 5, 6, 7, 8, 9] (by decide) rfl
  obtain rfl := hf_3
  refine lv_i2l (v := (0 : Int64)) hx hb dX2_solve_84 (by decide +kernel) ?_
  refine xa_lastS hx hb hK hP hD hS 9 1 rfl rfl (by omega) (by decide) (by decide +kernel) dX2_solve_85 (fun H locs hP hD hS => ?_)
  refine lv_iinc (v := nI 1) (lv' := [(6, .int (nI 1)), (5, .int (nI 0)), (0, .ref (h 106)), (1, .ref (h 130)), (2, .ref (h 136)), (3, .int (nI 2)), (4, .int (nI 2))]) hx hb dX2_solve_86 hl (k := 0) rfl (by decide +kernel) (by decide) rfl (fun ls hl => ?_)
  refine lv_goto (tgt := 59) hx hb dX2_solve_89 (by decide) ?_
  refine lv_iload hx hb dX2_solve_59 (lv_at hl 0 rfl) ?_
  refine lv_iload hx hb dX2_solve_61 (lv_at hl 6 rfl) ?_
  refine lv_icmp_ge (tgt := 92) hx hb dX2_solve_63 (by decide) (fun c9 => False.elim (by revert c9; decide +kernel)) (fun _ => ?_)
  refine lv_aload_n hx hb dX2_solve_66 rfl (lv_at hl 2 rfl) ?_
  refine va_get (D := (dC, dI)) (ci := 2) (v := .ref (h 180)) (C := RX2) (T := TX2) (N := 5) hx hb hts hinX2 hown hK hP 0 rfl rfl 0 (by decide) (hts (.fieldLink RX2 11 "MixedWords$Least" "square" "[[J") (by decide +kernel)) (fun _ h9 => h9) rfl dX2_solve_67 ?_
  refine lv_iload hx hb dX2_solve_70 (lv_at hl 1 rfl) ?_
  refine xa_aald (b := h 181) hx hb hK hP 8 4 rfl rfl rfl (by omega) (by decide) (if_pos (by omega)) dX2_solve_72 ?_
  refine lv_iload hx hb dX2_solve_73 (lv_at hl 0 rfl) ?_
  refine lv_aload_n hx hb dX2_solve_75 rfl (lv_at hl 3 rfl) ?_
  refine lv_iload_n hx hb dX2_solve_76 rfl (lv_at hl 5 rfl) ?_
  refine lv_iload hx hb dX2_solve_77 (lv_at hl 1 rfl) ?_
  refine lv_iload hx hb dX2_solve_79 (lv_at hl 0 rfl) ?_
  refine xj_i (wc := (wD_11 h cs fI fL fA fQ fG fJ)) (wr := [(h 106, .inr (2, [.ref (h 180), .ref (h 185), .ref (h 186), .ref (h 187), .long (fL 188)])), (h 136, .inl (cs 0, 5, .inl (fA 136))), (h 180, .inl (cs 4, 4, .inr (.inr (.inr (.inr (fun i => if i < 4 then some (h (i + 181)) else none)))))), (h 181, .inl (cs 1, 4, .inr (.inl ((fJ 0) 0)))), (h 182, .inl (cs 1, 4, .inr (.inl ((fJ 0) 1)))), (h 183, .inl (cs 1, 4, .inr (.inl ((fJ 0) 2)))), (h 184, .inl (cs 1, 4, .inr (.inl ((fJ 0) 3)))), (h 185, .inl (cs 1, 4, .inr (.inl (fQ 185)))), (h 186, .inl (cs 0, 4, .inl (fA 186))), (h 187, .inl (cs 1, 4, .inr (.inl (fQ 187))))]) hP hD hS hA [1, 2, 3, 4, 5, 6] [0, 7, 8, 9, 10, 11, 12, 13, 14, 15] rfl rfl (by decide) (by decide) (va_runSN (As := [.ref (h 130), .int (nI 2), .int (nI 0), .int (nI 1)]) (rest := [.int (nI 1), .ref (h 181)]) ⟨hx, hb, hml, hown, hts⟩ (a_X9_product_13 l dC dI h cs H.size fI fL fA fQ fG fJ ) ⟨va_cnB (host := "MixedWords") 4 hts gX2_solve_X9_product_n40 rfl rfl rfl hN.2.2.2.2.2.1 (hts (.initialized RX9) (by decide +kernel)) (by decide +kernel) ⟨Nat.le_of_ble_eq_true rfl, Nat.le_of_ble_eq_true rfl⟩, hts (.static yX9_product) (by decide +kernel), trivial⟩ (xpS (wc := (wD_11 h cs fI fL fA fQ fG fJ)) hP hD hK hN [1, 2, 3, 4, 5, 6] rfl (by decide) _) rfl rfl hl.1 rfl (lv_room (Nat.le_of_ble_eq_true rfl)) dX2_solve_81 ⟨Nat.zero_le _, Nat.zero_le _⟩) (fun r_5 u_4 H locs hw hP hD hS => ?_)
  obtain ⟨hf_6, rfl⟩ := hw
  have hP : va_P (dC, dI) vwCl (wD_9 h cs fI fL fA fQ fG fJ) H := xP_sub hP [0, 10, 11, 12, 13, 14, 15, 1, 2, 3, 4, 5, 6, 7, 8, 9] rfl
  have hD : va_D A0 (wD_9 h cs fI fL fA fQ fG fJ) := hD.sub [0, 10, 11, 12, 13, 14, 15, 1, 2, 3, 4, 5, 6, 7, 8, 9] (by decide) rfl
  obtain rfl := hf_6
  refine lv_i2l (v := (0 : Int64)) hx hb dX2_solve_84 (by decide +kernel) ?_
  refine xa_lastS hx hb hK hP hD hS 9 1 rfl rfl (by omega) (by decide) (by decide +kernel) dX2_solve_85 (fun H locs hP hD hS => ?_)
  refine lv_iinc (v := nI 2) (lv' := [(6, .int (nI 2)), (5, .int (nI 0)), (0, .ref (h 106)), (1, .ref (h 130)), (2, .ref (h 136)), (3, .int (nI 2)), (4, .int (nI 2))]) hx hb dX2_solve_86 hl (k := 0) rfl (by decide +kernel) (by decide) rfl (fun ls hl => ?_)
  refine lv_goto (tgt := 59) hx hb dX2_solve_89 (by decide) ?_
  refine lv_iload hx hb dX2_solve_59 (lv_at hl 0 rfl) ?_
  refine lv_iload hx hb dX2_solve_61 (lv_at hl 6 rfl) ?_
  refine lv_icmp_ge (tgt := 92) hx hb dX2_solve_63 (by decide) (fun _ => ?_) (fun c9 => False.elim (by revert c9; decide +kernel))
  refine lv_iinc (v := nI 1) (lv' := [(5, .int (nI 1)), (6, .int (nI 2)), (0, .ref (h 106)), (1, .ref (h 130)), (2, .ref (h 136)), (3, .int (nI 2)), (4, .int (nI 2))]) hx hb dX2_solve_92 hl (k := 1) rfl (by decide +kernel) (by decide) rfl (fun ls hl => ?_)
  refine lv_goto (tgt := 3) hx hb dX2_solve_95 (by decide) ?_
  refine lv_iload hx hb dX2_solve_3 (lv_at hl 0 rfl) ?_
  refine lv_iload hx hb dX2_solve_5 (lv_at hl 6 rfl) ?_
  refine lv_icmp_ge (tgt := 98) hx hb dX2_solve_7 (by decide) (fun c9 => False.elim (by revert c9; decide +kernel)) (fun _ => ?_)
  refine lv_aload_n hx hb dX2_solve_10 rfl (lv_at hl 2 rfl) ?_
  refine va_get (D := (dC, dI)) (ci := 2) (v := .ref (h 185)) (C := RX2) (T := TX2) (N := 5) hx hb hts hinX2 hown hK hP 0 rfl rfl 1 (by decide) (hts (.fieldLink RX2 16 "MixedWords$Least" "right" "[J") (by decide +kernel)) (fun _ h9 => h9) rfl dX2_solve_11 ?_
  refine lv_iload hx hb dX2_solve_14 (lv_at hl 0 rfl) ?_
  refine lv_lconst (v := 0) hx hb dX2_solve_16 rfl ?_
  refine xa_lastS hx hb hK hP hD hS 13 1 rfl rfl (by omega) (by decide) (by decide +kernel) dX2_solve_17 (fun H locs hP hD hS => ?_)
  refine lv_iconst (v := nI 0) hx hb dX2_solve_18 (by decide) ?_
  refine lv_istore (lv' := [(6, .int (nI 0)), (5, .int (nI 1)), (0, .ref (h 106)), (1, .ref (h 130)), (2, .ref (h 136)), (3, .int (nI 2)), (4, .int (nI 2))]) hx hb dX2_solve_19 hl (by decide) rfl (fun ls hl => ?_)
  refine lv_iload hx hb dX2_solve_21 (lv_at hl 0 rfl) ?_
  refine lv_iload_n hx hb dX2_solve_23 rfl (lv_at hl 5 rfl) ?_
  refine lv_icmp_ge (tgt := 56) hx hb dX2_solve_24 (by decide) (fun c9 => False.elim (by revert c9; decide +kernel)) (fun _ => ?_)
  refine lv_aload_n hx hb dX2_solve_27 rfl (lv_at hl 2 rfl) ?_
  refine va_get (D := (dC, dI)) (ci := 2) (v := .ref (h 185)) (C := RX2) (T := TX2) (N := 5) hx hb hts hinX2 hown hK hP 0 rfl rfl 1 (by decide) (hts (.fieldLink RX2 16 "MixedWords$Least" "right" "[J") (by decide +kernel)) (fun _ h9 => h9) rfl dX2_solve_28 ?_
  refine lv_iload hx hb dX2_solve_31 (lv_at hl 1 rfl) ?_
  refine lv_dup2_11 hx hb dX2_solve_33 rfl rfl ?_
  refine xa_lald hx hb hK hP 13 1 rfl rfl (by omega) (by decide) dX2_solve_34 ?_
  refine xt_l (y := (0 : Int64)) (by decide +kernel) ?_
  refine lv_aload_n hx hb dX2_solve_35 rfl (lv_at hl 3 rfl) ?_
  refine lv_iload hx hb dX2_solve_36 (lv_at hl 0 rfl) ?_
  refine xa_aald (b := h 131) hx hb hK hP 1 3 rfl rfl rfl (by omega) (by decide) (if_pos (by omega)) dX2_solve_38 ?_
  refine lv_iload hx hb dX2_solve_39 (lv_at hl 1 rfl) ?_
  refine xa_iald hx hb hK hP 2 0 rfl rfl (by omega) (by decide) dX2_solve_41 ?_
  refine xt_i (y := nI 0) (by decide +kernel) ?_
  refine lv_aload_n hx hb dX2_solve_42 rfl (lv_at hl 4 rfl) ?_
  refine lv_iload hx hb dX2_solve_43 (lv_at hl 0 rfl) ?_
  refine xa_iald hx hb hK hP 7 0 rfl rfl (by omega) (by decide) dX2_solve_45 ?_
  refine xt_i (y := nI 0) (by decide +kernel) ?_
  refine lv_imul hx hb dX2_solve_46 ?_
  refine xt_i (y := nI 0) (by decide +kernel) ?_
  refine lv_i2l (v := (0 : Int64)) hx hb dX2_solve_47 (by decide +kernel) ?_
  refine lv_ladd hx hb dX2_solve_48 ?_
  refine xt_l (y := (0 : Int64)) (by decide +kernel) ?_
  refine xa_lastS hx hb hK hP hD hS 13 1 rfl rfl (by omega) (by decide) (by decide +kernel) dX2_solve_49 (fun H locs hP hD hS => ?_)
  refine lv_iinc (v := nI 1) (lv' := [(6, .int (nI 1)), (5, .int (nI 1)), (0, .ref (h 106)), (1, .ref (h 130)), (2, .ref (h 136)), (3, .int (nI 2)), (4, .int (nI 2))]) hx hb dX2_solve_50 hl (k := 0) rfl (by decide +kernel) (by decide) rfl (fun ls hl => ?_)
  refine lv_goto (tgt := 21) hx hb dX2_solve_53 (by decide) ?_
  refine lv_iload hx hb dX2_solve_21 (lv_at hl 0 rfl) ?_
  refine lv_iload_n hx hb dX2_solve_23 rfl (lv_at hl 5 rfl) ?_
  refine lv_icmp_ge (tgt := 56) hx hb dX2_solve_24 (by decide) (fun c9 => False.elim (by revert c9; decide +kernel)) (fun _ => ?_)
  refine lv_aload_n hx hb dX2_solve_27 rfl (lv_at hl 2 rfl) ?_
  refine va_get (D := (dC, dI)) (ci := 2) (v := .ref (h 185)) (C := RX2) (T := TX2) (N := 5) hx hb hts hinX2 hown hK hP 0 rfl rfl 1 (by decide) (hts (.fieldLink RX2 16 "MixedWords$Least" "right" "[J") (by decide +kernel)) (fun _ h9 => h9) rfl dX2_solve_28 ?_
  refine lv_iload hx hb dX2_solve_31 (lv_at hl 1 rfl) ?_
  refine lv_dup2_11 hx hb dX2_solve_33 rfl rfl ?_
  refine xa_lald hx hb hK hP 13 1 rfl rfl (by omega) (by decide) dX2_solve_34 ?_
  refine xt_l (y := (0 : Int64)) (by decide +kernel) ?_
  refine lv_aload_n hx hb dX2_solve_35 rfl (lv_at hl 3 rfl) ?_
  refine lv_iload hx hb dX2_solve_36 (lv_at hl 0 rfl) ?_
  refine xa_aald (b := h 132) hx hb hK hP 1 3 rfl rfl rfl (by omega) (by decide) (if_pos (by omega)) dX2_solve_38 ?_
  refine lv_iload hx hb dX2_solve_39 (lv_at hl 1 rfl) ?_
  refine xa_iald hx hb hK hP 3 0 rfl rfl (by omega) (by decide) dX2_solve_41 ?_
  refine xt_i (y := nI 0) (by decide +kernel) ?_
  refine lv_aload_n hx hb dX2_solve_42 rfl (lv_at hl 4 rfl) ?_
  refine lv_iload hx hb dX2_solve_43 (lv_at hl 0 rfl) ?_
  refine xa_iald hx hb hK hP 7 0 rfl rfl (by omega) (by decide) dX2_solve_45 ?_
  refine xt_i (y := nI 0) (by decide +kernel) ?_
  refine lv_imul hx hb dX2_solve_46 ?_
  refine xt_i (y := nI 0) (by decide +kernel) ?_
  refine lv_i2l (v := (0 : Int64)) hx hb dX2_solve_47 (by decide +kernel) ?_
  refine lv_ladd hx hb dX2_solve_48 ?_
  refine xt_l (y := (0 : Int64)) (by decide +kernel) ?_
  refine xa_lastS hx hb hK hP hD hS 13 1 rfl rfl (by omega) (by decide) (by decide +kernel) dX2_solve_49 (fun H locs hP hD hS => ?_)
  refine lv_iinc (v := nI 2) (lv' := [(6, .int (nI 2)), (5, .int (nI 1)), (0, .ref (h 106)), (1, .ref (h 130)), (2, .ref (h 136)), (3, .int (nI 2)), (4, .int (nI 2))]) hx hb dX2_solve_50 hl (k := 0) rfl (by decide +kernel) (by decide) rfl (fun ls hl => ?_)
  refine lv_goto (tgt := 21) hx hb dX2_solve_53 (by decide) ?_
  refine lv_iload hx hb dX2_solve_21 (lv_at hl 0 rfl) ?_
  refine lv_iload_n hx hb dX2_solve_23 rfl (lv_at hl 5 rfl) ?_
  refine lv_icmp_ge (tgt := 56) hx hb dX2_solve_24 (by decide) (fun _ => ?_) (fun c9 => False.elim (by revert c9; decide +kernel))
  refine lv_iconst (v := nI 0) hx hb dX2_solve_56 (by decide) ?_
  refine lv_istore (lv' := [(6, .int (nI 0)), (5, .int (nI 1)), (0, .ref (h 106)), (1, .ref (h 130)), (2, .ref (h 136)), (3, .int (nI 2)), (4, .int (nI 2))]) hx hb dX2_solve_57 hl (by decide) rfl (fun ls hl => ?_)
  refine lv_iload hx hb dX2_solve_59 (lv_at hl 0 rfl) ?_
  refine lv_iload hx hb dX2_solve_61 (lv_at hl 6 rfl) ?_
  refine lv_icmp_ge (tgt := 92) hx hb dX2_solve_63 (by decide) (fun c9 => False.elim (by revert c9; decide +kernel)) (fun _ => ?_)
  refine lv_aload_n hx hb dX2_solve_66 rfl (lv_at hl 2 rfl) ?_
  refine va_get (D := (dC, dI)) (ci := 2) (v := .ref (h 180)) (C := RX2) (T := TX2) (N := 5) hx hb hts hinX2 hown hK hP 0 rfl rfl 0 (by decide) (hts (.fieldLink RX2 11 "MixedWords$Least" "square" "[[J") (by decide +kernel)) (fun _ h9 => h9) rfl dX2_solve_67 ?_
  refine lv_iload hx hb dX2_solve_70 (lv_at hl 1 rfl) ?_
  refine xa_aald (b := h 182) hx hb hK hP 8 4 rfl rfl rfl (by omega) (by decide) (if_pos (by omega)) dX2_solve_72 ?_
  refine lv_iload hx hb dX2_solve_73 (lv_at hl 0 rfl) ?_
  refine lv_aload_n hx hb dX2_solve_75 rfl (lv_at hl 3 rfl) ?_
  refine lv_iload_n hx hb dX2_solve_76 rfl (lv_at hl 5 rfl) ?_
  refine lv_iload hx hb dX2_solve_77 (lv_at hl 1 rfl) ?_
  refine lv_iload hx hb dX2_solve_79 (lv_at hl 0 rfl) ?_
  refine xj_i (wc := (wD_11 h cs fI fL fA fQ fG fJ)) (wr := [(h 106, .inr (2, [.ref (h 180), .ref (h 185), .ref (h 186), .ref (h 187), .long (fL 188)])), (h 136, .inl (cs 0, 5, .inl (fA 136))), (h 180, .inl (cs 4, 4, .inr (.inr (.inr (.inr (fun i => if i < 4 then some (h (i + 181)) else none)))))), (h 181, .inl (cs 1, 4, .inr (.inl ((fJ 0) 0)))), (h 182, .inl (cs 1, 4, .inr (.inl ((fJ 0) 1)))), (h 183, .inl (cs 1, 4, .inr (.inl ((fJ 0) 2)))), (h 184, .inl (cs 1, 4, .inr (.inl ((fJ 0) 3)))), (h 185, .inl (cs 1, 4, .inr (.inl (fQ 185)))), (h 186, .inl (cs 0, 4, .inl (fA 186))), (h 187, .inl (cs 1, 4, .inr (.inl (fQ 187))))]) hP hD hS hA [1, 2, 3, 4, 5, 6] [0, 7, 8, 9, 10, 11, 12, 13, 14, 15] rfl rfl (by decide) (by decide) (va_runSN (As := [.ref (h 130), .int (nI 2), .int (nI 1), .int (nI 0)]) (rest := [.int (nI 0), .ref (h 182)]) ⟨hx, hb, hml, hown, hts⟩ (a_X9_product_14 l dC dI h cs H.size fI fL fA fQ fG fJ ) ⟨va_cnB (host := "MixedWords") 4 hts gX2_solve_X9_product_n40 rfl rfl rfl hN.2.2.2.2.2.1 (hts (.initialized RX9) (by decide +kernel)) (by decide +kernel) ⟨Nat.le_of_ble_eq_true rfl, Nat.le_of_ble_eq_true rfl⟩, hts (.static yX9_product) (by decide +kernel), trivial⟩ (xpS (wc := (wD_11 h cs fI fL fA fQ fG fJ)) hP hD hK hN [1, 2, 3, 4, 5, 6] rfl (by decide) _) rfl rfl hl.1 rfl (lv_room (Nat.le_of_ble_eq_true rfl)) dX2_solve_81 ⟨Nat.zero_le _, Nat.zero_le _⟩) (fun r_8 u_7 H locs hw hP hD hS => ?_)
  obtain ⟨hf_9, rfl⟩ := hw
  have hP : va_P (dC, dI) vwCl (wD_9 h cs fI fL fA fQ fG fJ) H := xP_sub hP [0, 10, 11, 12, 13, 14, 15, 1, 2, 3, 4, 5, 6, 7, 8, 9] rfl
  have hD : va_D A0 (wD_9 h cs fI fL fA fQ fG fJ) := hD.sub [0, 10, 11, 12, 13, 14, 15, 1, 2, 3, 4, 5, 6, 7, 8, 9] (by decide) rfl
  obtain rfl := hf_9
  refine lv_i2l (v := (0 : Int64)) hx hb dX2_solve_84 (by decide +kernel) ?_
  refine xa_lastS hx hb hK hP hD hS 10 1 rfl rfl (by omega) (by decide) (by decide +kernel) dX2_solve_85 (fun H locs hP hD hS => ?_)
  refine lv_iinc (v := nI 1) (lv' := [(6, .int (nI 1)), (5, .int (nI 1)), (0, .ref (h 106)), (1, .ref (h 130)), (2, .ref (h 136)), (3, .int (nI 2)), (4, .int (nI 2))]) hx hb dX2_solve_86 hl (k := 0) rfl (by decide +kernel) (by decide) rfl (fun ls hl => ?_)
  refine lv_goto (tgt := 59) hx hb dX2_solve_89 (by decide) ?_
  refine lv_iload hx hb dX2_solve_59 (lv_at hl 0 rfl) ?_
  refine lv_iload hx hb dX2_solve_61 (lv_at hl 6 rfl) ?_
  refine lv_icmp_ge (tgt := 92) hx hb dX2_solve_63 (by decide) (fun c9 => False.elim (by revert c9; decide +kernel)) (fun _ => ?_)
  refine lv_aload_n hx hb dX2_solve_66 rfl (lv_at hl 2 rfl) ?_
  refine va_get (D := (dC, dI)) (ci := 2) (v := .ref (h 180)) (C := RX2) (T := TX2) (N := 5) hx hb hts hinX2 hown hK hP 0 rfl rfl 0 (by decide) (hts (.fieldLink RX2 11 "MixedWords$Least" "square" "[[J") (by decide +kernel)) (fun _ h9 => h9) rfl dX2_solve_67 ?_
  refine lv_iload hx hb dX2_solve_70 (lv_at hl 1 rfl) ?_
  refine xa_aald (b := h 182) hx hb hK hP 8 4 rfl rfl rfl (by omega) (by decide) (if_pos (by omega)) dX2_solve_72 ?_
  refine lv_iload hx hb dX2_solve_73 (lv_at hl 0 rfl) ?_
  refine lv_aload_n hx hb dX2_solve_75 rfl (lv_at hl 3 rfl) ?_
  refine lv_iload_n hx hb dX2_solve_76 rfl (lv_at hl 5 rfl) ?_
  refine lv_iload hx hb dX2_solve_77 (lv_at hl 1 rfl) ?_
  refine lv_iload hx hb dX2_solve_79 (lv_at hl 0 rfl) ?_
  refine xj_i (wc := (wD_11 h cs fI fL fA fQ fG fJ)) (wr := [(h 106, .inr (2, [.ref (h 180), .ref (h 185), .ref (h 186), .ref (h 187), .long (fL 188)])), (h 136, .inl (cs 0, 5, .inl (fA 136))), (h 180, .inl (cs 4, 4, .inr (.inr (.inr (.inr (fun i => if i < 4 then some (h (i + 181)) else none)))))), (h 181, .inl (cs 1, 4, .inr (.inl ((fJ 0) 0)))), (h 182, .inl (cs 1, 4, .inr (.inl ((fJ 0) 1)))), (h 183, .inl (cs 1, 4, .inr (.inl ((fJ 0) 2)))), (h 184, .inl (cs 1, 4, .inr (.inl ((fJ 0) 3)))), (h 185, .inl (cs 1, 4, .inr (.inl (fQ 185)))), (h 186, .inl (cs 0, 4, .inl (fA 186))), (h 187, .inl (cs 1, 4, .inr (.inl (fQ 187))))]) hP hD hS hA [1, 2, 3, 4, 5, 6] [0, 7, 8, 9, 10, 11, 12, 13, 14, 15] rfl rfl (by decide) (by decide) (va_runSN (As := [.ref (h 130), .int (nI 2), .int (nI 1), .int (nI 1)]) (rest := [.int (nI 1), .ref (h 182)]) ⟨hx, hb, hml, hown, hts⟩ (a_X9_product_15 l dC dI h cs H.size fI fL fA fQ fG fJ ) ⟨va_cnB (host := "MixedWords") 4 hts gX2_solve_X9_product_n40 rfl rfl rfl hN.2.2.2.2.2.1 (hts (.initialized RX9) (by decide +kernel)) (by decide +kernel) ⟨Nat.le_of_ble_eq_true rfl, Nat.le_of_ble_eq_true rfl⟩, hts (.static yX9_product) (by decide +kernel), trivial⟩ (xpS (wc := (wD_11 h cs fI fL fA fQ fG fJ)) hP hD hK hN [1, 2, 3, 4, 5, 6] rfl (by decide) _) rfl rfl hl.1 rfl (lv_room (Nat.le_of_ble_eq_true rfl)) dX2_solve_81 ⟨Nat.zero_le _, Nat.zero_le _⟩) (fun r_11 u_10 H locs hw hP hD hS => ?_)
  obtain ⟨hf_12, rfl⟩ := hw
  have hP : va_P (dC, dI) vwCl (wD_9 h cs fI fL fA fQ fG fJ) H := xP_sub hP [0, 10, 11, 12, 13, 14, 15, 1, 2, 3, 4, 5, 6, 7, 8, 9] rfl
  have hD : va_D A0 (wD_9 h cs fI fL fA fQ fG fJ) := hD.sub [0, 10, 11, 12, 13, 14, 15, 1, 2, 3, 4, 5, 6, 7, 8, 9] (by decide) rfl
  obtain rfl := hf_12
  refine lv_i2l (v := (0 : Int64)) hx hb dX2_solve_84 (by decide +kernel) ?_
  refine xa_lastS hx hb hK hP hD hS 10 1 rfl rfl (by omega) (by decide) (by decide +kernel) dX2_solve_85 (fun H locs hP hD hS => ?_)
  refine lv_iinc (v := nI 2) (lv' := [(6, .int (nI 2)), (5, .int (nI 1)), (0, .ref (h 106)), (1, .ref (h 130)), (2, .ref (h 136)), (3, .int (nI 2)), (4, .int (nI 2))]) hx hb dX2_solve_86 hl (k := 0) rfl (by decide +kernel) (by decide) rfl (fun ls hl => ?_)
  refine lv_goto (tgt := 59) hx hb dX2_solve_89 (by decide) ?_
  refine lv_iload hx hb dX2_solve_59 (lv_at hl 0 rfl) ?_
  refine lv_iload hx hb dX2_solve_61 (lv_at hl 6 rfl) ?_
  refine lv_icmp_ge (tgt := 92) hx hb dX2_solve_63 (by decide) (fun _ => ?_) (fun c9 => False.elim (by revert c9; decide +kernel))
  refine lv_iinc (v := nI 2) (lv' := [(5, .int (nI 2)), (6, .int (nI 2)), (0, .ref (h 106)), (1, .ref (h 130)), (2, .ref (h 136)), (3, .int (nI 2)), (4, .int (nI 2))]) hx hb dX2_solve_92 hl (k := 1) rfl (by decide +kernel) (by decide) rfl (fun ls hl => ?_)
  refine lv_goto (tgt := 3) hx hb dX2_solve_95 (by decide) ?_
  refine lv_iload hx hb dX2_solve_3 (lv_at hl 0 rfl) ?_
  refine lv_iload hx hb dX2_solve_5 (lv_at hl 6 rfl) ?_
  refine lv_icmp_ge (tgt := 98) hx hb dX2_solve_7 (by decide) (fun _ => ?_) (fun c9 => False.elim (by revert c9; decide +kernel))
  refine lv_aload_n hx hb dX2_solve_98 rfl (lv_at hl 2 rfl) ?_
  refine lv_aload_n hx hb dX2_solve_99 rfl (lv_at hl 2 rfl) ?_
  refine va_get (D := (dC, dI)) (ci := 2) (v := .ref (h 180)) (C := RX2) (T := TX2) (N := 5) hx hb hts hinX2 hown hK hP 0 rfl rfl 0 (by decide) (hts (.fieldLink RX2 11 "MixedWords$Least" "square" "[[J") (by decide +kernel)) (fun _ h9 => h9) rfl dX2_solve_100 ?_
  refine lv_iload hx hb dX2_solve_103 (lv_at hl 6 rfl) ?_
  refine lv_iconst (v := nI 0) hx hb dX2_solve_105 (by decide) ?_
  refine lv_iconst (v := nI 1) hx hb dX2_solve_106 (by decide) ?_
  refine lv_iload hx hb dX2_solve_107 (lv_at hl 6 rfl) ?_
  refine lv_ishl hx hb dX2_solve_109 ?_
  refine xt_i (y := nI 4) (by decide +kernel) ?_
  refine lv_iconst (v := nI 1) hx hb dX2_solve_110 (by decide) ?_
  refine lv_isub hx hb dX2_solve_111 ?_
  refine xt_i (y := nI 3) (by decide +kernel) ?_
  refine xj_l (wc := (wD_16 h cs fI fL fA fQ fG fJ)) (wr := [(h 106, .inr (2, [.ref (h 180), .ref (h 185), .ref (h 186), .ref (h 187), .long (fL 188)])), (h 130, .inl (cs 3, 5, .inr (.inr (.inr (.inr (fun i => if i < 5 then some (h (i + 131)) else none)))))), (h 131, .inl (cs 0, 4, .inl ((fG 0) 0))), (h 132, .inl (cs 0, 4, .inl ((fG 0) 1))), (h 133, .inl (cs 0, 4, .inl ((fG 0) 2))), (h 134, .inl (cs 0, 4, .inl ((fG 0) 3))), (h 135, .inl (cs 0, 4, .inl ((fG 0) 4))), (h 136, .inl (cs 0, 5, .inl (fA 136))), (h 185, .inl (cs 1, 4, .inr (.inl (fQ 185)))), (h 186, .inl (cs 0, 4, .inl (fA 186))), (h 187, .inl (cs 1, 4, .inr (.inl (fQ 187))))]) hP hD hS hA [8, 9, 10, 11, 12] [0, 1, 2, 3, 4, 5, 6, 7, 13, 14, 15] rfl rfl (by decide) (by decide) (va_runS (As := [.ref (h 180), .int (nI 2), .int (nI 0), .int (nI 3)]) (rest := [.ref (h 106)]) ⟨hx, hb, hml, hown, hts⟩ (a_X2_determinant_17 l dC dI h cs H.size fI fL fA fQ fG fJ ) (va_cwS 4 hts gX2_solve_X2_determinant rfl rfl rfl (by decide +kernel) ⟨Nat.le_of_ble_eq_true rfl, Nat.le_of_ble_eq_true rfl⟩) (xpS (wc := (wD_16 h cs fI fL fA fQ fG fJ)) hP hD hK hN [8, 9, 10, 11, 12] rfl (by decide) _) rfl rfl hl.1 rfl (lv_room (Nat.le_of_ble_eq_true rfl)) dX2_solve_112 ⟨Nat.zero_le _, Nat.zero_le _⟩) (fun r_14 u_13 H locs hw hP hD hS => ?_)
  obtain ⟨hf_15, rfl⟩ := hw
  have hP : va_P (dC, dI) vwCl (wD_9 h cs fI fL fA fQ fG fJ) H := xP_sub hP [0, 1, 2, 3, 4, 5, 6, 7, 11, 12, 13, 14, 15, 8, 9, 10] rfl
  have hD : va_D A0 (wD_9 h cs fI fL fA fQ fG fJ) := hD.sub [0, 1, 2, 3, 4, 5, 6, 7, 11, 12, 13, 14, 15, 8, 9, 10] (by decide) rfl
  obtain rfl := hf_15
  refine va_put (D := (dC, dI)) (ci := 2) (v := .long (0 : Int64)) (ty := .long) (C := RX2) (T := TX2) (N := 5) hx hb hts hinX2 tyX2 tyX2_ok nmX2 hown hK hP hD hS 0 rfl rfl 4 (by decide) (hts (.fieldLink RX2 48 "MixedWords$Least" "below" "J") (by decide +kernel)) (fun _ h9 => h9) rfl (by decide +kernel) rfl rfl (Nat.le_of_ble_eq_true rfl) dX2_solve_115 (fun H locs hP hD hS => ?_)
  have hP : va_P (dC, dI) vwCl (wD_9 h cs fI fL fA fQ fG fJ) H := hP
  have hD : va_D A0 (wD_9 h cs fI fL fA fQ fG fJ) := hD
  refine lv_iconst (v := nI 0) hx hb dX2_solve_118 (by decide) ?_
  refine lv_istore (lv' := [(5, .int (nI 0)), (6, .int (nI 2)), (0, .ref (h 106)), (1, .ref (h 130)), (2, .ref (h 136)), (3, .int (nI 2)), (4, .int (nI 2))]) hx hb dX2_solve_119 hl (by decide) rfl (fun ls hl => ?_)
  refine lv_iload hx hb dX2_solve_121 (lv_at hl 0 rfl) ?_
  refine lv_iload hx hb dX2_solve_123 (lv_at hl 6 rfl) ?_
  refine lv_icmp_ge (tgt := 173) hx hb dX2_solve_125 (by decide) (fun c9 => False.elim (by revert c9; decide +kernel)) (fun _ => ?_)
  refine lv_aload_n hx hb dX2_solve_128 rfl (lv_at hl 2 rfl) ?_
  refine lv_iload hx hb dX2_solve_129 (lv_at hl 0 rfl) ?_
  refine lv_iload hx hb dX2_solve_131 (lv_at hl 6 rfl) ?_
  refine xj_v (wc := (wD_18 h cs fI fL fA fQ fG fJ)) (wr := [(h 130, .inl (cs 3, 5, .inr (.inr (.inr (.inr (fun i => if i < 5 then some (h (i + 131)) else none)))))), (h 131, .inl (cs 0, 4, .inl ((fG 0) 0))), (h 132, .inl (cs 0, 4, .inl ((fG 0) 1))), (h 133, .inl (cs 0, 4, .inl ((fG 0) 2))), (h 134, .inl (cs 0, 4, .inl ((fG 0) 3))), (h 135, .inl (cs 0, 4, .inl ((fG 0) 4))), (h 136, .inl (cs 0, 5, .inl (fA 136)))]) hP hD hS hA [0, 8, 9, 10, 11, 12, 13, 14, 15] [1, 2, 3, 4, 5, 6, 7] rfl rfl (by decide) (by decide) (va_runV (As := [.int (nI 0), .int (nI 2)]) (rest := []) ⟨hx, hb, hml, hown, hts⟩ (a_X2_swapRight_19 l dC dI h cs H.size fI fL fA fQ fG fJ ) (cwV 2 hts gX2_solve_X2_swapRight rfl rfl rfl (by decide +kernel) ⟨Nat.le_of_ble_eq_true rfl, Nat.le_of_ble_eq_true rfl⟩) (xpV (wc := (wD_18 h cs fI fL fA fQ fG fJ)) hP hD hK hN [0, 8, 9, 10, 11, 12, 13, 14, 15] rfl (by decide) 0 (ci := 2) rfl rfl _) rfl rfl hl.1 rfl (lv_room (Nat.le_of_ble_eq_true rfl)) dX2_solve_133 ⟨Nat.zero_le _, Nat.zero_le _⟩) (fun u_16 H locs hw hP hD hS => ?_)
  obtain ⟨hf_18, rfl⟩ := hw
  have hP : va_P (dC, dI) vwCl (wD_9 h cs fI fL fA fQ fG fJ) H := xP_sub hP [7, 0, 1, 2, 3, 4, 5, 6, 8, 9, 10, 11, 12, 13, 14, 15] rfl
  have hD : va_D A0 (wD_9 h cs fI fL fA fQ fG fJ) := hD.sub [7, 0, 1, 2, 3, 4, 5, 6, 8, 9, 10, 11, 12, 13, 14, 15] (by decide) rfl
  refine lv_aload_n hx hb dX2_solve_136 rfl (lv_at hl 2 rfl) ?_
  refine va_get (D := (dC, dI)) (ci := 2) (v := .ref (h 187)) (C := RX2) (T := TX2) (N := 5) hx hb hts hinX2 hown hK hP 0 rfl rfl 3 (by decide) (hts (.fieldLink RX2 24 "MixedWords$Least" "above" "[J") (by decide +kernel)) (fun _ h9 => h9) rfl dX2_solve_137 ?_
  refine lv_iload hx hb dX2_solve_140 (lv_at hl 0 rfl) ?_
  refine lv_aload_n hx hb dX2_solve_142 rfl (lv_at hl 2 rfl) ?_
  refine va_get (D := (dC, dI)) (ci := 2) (v := .ref (h 180)) (C := RX2) (T := TX2) (N := 5) hx hb hts hinX2 hown hK hP 0 rfl rfl 0 (by decide) (hts (.fieldLink RX2 11 "MixedWords$Least" "square" "[[J") (by decide +kernel)) (fun _ h9 => h9) rfl dX2_solve_143 ?_
  refine lv_iload hx hb dX2_solve_146 (lv_at hl 6 rfl) ?_
  refine lv_iconst (v := nI 0) hx hb dX2_solve_148 (by decide) ?_
  refine lv_iconst (v := nI 1) hx hb dX2_solve_149 (by decide) ?_
  refine lv_iload hx hb dX2_solve_150 (lv_at hl 6 rfl) ?_
  refine lv_ishl hx hb dX2_solve_152 ?_
  refine xt_i (y := nI 4) (by decide +kernel) ?_
  refine lv_iconst (v := nI 1) hx hb dX2_solve_153 (by decide) ?_
  refine lv_isub hx hb dX2_solve_154 ?_
  refine xt_i (y := nI 3) (by decide +kernel) ?_
  refine xj_l (wc := (wD_16 h cs fI fL fA fQ fG fJ)) (wr := [(h 106, .inr (2, [.ref (h 180), .ref (h 185), .ref (h 186), .ref (h 187), .long (fL 188)])), (h 130, .inl (cs 3, 5, .inr (.inr (.inr (.inr (fun i => if i < 5 then some (h (i + 131)) else none)))))), (h 131, .inl (cs 0, 4, .inl ((fG 0) 0))), (h 132, .inl (cs 0, 4, .inl ((fG 0) 1))), (h 133, .inl (cs 0, 4, .inl ((fG 0) 2))), (h 134, .inl (cs 0, 4, .inl ((fG 0) 3))), (h 135, .inl (cs 0, 4, .inl ((fG 0) 4))), (h 136, .inl (cs 0, 5, .inl (fA 136))), (h 185, .inl (cs 1, 4, .inr (.inl (fQ 185)))), (h 186, .inl (cs 0, 4, .inl (fA 186))), (h 187, .inl (cs 1, 4, .inr (.inl (fQ 187))))]) hP hD hS hA [8, 9, 10, 11, 12] [0, 1, 2, 3, 4, 5, 6, 7, 13, 14, 15] rfl rfl (by decide) (by decide) (va_runS (As := [.ref (h 180), .int (nI 2), .int (nI 0), .int (nI 3)]) (rest := [.int (nI 0), .ref (h 187)]) ⟨hx, hb, hml, hown, hts⟩ (a_X2_determinant_17 l dC dI h cs H.size fI fL fA fQ fG fJ ) (va_cwS 4 hts gX2_solve_X2_determinant rfl rfl rfl (by decide +kernel) ⟨Nat.le_of_ble_eq_true rfl, Nat.le_of_ble_eq_true rfl⟩) (xpS (wc := (wD_16 h cs fI fL fA fQ fG fJ)) hP hD hK hN [8, 9, 10, 11, 12] rfl (by decide) _) rfl rfl hl.1 rfl (lv_room (Nat.le_of_ble_eq_true rfl)) dX2_solve_155 ⟨Nat.zero_le _, Nat.zero_le _⟩) (fun r_20 u_19 H locs hw hP hD hS => ?_)
  obtain ⟨hf_21, rfl⟩ := hw
  have hP : va_P (dC, dI) vwCl (wD_9 h cs fI fL fA fQ fG fJ) H := xP_sub hP [0, 1, 2, 3, 4, 5, 6, 7, 11, 12, 13, 14, 15, 8, 9, 10] rfl
  have hD : va_D A0 (wD_9 h cs fI fL fA fQ fG fJ) := hD.sub [0, 1, 2, 3, 4, 5, 6, 7, 11, 12, 13, 14, 15, 8, 9, 10] (by decide) rfl
  obtain rfl := hf_21
  refine xa_lastS hx hb hK hP hD hS 15 1 rfl rfl (by omega) (by decide) (by decide +kernel) dX2_solve_158 (fun H locs hP hD hS => ?_)
  refine lv_aload_n hx hb dX2_solve_159 rfl (lv_at hl 2 rfl) ?_
  refine lv_iload hx hb dX2_solve_160 (lv_at hl 0 rfl) ?_
  refine lv_iload hx hb dX2_solve_162 (lv_at hl 6 rfl) ?_
  refine xj_v (wc := (wD_18 h cs fI fL fA fQ fG fJ)) (wr := [(h 130, .inl (cs 3, 5, .inr (.inr (.inr (.inr (fun i => if i < 5 then some (h (i + 131)) else none)))))), (h 131, .inl (cs 0, 4, .inl ((fG 0) 0))), (h 132, .inl (cs 0, 4, .inl ((fG 0) 1))), (h 133, .inl (cs 0, 4, .inl ((fG 0) 2))), (h 134, .inl (cs 0, 4, .inl ((fG 0) 3))), (h 135, .inl (cs 0, 4, .inl ((fG 0) 4))), (h 136, .inl (cs 0, 5, .inl (fA 136)))]) hP hD hS hA [0, 8, 9, 10, 11, 12, 13, 14, 15] [1, 2, 3, 4, 5, 6, 7] rfl rfl (by decide) (by decide) (va_runV (As := [.int (nI 0), .int (nI 2)]) (rest := []) ⟨hx, hb, hml, hown, hts⟩ (a_X2_swapRight_19 l dC dI h cs H.size fI fL fA fQ fG fJ ) (cwV 2 hts gX2_solve_X2_swapRight rfl rfl rfl (by decide +kernel) ⟨Nat.le_of_ble_eq_true rfl, Nat.le_of_ble_eq_true rfl⟩) (xpV (wc := (wD_18 h cs fI fL fA fQ fG fJ)) hP hD hK hN [0, 8, 9, 10, 11, 12, 13, 14, 15] rfl (by decide) 0 (ci := 2) rfl rfl _) rfl rfl hl.1 rfl (lv_room (Nat.le_of_ble_eq_true rfl)) dX2_solve_164 ⟨Nat.zero_le _, Nat.zero_le _⟩) (fun u_22 H locs hw hP hD hS => ?_)
  obtain ⟨hf_24, rfl⟩ := hw
  have hP : va_P (dC, dI) vwCl (wD_9 h cs fI fL fA fQ fG fJ) H := xP_sub hP [7, 0, 1, 2, 3, 4, 5, 6, 8, 9, 10, 11, 12, 13, 14, 15] rfl
  have hD : va_D A0 (wD_9 h cs fI fL fA fQ fG fJ) := hD.sub [7, 0, 1, 2, 3, 4, 5, 6, 8, 9, 10, 11, 12, 13, 14, 15] (by decide) rfl
  refine lv_iinc (v := nI 1) (lv' := [(5, .int (nI 1)), (6, .int (nI 2)), (0, .ref (h 106)), (1, .ref (h 130)), (2, .ref (h 136)), (3, .int (nI 2)), (4, .int (nI 2))]) hx hb dX2_solve_167 hl (k := 0) rfl (by decide +kernel) (by decide) rfl (fun ls hl => ?_)
  refine lv_goto (tgt := 121) hx hb dX2_solve_170 (by decide) ?_
  refine lv_iload hx hb dX2_solve_121 (lv_at hl 0 rfl) ?_
  refine lv_iload hx hb dX2_solve_123 (lv_at hl 6 rfl) ?_
  refine lv_icmp_ge (tgt := 173) hx hb dX2_solve_125 (by decide) (fun c9 => False.elim (by revert c9; decide +kernel)) (fun _ => ?_)
  refine lv_aload_n hx hb dX2_solve_128 rfl (lv_at hl 2 rfl) ?_
  refine lv_iload hx hb dX2_solve_129 (lv_at hl 0 rfl) ?_
  refine lv_iload hx hb dX2_solve_131 (lv_at hl 6 rfl) ?_
  refine xj_v (wc := (wD_18 h cs fI fL fA fQ fG fJ)) (wr := [(h 130, .inl (cs 3, 5, .inr (.inr (.inr (.inr (fun i => if i < 5 then some (h (i + 131)) else none)))))), (h 131, .inl (cs 0, 4, .inl ((fG 0) 0))), (h 132, .inl (cs 0, 4, .inl ((fG 0) 1))), (h 133, .inl (cs 0, 4, .inl ((fG 0) 2))), (h 134, .inl (cs 0, 4, .inl ((fG 0) 3))), (h 135, .inl (cs 0, 4, .inl ((fG 0) 4))), (h 136, .inl (cs 0, 5, .inl (fA 136)))]) hP hD hS hA [0, 8, 9, 10, 11, 12, 13, 14, 15] [1, 2, 3, 4, 5, 6, 7] rfl rfl (by decide) (by decide) (va_runV (As := [.int (nI 1), .int (nI 2)]) (rest := []) ⟨hx, hb, hml, hown, hts⟩ (a_X2_swapRight_20 l dC dI h cs H.size fI fL fA fQ fG fJ ) (cwV 2 hts gX2_solve_X2_swapRight rfl rfl rfl (by decide +kernel) ⟨Nat.le_of_ble_eq_true rfl, Nat.le_of_ble_eq_true rfl⟩) (xpV (wc := (wD_18 h cs fI fL fA fQ fG fJ)) hP hD hK hN [0, 8, 9, 10, 11, 12, 13, 14, 15] rfl (by decide) 0 (ci := 2) rfl rfl _) rfl rfl hl.1 rfl (lv_room (Nat.le_of_ble_eq_true rfl)) dX2_solve_133 ⟨Nat.zero_le _, Nat.zero_le _⟩) (fun u_25 H locs hw hP hD hS => ?_)
  obtain ⟨hf_27, rfl⟩ := hw
  have hP : va_P (dC, dI) vwCl (wD_9 h cs fI fL fA fQ fG fJ) H := xP_sub hP [7, 0, 1, 2, 3, 4, 5, 6, 8, 9, 10, 11, 12, 13, 14, 15] rfl
  have hD : va_D A0 (wD_9 h cs fI fL fA fQ fG fJ) := hD.sub [7, 0, 1, 2, 3, 4, 5, 6, 8, 9, 10, 11, 12, 13, 14, 15] (by decide) rfl
  refine lv_aload_n hx hb dX2_solve_136 rfl (lv_at hl 2 rfl) ?_
  refine va_get (D := (dC, dI)) (ci := 2) (v := .ref (h 187)) (C := RX2) (T := TX2) (N := 5) hx hb hts hinX2 hown hK hP 0 rfl rfl 3 (by decide) (hts (.fieldLink RX2 24 "MixedWords$Least" "above" "[J") (by decide +kernel)) (fun _ h9 => h9) rfl dX2_solve_137 ?_
  refine lv_iload hx hb dX2_solve_140 (lv_at hl 0 rfl) ?_
  refine lv_aload_n hx hb dX2_solve_142 rfl (lv_at hl 2 rfl) ?_
  refine va_get (D := (dC, dI)) (ci := 2) (v := .ref (h 180)) (C := RX2) (T := TX2) (N := 5) hx hb hts hinX2 hown hK hP 0 rfl rfl 0 (by decide) (hts (.fieldLink RX2 11 "MixedWords$Least" "square" "[[J") (by decide +kernel)) (fun _ h9 => h9) rfl dX2_solve_143 ?_
  refine lv_iload hx hb dX2_solve_146 (lv_at hl 6 rfl) ?_
  refine lv_iconst (v := nI 0) hx hb dX2_solve_148 (by decide) ?_
  refine lv_iconst (v := nI 1) hx hb dX2_solve_149 (by decide) ?_
  refine lv_iload hx hb dX2_solve_150 (lv_at hl 6 rfl) ?_
  refine lv_ishl hx hb dX2_solve_152 ?_
  refine xt_i (y := nI 4) (by decide +kernel) ?_
  refine lv_iconst (v := nI 1) hx hb dX2_solve_153 (by decide) ?_
  refine lv_isub hx hb dX2_solve_154 ?_
  refine xt_i (y := nI 3) (by decide +kernel) ?_
  refine xj_l (wc := (wD_16 h cs fI fL fA fQ fG fJ)) (wr := [(h 106, .inr (2, [.ref (h 180), .ref (h 185), .ref (h 186), .ref (h 187), .long (fL 188)])), (h 130, .inl (cs 3, 5, .inr (.inr (.inr (.inr (fun i => if i < 5 then some (h (i + 131)) else none)))))), (h 131, .inl (cs 0, 4, .inl ((fG 0) 0))), (h 132, .inl (cs 0, 4, .inl ((fG 0) 1))), (h 133, .inl (cs 0, 4, .inl ((fG 0) 2))), (h 134, .inl (cs 0, 4, .inl ((fG 0) 3))), (h 135, .inl (cs 0, 4, .inl ((fG 0) 4))), (h 136, .inl (cs 0, 5, .inl (fA 136))), (h 185, .inl (cs 1, 4, .inr (.inl (fQ 185)))), (h 186, .inl (cs 0, 4, .inl (fA 186))), (h 187, .inl (cs 1, 4, .inr (.inl (fQ 187))))]) hP hD hS hA [8, 9, 10, 11, 12] [0, 1, 2, 3, 4, 5, 6, 7, 13, 14, 15] rfl rfl (by decide) (by decide) (va_runS (As := [.ref (h 180), .int (nI 2), .int (nI 0), .int (nI 3)]) (rest := [.int (nI 1), .ref (h 187)]) ⟨hx, hb, hml, hown, hts⟩ (a_X2_determinant_17 l dC dI h cs H.size fI fL fA fQ fG fJ ) (va_cwS 4 hts gX2_solve_X2_determinant rfl rfl rfl (by decide +kernel) ⟨Nat.le_of_ble_eq_true rfl, Nat.le_of_ble_eq_true rfl⟩) (xpS (wc := (wD_16 h cs fI fL fA fQ fG fJ)) hP hD hK hN [8, 9, 10, 11, 12] rfl (by decide) _) rfl rfl hl.1 rfl (lv_room (Nat.le_of_ble_eq_true rfl)) dX2_solve_155 ⟨Nat.zero_le _, Nat.zero_le _⟩) (fun r_29 u_28 H locs hw hP hD hS => ?_)
  obtain ⟨hf_30, rfl⟩ := hw
  have hP : va_P (dC, dI) vwCl (wD_9 h cs fI fL fA fQ fG fJ) H := xP_sub hP [0, 1, 2, 3, 4, 5, 6, 7, 11, 12, 13, 14, 15, 8, 9, 10] rfl
  have hD : va_D A0 (wD_9 h cs fI fL fA fQ fG fJ) := hD.sub [0, 1, 2, 3, 4, 5, 6, 7, 11, 12, 13, 14, 15, 8, 9, 10] (by decide) rfl
  obtain rfl := hf_30
  refine xa_lastS hx hb hK hP hD hS 15 1 rfl rfl (by omega) (by decide) (by decide +kernel) dX2_solve_158 (fun H locs hP hD hS => ?_)
  refine lv_aload_n hx hb dX2_solve_159 rfl (lv_at hl 2 rfl) ?_
  refine lv_iload hx hb dX2_solve_160 (lv_at hl 0 rfl) ?_
  refine lv_iload hx hb dX2_solve_162 (lv_at hl 6 rfl) ?_
  refine xj_v (wc := (wD_18 h cs fI fL fA fQ fG fJ)) (wr := [(h 130, .inl (cs 3, 5, .inr (.inr (.inr (.inr (fun i => if i < 5 then some (h (i + 131)) else none)))))), (h 131, .inl (cs 0, 4, .inl ((fG 0) 0))), (h 132, .inl (cs 0, 4, .inl ((fG 0) 1))), (h 133, .inl (cs 0, 4, .inl ((fG 0) 2))), (h 134, .inl (cs 0, 4, .inl ((fG 0) 3))), (h 135, .inl (cs 0, 4, .inl ((fG 0) 4))), (h 136, .inl (cs 0, 5, .inl (fA 136)))]) hP hD hS hA [0, 8, 9, 10, 11, 12, 13, 14, 15] [1, 2, 3, 4, 5, 6, 7] rfl rfl (by decide) (by decide) (va_runV (As := [.int (nI 1), .int (nI 2)]) (rest := []) ⟨hx, hb, hml, hown, hts⟩ (a_X2_swapRight_20 l dC dI h cs H.size fI fL fA fQ fG fJ ) (cwV 2 hts gX2_solve_X2_swapRight rfl rfl rfl (by decide +kernel) ⟨Nat.le_of_ble_eq_true rfl, Nat.le_of_ble_eq_true rfl⟩) (xpV (wc := (wD_18 h cs fI fL fA fQ fG fJ)) hP hD hK hN [0, 8, 9, 10, 11, 12, 13, 14, 15] rfl (by decide) 0 (ci := 2) rfl rfl _) rfl rfl hl.1 rfl (lv_room (Nat.le_of_ble_eq_true rfl)) dX2_solve_164 ⟨Nat.zero_le _, Nat.zero_le _⟩) (fun u_31 H locs hw hP hD hS => ?_)
  obtain ⟨hf_33, rfl⟩ := hw
  have hP : va_P (dC, dI) vwCl (wD_9 h cs fI fL fA fQ fG fJ) H := xP_sub hP [7, 0, 1, 2, 3, 4, 5, 6, 8, 9, 10, 11, 12, 13, 14, 15] rfl
  have hD : va_D A0 (wD_9 h cs fI fL fA fQ fG fJ) := hD.sub [7, 0, 1, 2, 3, 4, 5, 6, 8, 9, 10, 11, 12, 13, 14, 15] (by decide) rfl
  refine lv_iinc (v := nI 2) (lv' := [(5, .int (nI 2)), (6, .int (nI 2)), (0, .ref (h 106)), (1, .ref (h 130)), (2, .ref (h 136)), (3, .int (nI 2)), (4, .int (nI 2))]) hx hb dX2_solve_167 hl (k := 0) rfl (by decide +kernel) (by decide) rfl (fun ls hl => ?_)
  refine lv_goto (tgt := 121) hx hb dX2_solve_170 (by decide) ?_
  refine lv_iload hx hb dX2_solve_121 (lv_at hl 0 rfl) ?_
  refine lv_iload hx hb dX2_solve_123 (lv_at hl 6 rfl) ?_
  refine lv_icmp_ge (tgt := 173) hx hb dX2_solve_125 (by decide) (fun _ => ?_) (fun c9 => False.elim (by revert c9; decide +kernel))
  exact xr_v hx hb hr hlocks hK hS dX2_solve_173 (fI, fL, fA, fQ, fG, fJ) ⟨trivial, rfl⟩ hP hD
set_option maxRecDepth 20000 in
theorem ggX9_undone_X2_solve : GoodIn wsX9_undone wsX2_solve := goodIn_r _ [14, 15, 16, 17, 18, 19, 20, 21, 22, 23, 13, 24, 25, 26, 27, 28, 71, 72, 73, 74, 75] (by decide +kernel) (by decide +kernel)
set_option maxRecDepth 20000 in
theorem gX9_undone_X2_solve : GoodIn wsX9_undone (wsV RX9 188 RX2 yX2_solve wsX2_solve) := goodIn_app (goodIn_of _ (by decide +kernel)) ggX9_undone_X2_solve
set_option maxRecDepth 20000 in
theorem ggX9_undone_X9_nearestLetter : GoodIn wsX9_undone wsX9_nearestLetter := goodIn_r _ [31, 32, 33, 34, 20, 35, 36, 37, 38, 39, 40, 41, 42, 43, 44, 45, 46, 47, 48, 49] (by decide +kernel) (by decide +kernel)
set_option maxRecDepth 20000 in
theorem gX9_undone_X9_nearestLetter : GoodIn wsX9_undone (va_wsS RX9 200 yX9_nearestLetter wsX9_nearestLetter) := goodIn_app (goodIn_of _ (by decide +kernel)) ggX9_undone_X9_nearestLetter
set_option maxRecDepth 20000 in
theorem ggX9_undone_X3_follow : GoodIn wsX9_undone wsX3_follow := goodIn_r _ [54, 55, 65, 66, 67, 68, 69, 70] (by decide +kernel) (by decide +kernel)
set_option maxRecDepth 20000 in
theorem gX9_undone_X3_follow : GoodIn wsX9_undone (wsV RX9 204 RX3 yX3_follow wsX3_follow) := goodIn_app (goodIn_of _ (by decide +kernel)) ggX9_undone_X3_follow
theorem dX9_undone_0 : decode cX9_undone 0 = .ok (.aload_n 0, 1) := by decide +kernel
theorem dX9_undone_1 : decode cX9_undone 1 = .ok (.getfield 51, 3) := by decide +kernel
theorem dX9_undone_4 : decode cX9_undone 4 = .ok (.aload_n 0, 1) := by decide +kernel
theorem dX9_undone_5 : decode cX9_undone 5 = .ok (.getfield 12, 3) := by decide +kernel
theorem dX9_undone_8 : decode cX9_undone 8 = .ok (.getfield 173, 3) := by decide +kernel
theorem dX9_undone_11 : decode cX9_undone 11 = .ok (.aload_n 0, 1) := by decide +kernel
theorem dX9_undone_12 : decode cX9_undone 12 = .ok (.getfield 12, 3) := by decide +kernel
theorem dX9_undone_15 : decode cX9_undone 15 = .ok (.getfield 184, 3) := by decide +kernel
theorem dX9_undone_18 : decode cX9_undone 18 = .ok (.aload_n 0, 1) := by decide +kernel
theorem dX9_undone_19 : decode cX9_undone 19 = .ok (.getfield 12, 3) := by decide +kernel
theorem dX9_undone_22 : decode cX9_undone 22 = .ok (.getfield 147, 3) := by decide +kernel
theorem dX9_undone_25 : decode cX9_undone 25 = .ok (.aload_n 0, 1) := by decide +kernel
theorem dX9_undone_26 : decode cX9_undone 26 = .ok (.getfield 12, 3) := by decide +kernel
theorem dX9_undone_29 : decode cX9_undone 29 = .ok (.getfield 106, 3) := by decide +kernel
theorem dX9_undone_32 : decode cX9_undone 32 = .ok (.invokevirtual 188, 3) := by decide +kernel
theorem dX9_undone_35 : decode cX9_undone 35 = .ok (.aload_n 0, 1) := by decide +kernel
theorem dX9_undone_36 : decode cX9_undone 36 = .ok (.getfield 51, 3) := by decide +kernel
theorem dX9_undone_39 : decode cX9_undone 39 = .ok (.getfield 192, 3) := by decide +kernel
theorem dX9_undone_42 : decode cX9_undone 42 = .ok (.lconst 0, 1) := by decide +kernel
theorem dX9_undone_43 : decode cX9_undone 43 = .ok (.lcmp, 1) := by decide +kernel
theorem dX9_undone_44 : decode cX9_undone 44 = .ok (.ifCond .gt 6, 3) := by decide +kernel
theorem dX9_undone_47 : decode cX9_undone 47 = .ok (.bipush (-2), 2) := by decide +kernel
theorem dX9_undone_49 : decode cX9_undone 49 = .ok (.ireturn, 1) := by decide +kernel
theorem dX9_undone_50 : decode cX9_undone 50 = .ok (.iconst 0, 1) := by decide +kernel
theorem dX9_undone_51 : decode cX9_undone 51 = .ok (.istore_n 1, 1) := by decide +kernel
theorem dX9_undone_52 : decode cX9_undone 52 = .ok (.iconst 0, 1) := by decide +kernel
theorem dX9_undone_53 : decode cX9_undone 53 = .ok (.istore_n 2, 1) := by decide +kernel
theorem dX9_undone_54 : decode cX9_undone 54 = .ok (.iload_n 2, 1) := by decide +kernel
theorem dX9_undone_55 : decode cX9_undone 55 = .ok (.aload_n 0, 1) := by decide +kernel
theorem dX9_undone_56 : decode cX9_undone 56 = .ok (.getfield 12, 3) := by decide +kernel
theorem dX9_undone_59 : decode cX9_undone 59 = .ok (.getfield 106, 3) := by decide +kernel
theorem dX9_undone_62 : decode cX9_undone 62 = .ok (.if_icmp .ge 44, 3) := by decide +kernel
theorem dX9_undone_65 : decode cX9_undone 65 = .ok (.aload_n 0, 1) := by decide +kernel
theorem dX9_undone_66 : decode cX9_undone 66 = .ok (.getfield 12, 3) := by decide +kernel
theorem dX9_undone_69 : decode cX9_undone 69 = .ok (.iload_n 1, 1) := by decide +kernel
theorem dX9_undone_70 : decode cX9_undone 70 = .ok (.aload_n 0, 1) := by decide +kernel
theorem dX9_undone_71 : decode cX9_undone 71 = .ok (.getfield 51, 3) := by decide +kernel
theorem dX9_undone_74 : decode cX9_undone 74 = .ok (.getfield 196, 3) := by decide +kernel
theorem dX9_undone_77 : decode cX9_undone 77 = .ok (.iload_n 2, 1) := by decide +kernel
theorem dX9_undone_78 : decode cX9_undone 78 = .ok (.laload, 1) := by decide +kernel
theorem dX9_undone_79 : decode cX9_undone 79 = .ok (.aload_n 0, 1) := by decide +kernel
theorem dX9_undone_80 : decode cX9_undone 80 = .ok (.getfield 51, 3) := by decide +kernel
theorem dX9_undone_83 : decode cX9_undone 83 = .ok (.getfield 192, 3) := by decide +kernel
theorem dX9_undone_86 : decode cX9_undone 86 = .ok (.aload_n 0, 1) := by decide +kernel
theorem dX9_undone_87 : decode cX9_undone 87 = .ok (.getfield 12, 3) := by decide +kernel
theorem dX9_undone_90 : decode cX9_undone 90 = .ok (.getfield 83, 3) := by decide +kernel
theorem dX9_undone_93 : decode cX9_undone 93 = .ok (.invokestatic 200, 3) := by decide +kernel
theorem dX9_undone_96 : decode cX9_undone 96 = .ok (.invokevirtual 204, 3) := by decide +kernel
theorem dX9_undone_99 : decode cX9_undone 99 = .ok (.istore_n 1, 1) := by decide +kernel
theorem dX9_undone_100 : decode cX9_undone 100 = .ok (.iinc 2 1, 3) := by decide +kernel
theorem dX9_undone_103 : decode cX9_undone 103 = .ok (.goto (-49), 3) := by decide +kernel
theorem dX9_undone_106 : decode cX9_undone 106 = .ok (.iload_n 1, 1) := by decide +kernel
theorem dX9_undone_107 : decode cX9_undone 107 = .ok (.ireturn, 1) := by decide +kernel
set_option maxHeartbeats 4000000 in
set_option maxRecDepth 100000 in
theorem f_X9_undone (l : Launch) (dC : Nat → ClassId) (dI : Nat → Nat → Nat) (h : Nat → Nat) (cs : Nat → ClassId) (sz : Nat) (I : Nat → Int32) (L : Nat → Int64) (A : Nat → Nat → Int32) (Q : Nat → Nat → Int64) (G : Nat → Nat → Nat → Int32) (J : Nat → Nat → Nat → Int64) : Met l yX9_undone wsX9_undone ({ frames := 7, cells := 0, slots := 0, locals := 254 }) (va_Pc [.ref (h 100)] (xPre (dC, dI) (wAll h cs fI fL fA fQ fG fJ) (tysA cs) sz)) (va_Qi (fun (r : Int32) (u : CS) => (r = (-2)) ∧ u = (fI, fL, fA, fQ, fG, fJ)) (xB (dC, dI) (tysA cs) (va_A (wAll h cs fI fL fA fQ fG fJ) sz) (fun u : CS => wAll h cs u.1 u.2.1 u.2.2.1 u.2.2.2.1 u.2.2.2.2.1 u.2.2.2.2.2)) (va_A (wAll h cs fI fL fA fQ fG fJ) sz)) 0 0 (va_A (wAll h cs fI fL fA fQ fG fJ) sz) := by
  refine Met.ofW (cc := cX9_undone) (maxL := 3) (ret := (some .int)) (by decide) rfl ?_
  intro p e s m args below meth c s₁ B hml hv
  obtain ⟨rfl, hsz, hP, hK, hD0, hN⟩ := hv
  have hx := B.exec
  have hb := B.bytes
  have hr := B.returns
  have hts := atoms_spec (ws := wsX9_undone) B.pre
  have hown : s.vm.findClass RX9 = some m.cls := findClass_of_methodNamed B.named
  have hlocks := B.notSynchronized
  subst hsz
  have hD := hD0.self (sz := s.heap.size)
  generalize hAe : va_A (wAll h cs fI fL fA fQ fG fJ) s.heap.size = A0 at hD ⊢
  have hA : ∀ q : Nat, s.heap.size ≤ q → A0 q := fun q h => by rw [← hAe]; exact Or.inr h
  have hl := lv_entry ([.ref (h 100)]) (n := 3) (Nat.le_of_ble_eq_true rfl)
  rw [lg_entry_eq]
  generalize (lg_sl ([.ref (h 100)]) ++ List.replicate (3 - (lg_sl ([.ref (h 100)])).length) Slot.unset).toArray = ls at hl ⊢
  have hl : lv_has ls 3 [(0, .ref (h 100))] := hl
  generalize hH : s.heap = H at hP ⊢
  have hS : va_S A0 s.heap H [] := by rw [← hH]; exact va_S.rf
  have hinX9 : ∀ w ∈ wsX90, w ∈ wsX9_undone := by decide +kernel
  have hinX3 : ∀ w ∈ wsX30, w ∈ wsX9_undone := by decide +kernel
  have hinX2 : ∀ w ∈ wsX20, w ∈ wsX9_undone := by decide +kernel
  refine lv_aload_n hx hb dX9_undone_0 rfl (lv_at hl 0 rfl) ?_
  refine va_get (D := (dC, dI)) (ci := 9) (v := .ref (h 106)) (C := RX9) (T := TX9) (N := 9) hx hb hts hinX9 hown hK hP 0 rfl rfl 5 (by decide) (hts (.fieldLink RX9 51 "MixedWords" "least" "LMixedWords$Least;") (by decide +kernel)) (fun _ h9 => h9) rfl dX9_undone_1 ?_
  refine lv_aload_n hx hb dX9_undone_4 rfl (lv_at hl 0 rfl) ?_
  refine va_get (D := (dC, dI)) (ci := 9) (v := .ref (h 101)) (C := RX9) (T := TX9) (N := 9) hx hb hts hinX9 hown hK hP 0 rfl rfl 0 (by decide) (hts (.fieldLink RX9 12 "MixedWords" "mix" "LMixedWords$Mix;") (by decide +kernel)) (fun _ h9 => h9) rfl dX9_undone_5 ?_
  refine va_get (D := (dC, dI)) (ci := 3) (v := .ref (h 130)) (C := RX3) (T := TX3) (N := 6) hx hb hts hinX3 hown hK hP 1 rfl rfl 4 (by decide) (hts (.fieldLink RX9 173 "MixedWords$Mix" "cells" "[[I") (by decide +kernel)) (fun _ h9 => h9) rfl dX9_undone_8 ?_
  refine lv_aload_n hx hb dX9_undone_11 rfl (lv_at hl 0 rfl) ?_
  refine va_get (D := (dC, dI)) (ci := 9) (v := .ref (h 101)) (C := RX9) (T := TX9) (N := 9) hx hb hts hinX9 hown hK hP 0 rfl rfl 0 (by decide) (hts (.fieldLink RX9 12 "MixedWords" "mix" "LMixedWords$Mix;") (by decide +kernel)) (fun _ h9 => h9) rfl dX9_undone_12 ?_
  refine va_get (D := (dC, dI)) (ci := 3) (v := .ref (h 136)) (C := RX3) (T := TX3) (N := 6) hx hb hts hinX3 hown hK hP 1 rfl rfl 5 (by decide) (hts (.fieldLink RX9 184 "MixedWords$Mix" "heard" "[I") (by decide +kernel)) (fun _ h9 => h9) rfl dX9_undone_15 ?_
  refine lv_aload_n hx hb dX9_undone_18 rfl (lv_at hl 0 rfl) ?_
  refine va_get (D := (dC, dI)) (ci := 9) (v := .ref (h 101)) (C := RX9) (T := TX9) (N := 9) hx hb hts hinX9 hown hK hP 0 rfl rfl 0 (by decide) (hts (.fieldLink RX9 12 "MixedWords" "mix" "LMixedWords$Mix;") (by decide +kernel)) (fun _ h9 => h9) rfl dX9_undone_19 ?_
  refine va_get (D := (dC, dI)) (ci := 3) (v := .int (fI 120)) (C := RX3) (T := TX3) (N := 6) hx hb hts hinX3 hown hK hP 1 rfl rfl 0 (by decide) (hts (.fieldLink RX9 147 "MixedWords$Mix" "height" "I") (by decide +kernel)) (fun _ h9 => h9) rfl dX9_undone_22 ?_
  refine xt_i (y := nI 2) (by decide +kernel) ?_
  refine lv_aload_n hx hb dX9_undone_25 rfl (lv_at hl 0 rfl) ?_
  refine va_get (D := (dC, dI)) (ci := 9) (v := .ref (h 101)) (C := RX9) (T := TX9) (N := 9) hx hb hts hinX9 hown hK hP 0 rfl rfl 0 (by decide) (hts (.fieldLink RX9 12 "MixedWords" "mix" "LMixedWords$Mix;") (by decide +kernel)) (fun _ h9 => h9) rfl dX9_undone_26 ?_
  refine va_get (D := (dC, dI)) (ci := 3) (v := .int (fI 121)) (C := RX3) (T := TX3) (N := 6) hx hb hts hinX3 hown hK hP 1 rfl rfl 1 (by decide) (hts (.fieldLink RX9 106 "MixedWords$Mix" "width" "I") (by decide +kernel)) (fun _ h9 => h9) rfl dX9_undone_29 ?_
  refine xt_i (y := nI 2) (by decide +kernel) ?_
  refine xj_v (wc := (wD_9 h cs fI fL fA fQ fG fJ)) (wr := [(h 100, .inr (9, [.ref (h 101), .ref (h 102), .ref (h 103), .ref (h 104), .ref (h 105), .ref (h 106), .ref (h 107), .ref (h 108), .ref (h 109)])), (h 101, .inr (3, [.int (fI 120), .int (fI 121), .int (fI 122), .int (fI 123), .ref (h 130), .ref (h 136)])), (h 102, .inr (0, [.ref (h 101), .ref (h 140), .ref (h 141), .ref (h 142), .ref (h 143), .int (fI 144), .int (fI 145), .int (fI 146)])), (h 140, .inl (cs 0, 40, .inl (fA 140))), (h 141, .inl (cs 0, 40, .inl (fA 141))), (h 142, .inl (cs 0, 40, .inl (fA 142))), (h 143, .inl (cs 0, 40, .inl (fA 143))), (h 103, .inr (7, [.ref (h 150), .int (fI 151)])), (h 150, .inl (cs 2, 90, .inl (fA 150))), (h 104, .inr (4, [.ref (h 103), .ref (h 160), .int (fI 166), .int (fI 167), .int (fI 168), .int (fI 169)])), (h 160, .inl (cs 3, 5, .inr (.inr (.inr (.inr (fun i => if i < 5 then some (h (i + 161)) else none)))))), (h 161, .inl (cs 0, 4, .inl ((fG 1) 0))), (h 162, .inl (cs 0, 4, .inl ((fG 1) 1))), (h 163, .inl (cs 0, 4, .inl ((fG 1) 2))), (h 164, .inl (cs 0, 4, .inl ((fG 1) 3))), (h 165, .inl (cs 0, 4, .inl ((fG 1) 4))), (h 105, .inr (8, [.ref (h 101), .ref (h 170), .ref (h 171), .ref (h 172), .int (fI 173), .int (fI 174)])), (h 170, .inl (cs 0, 256, .inl (fA 170))), (h 171, .inl (cs 0, 256, .inl (fA 171))), (h 172, .inl (cs 0, 256, .inl (fA 172))), (h 107, .inr (6, [.ref (h 101), .ref (h 190), .ref (h 191), .ref (h 192)])), (h 190, .inl (cs 0, 5, .inl (fA 190))), (h 191, .inl (cs 0, 4, .inl (fA 191))), (h 192, .inl (cs 0, 4, .inl (fA 192))), (h 108, .inr (1, [.ref (h 101), .ref (h 200), .ref (h 206), .ref (h 211), .int (fI 212), .int (fI 213)])), (h 200, .inl (cs 3, 5, .inr (.inr (.inr (.inr (fun i => if i < 5 then some (h (i + 201)) else none)))))), (h 201, .inl (cs 0, 4, .inl ((fG 2) 0))), (h 202, .inl (cs 0, 4, .inl ((fG 2) 1))), (h 203, .inl (cs 0, 4, .inl ((fG 2) 2))), (h 204, .inl (cs 0, 4, .inl ((fG 2) 3))), (h 205, .inl (cs 0, 4, .inl ((fG 2) 4))), (h 206, .inl (cs 3, 4, .inr (.inr (.inr (.inr (fun i => if i < 4 then some (h (i + 207)) else none)))))), (h 207, .inl (cs 0, 4, .inl ((fG 3) 0))), (h 208, .inl (cs 0, 4, .inl ((fG 3) 1))), (h 209, .inl (cs 0, 4, .inl ((fG 3) 2))), (h 210, .inl (cs 0, 4, .inl ((fG 3) 3))), (h 211, .inl (cs 0, 5, .inl (fA 211))), (h 109, .inl (cs 5, 4, .inr (.inr (.inr (.inr (fun i => if i < 4 then some (h (i + 110)) else none)))))), (h 110, .inr (5, [.int (fI 220), .int (fI 224), .ref (h 228)])), (h 228, .inl (cs 1, 25, .inr (.inl (fQ 228)))), (h 111, .inr (5, [.int (fI 221), .int (fI 225), .ref (h 229)])), (h 229, .inl (cs 1, 25, .inr (.inl (fQ 229)))), (h 112, .inr (5, [.int (fI 222), .int (fI 226), .ref (h 230)])), (h 230, .inl (cs 1, 25, .inr (.inl (fQ 230)))), (h 113, .inr (5, [.int (fI 223), .int (fI 227), .ref (h 231)])), (h 231, .inl (cs 1, 25, .inr (.inl (fQ 231))))]) hP hD hS hA [27, 2, 3, 4, 5, 6, 7, 8, 28, 29, 30, 31, 32, 33, 34, 35] [0, 1, 9, 10, 11, 12, 13, 14, 15, 16, 17, 18, 19, 20, 21, 22, 23, 24, 25, 26, 36, 37, 38, 39, 40, 41, 42, 43, 44, 45, 46, 47, 48, 49, 50, 51, 52, 53, 54, 55, 56, 57, 58, 59, 60, 61] rfl rfl (by decide) (by decide) (va_runV (As := [.ref (h 130), .ref (h 136), .int (nI 2), .int (nI 2)]) (rest := []) ⟨hx, hb, hml, hown, hts⟩ (a_X2_solve_10 l dC dI h cs H.size fI fL fA fQ fG fJ ) (cwV 4 hts gX9_undone_X2_solve rfl rfl rfl (by decide +kernel) ⟨Nat.le_of_ble_eq_true rfl, Nat.le_of_ble_eq_true rfl⟩) (xpV (wc := (wD_9 h cs fI fL fA fQ fG fJ)) hP hD hK hN [27, 2, 3, 4, 5, 6, 7, 8, 28, 29, 30, 31, 32, 33, 34, 35] rfl (by decide) 27 (ci := 2) rfl rfl _) rfl rfl hl.1 rfl (lv_room (Nat.le_of_ble_eq_true rfl)) dX9_undone_32 ⟨Nat.zero_le _, Nat.zero_le _⟩) (fun u_1 H locs hw hP hD hS => ?_)
  obtain ⟨hf_3, rfl⟩ := hw
  have hP : va_P (dC, dI) vwCl (wAll h cs fI fL fA fQ fG fJ) H := xP_sub hP [0, 1, 47, 48, 49, 50, 51, 52, 53, 2, 3, 4, 5, 6, 7, 8, 9, 10, 11, 12, 13, 14, 15, 16, 17, 18, 19, 46, 54, 55, 56, 57, 58, 59, 60, 61, 20, 21, 22, 23, 24, 25, 26, 27, 28, 29, 30, 31, 32, 33, 34, 35, 36, 37, 38, 39, 40, 41, 42, 43, 44, 45] rfl
  have hD : va_D A0 (wAll h cs fI fL fA fQ fG fJ) := hD.sub [0, 1, 47, 48, 49, 50, 51, 52, 53, 2, 3, 4, 5, 6, 7, 8, 9, 10, 11, 12, 13, 14, 15, 16, 17, 18, 19, 46, 54, 55, 56, 57, 58, 59, 60, 61, 20, 21, 22, 23, 24, 25, 26, 27, 28, 29, 30, 31, 32, 33, 34, 35, 36, 37, 38, 39, 40, 41, 42, 43, 44, 45] (by decide) rfl
  refine lv_aload_n hx hb dX9_undone_35 rfl (lv_at hl 0 rfl) ?_
  refine va_get (D := (dC, dI)) (ci := 9) (v := .ref (h 106)) (C := RX9) (T := TX9) (N := 9) hx hb hts hinX9 hown hK hP 0 rfl rfl 5 (by decide) (hts (.fieldLink RX9 51 "MixedWords" "least" "LMixedWords$Least;") (by decide +kernel)) (fun _ h9 => h9) rfl dX9_undone_36 ?_
  refine va_get (D := (dC, dI)) (ci := 2) (v := .long (fL 188)) (C := RX2) (T := TX2) (N := 5) hx hb hts hinX2 hown hK hP 27 rfl rfl 4 (by decide) (hts (.fieldLink RX9 192 "MixedWords$Least" "below" "J") (by decide +kernel)) (fun _ h9 => h9) rfl dX9_undone_39 ?_
  refine xt_l (y := (0 : Int64)) (by decide +kernel) ?_
  refine lv_lconst (v := 0) hx hb dX9_undone_42 rfl ?_
  refine xl_gt (tgt := 50) hx hb dX9_undone_43 dX9_undone_44 (by decide) (fun c9 => False.elim (by revert c9; decide +kernel)) (fun _ => ?_)
  refine lv_bipush (v := (-2)) hx hb dX9_undone_47 (by decide) ?_
  exact xr_i (v := (-2)) hx hb hr hlocks hK hS dX9_undone_49 (fI, fL, fA, fQ, fG, fJ) ⟨rfl, rfl⟩ hP hD
