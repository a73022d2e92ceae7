def wD_146 (h : Nat → Nat) (cs : Nat → ClassId) (I : Nat → Int32) (L : Nat → Int64) (A : Nat → Nat → Int32) (Q : Nat → Nat → Int64) (G : Nat → Nat → Nat → Int32) (J : Nat → Nat → Nat → Int64) : va_W := [(h 131, .inl (cs 0, 4, .inl ((G 0) 0)))]
theorem dJ7_fill_53178_0 : decode cJ7_fill_53178 0 = .ok (.iconst 0, 1) := by decide +kernel
theorem dJ7_fill_53178_1 : decode cJ7_fill_53178 1 = .ok (.istore_n 2, 1) := by decide +kernel
theorem dJ7_fill_53178_2 : decode cJ7_fill_53178 2 = .ok (.aload_n 0, 1) := by decide +kernel
theorem dJ7_fill_53178_3 : decode cJ7_fill_53178 3 = .ok (.arraylength, 1) := by decide +kernel
theorem dJ7_fill_53178_4 : decode cJ7_fill_53178 4 = .ok (.istore_n 3, 1) := by decide +kernel
theorem dJ7_fill_53178_5 : decode cJ7_fill_53178 5 = .ok (.iload_n 2, 1) := by decide +kernel
theorem dJ7_fill_53178_6 : decode cJ7_fill_53178 6 = .ok (.iload_n 3, 1) := by decide +kernel
theorem dJ7_fill_53178_7 : decode cJ7_fill_53178 7 = .ok (.if_icmp .ge 13, 3) := by decide +kernel
theorem dJ7_fill_53178_10 : decode cJ7_fill_53178 10 = .ok (.aload_n 0, 1) := by decide +kernel
theorem dJ7_fill_53178_11 : decode cJ7_fill_53178 11 = .ok (.iload_n 2, 1) := by decide +kernel
theorem dJ7_fill_53178_12 : decode cJ7_fill_53178 12 = .ok (.iload_n 1, 1) := by decide +kernel
theorem dJ7_fill_53178_13 : decode cJ7_fill_53178 13 = .ok (.iastore, 1) := by decide +kernel
theorem dJ7_fill_53178_14 : decode cJ7_fill_53178 14 = .ok (.iinc 2 1, 3) := by decide +kernel
theorem dJ7_fill_53178_17 : decode cJ7_fill_53178 17 = .ok (.goto (-12), 3) := by decide +kernel
theorem dJ7_fill_53178_20 : decode cJ7_fill_53178 20 = .ok (.return_, 1) := by decide +kernel
set_option maxHeartbeats 4000000 in
set_option maxRecDepth 100000 in
theorem a_J7_fill_53178_147 (l : Launch) (dC : Nat → ClassId) (dI : Nat → Nat → Nat) (h : Nat → Nat) (cs : Nat → ClassId) (sz : Nat) (I : Nat → Int32) (L : Nat → Int64) (A : Nat → Nat → Int32) (Q : Nat → Nat → Int64) (G : Nat → Nat → Nat → Int32) (J : Nat → Nat → Nat → Int64) : Met l yJ7_fill_53178 wsJ7_fill_53178 ({ frames := 0, cells := 0, slots := 0, locals := 0 }) (va_Pc [.ref (h 131), .int (nI 0)] (xPre (dC, dI) (wD_146 h cs fI fL fA fQ fG fJ) (tysA cs) sz)) (va_Qv (fun (u : CS) => (True) ∧ u = (fI, fL, fA, fQ, fG, fJ)) (xB (dC, dI) (tysA cs) (va_A (wD_146 h cs fI fL fA fQ fG fJ) sz) (fun u : CS => wD_146 h cs u.1 u.2.1 u.2.2.1 u.2.2.2.1 u.2.2.2.2.1 u.2.2.2.2.2)) (va_A (wD_146 h cs fI fL fA fQ fG fJ) sz)) 0 0 (va_A (wD_146 h cs fI fL fA fQ fG fJ) sz) := by
  refine Met.ofW (cc := cJ7_fill_53178) (maxL := 4) (ret := none) (by decide) rfl ?_
  intro p e s m args below meth c s₁ B hml hv
  obtain ⟨rfl, hsz, hP, hK, hD0, hN⟩ := hv
  have hx := B.exec
  have hb := B.bytes
  have hr := B.returns
  have hts := atoms_spec (ws := wsJ7_fill_53178) B.pre
  have hown : s.vm.findClass RJ7 = some m.cls := findClass_of_methodNamed B.named
  have hlocks := B.notSynchronized
  subst hsz
  have hD := hD0.self (sz := s.heap.size)
  generalize hAe : va_A (wD_146 h cs fI fL fA fQ fG fJ) s.heap.size = A0 at hD ⊢
  have hA : ∀ q : Nat, s.heap.size ≤ q → A0 q := fun q h => by rw [← hAe]; exact Or.inr h
  have hl := lv_entry ([.ref (h 131), .int (nI 0)]) (n := 4) (Nat.le_of_ble_eq_true rfl)
  rw [lg_entry_eq]
  generalize (lg_sl ([.ref (h 131), .int (nI 0)]) ++ List.replicate (4 - (lg_sl ([.ref (h 131), .int (nI 0)])).length) Slot.unset).toArray = ls at hl ⊢
  have hl : lv_has ls 4 [(0, .ref (h 131)), (1, .int (nI 0))] := hl
  generalize hH : s.heap = H at hP ⊢
  have hS : va_S A0 s.heap H [] := by rw [← hH]; exact va_S.rf
  refine lv_iconst (v := nI 0) hx hb dJ7_fill_53178_0 (by decide) ?_
  refine lv_istore_n (lv' := [(2, .int (nI 0)), (0, .ref (h 131)), (1, .int (nI 0))]) hx hb dJ7_fill_53178_1 rfl hl (by decide) rfl (fun ls hl => ?_)
  refine lv_aload_n hx hb dJ7_fill_53178_2 rfl (lv_at hl 1 rfl) ?_
  refine xa_alen hx hb hK hP 0 0 rfl rfl (n := 4) rfl dJ7_fill_53178_3 ?_
  refine lv_istore_n (lv' := [(3, .int (nI 4)), (2, .int (nI 0)), (0, .ref (h 131)), (1, .int (nI 0))]) hx hb dJ7_fill_53178_4 rfl hl (by decide) rfl (fun ls hl => ?_)
  refine lv_iload_n hx hb dJ7_fill_53178_5 rfl (lv_at hl 1 rfl) ?_
  refine lv_iload_n hx hb dJ7_fill_53178_6 rfl (lv_at hl 0 rfl) ?_
  refine lv_icmp_ge (tgt := 20) hx hb dJ7_fill_53178_7 (by decide) (fun c9 => False.elim (by revert c9; decide +kernel)) (fun _ => ?_)
  refine lv_aload_n hx hb dJ7_fill_53178_10 rfl (lv_at hl 2 rfl) ?_
  refine lv_iload_n hx hb dJ7_fill_53178_11 rfl (lv_at hl 1 rfl) ?_
  refine lv_iload_n hx hb dJ7_fill_53178_12 rfl (lv_at hl 3 rfl) ?_
  refine xa_iastS hx hb hK hP hD hS 0 0 rfl rfl (by omega) (by decide) (by decide +kernel) dJ7_fill_53178_13 (fun H locs hP hD hS => ?_)
  refine lv_iinc (v := nI 1) (lv' := [(2, .int (nI 1)), (3, .int (nI 4)), (0, .ref (h 131)), (1, .int (nI 0))]) hx hb dJ7_fill_53178_14 hl (k := 1) rfl (by decide +kernel) (by decide) rfl (fun ls hl => ?_)
  refine lv_goto (tgt := 5) hx hb dJ7_fill_53178_17 (by decide) ?_
  refine lv_iload_n hx hb dJ7_fill_53178_5 rfl (lv_at hl 0 rfl) ?_
  refine lv_iload_n hx hb dJ7_fill_53178_6 rfl (lv_at hl 1 rfl) ?_
  refine lv_icmp_ge (tgt := 20) hx hb dJ7_fill_53178_7 (by decide) (fun c9 => False.elim (by revert c9; decide +kernel)) (fun _ => ?_)
  refine lv_aload_n hx hb dJ7_fill_53178_10 rfl (lv_at hl 2 rfl) ?_
  refine lv_iload_n hx hb dJ7_fill_53178_11 rfl (lv_at hl 0 rfl) ?_
  refine lv_iload_n hx hb dJ7_fill_53178_12 rfl (lv_at hl 3 rfl) ?_
  refine xa_iastS hx hb hK hP hD hS 0 0 rfl rfl (by omega) (by decide) (by decide +kernel) dJ7_fill_53178_13 (fun H locs hP hD hS => ?_)
  refine lv_iinc (v := nI 2) (lv' := [(2, .int (nI 2)), (3, .int (nI 4)), (0, .ref (h 131)), (1, .int (nI 0))]) hx hb dJ7_fill_53178_14 hl (k := 0) rfl (by decide +kernel) (by decide) rfl (fun ls hl => ?_)
  refine lv_goto (tgt := 5) hx hb dJ7_fill_53178_17 (by decide) ?_
  refine lv_iload_n hx hb dJ7_fill_53178_5 rfl (lv_at hl 0 rfl) ?_
  refine lv_iload_n hx hb dJ7_fill_53178_6 rfl (lv_at hl 1 rfl) ?_
  refine lv_icmp_ge (tgt := 20) hx hb dJ7_fill_53178_7 (by decide) (fun c9 => False.elim (by revert c9; decide +kernel)) (fun _ => ?_)
  refine lv_aload_n hx hb dJ7_fill_53178_10 rfl (lv_at hl 2 rfl) ?_
  refine lv_iload_n hx hb dJ7_fill_53178_11 rfl (lv_at hl 0 rfl) ?_
  refine lv_iload_n hx hb dJ7_fill_53178_12 rfl (lv_at hl 3 rfl) ?_
  refine xa_iastS hx hb hK hP hD hS 0 0 rfl rfl (by omega) (by decide) (by decide +kernel) dJ7_fill_53178_13 (fun H locs hP hD hS => ?_)
  refine lv_iinc (v := nI 3) (lv' := [(2, .int (nI 3)), (3, .int (nI 4)), (0, .ref (h 131)), (1, .int (nI 0))]) hx hb dJ7_fill_53178_14 hl (k := 0) rfl (by decide +kernel) (by decide) rfl (fun ls hl => ?_)
  refine lv_goto (tgt := 5) hx hb dJ7_fill_53178_17 (by decide) ?_
  refine lv_iload_n hx hb dJ7_fill_53178_5 rfl (lv_at hl 0 rfl) ?_
  refine lv_iload_n hx hb dJ7_fill_53178_6 rfl (lv_at hl 1 rfl) ?_
  refine lv_icmp_ge (tgt := 20) hx hb dJ7_fill_53178_7 (by decide) (fun c9 => False.elim (by revert c9; decide +kernel)) (fun _ => ?_)
  refine lv_aload_n hx hb dJ7_fill_53178_10 rfl (lv_at hl 2 rfl) ?_
  refine lv_iload_n hx hb dJ7_fill_53178_11 rfl (lv_at hl 0 rfl) ?_
  refine lv_iload_n hx hb dJ7_fill_53178_12 rfl (lv_at hl 3 rfl) ?_
  refine xa_iastS hx hb hK hP hD hS 0 0 rfl rfl (by omega) (by decide) (by decide +kernel) dJ7_fill_53178_13 (fun H locs hP hD hS => ?_)
  refine lv_iinc (v := nI 4) (lv' := [(2, .int (nI 4)), (3, .int (nI 4)), (0, .ref (h 131)), (1, .int (nI 0))]) hx hb dJ7_fill_53178_14 hl (k := 0) rfl (by decide +kernel) (by decide) rfl (fun ls hl => ?_)
  refine lv_goto (tgt := 5) hx hb dJ7_fill_53178_17 (by decide) ?_
  refine lv_iload_n hx hb dJ7_fill_53178_5 rfl (lv_at hl 0 rfl) ?_
  refine lv_iload_n hx hb dJ7_fill_53178_6 rfl (lv_at hl 1 rfl) ?_
  refine lv_icmp_ge (tgt := 20) hx hb dJ7_fill_53178_7 (by decide) (fun _ => ?_) (fun c9 => False.elim (by revert c9; decide +kernel))
  exact xr_v hx hb hr hlocks hK hS dJ7_fill_53178_20 (fI, fL, fA, fQ, fG, fJ) ⟨trivial, rfl⟩ hP hD
def wD_148 (h : Nat → Nat) (cs : Nat → ClassId) (I : Nat → Int32) (L : Nat → Int64) (A : Nat → Nat → Int32) (Q : Nat → Nat → Int64) (G : Nat → Nat → Nat → Int32) (J : Nat → Nat → Nat → Int64) : va_W := [(h 132, .inl (cs 0, 4, .inl ((G 0) 1)))]
set_option maxHeartbeats 4000000 in
set_option maxRecDepth 100000 in
theorem a_J7_fill_53178_149 (l : Launch) (dC : Nat → ClassId) (dI : Nat → Nat → Nat) (h : Nat → Nat) (cs : Nat → ClassId) (sz : Nat) (I : Nat → Int32) (L : Nat → Int64) (A : Nat → Nat → Int32) (Q : Nat → Nat → Int64) (G : Nat → Nat → Nat → Int32) (J : Nat → Nat → Nat → Int64) : Met l yJ7_fill_53178 wsJ7_fill_53178 ({ frames := 0, cells := 0, slots := 0, locals := 0 }) (va_Pc [.ref (h 132), .int (nI 0)] (xPre (dC, dI) (wD_148 h cs fI fL fA fQ fG fJ) (tysA cs) sz)) (va_Qv (fun (u : CS) => (True) ∧ u = (fI, fL, fA, fQ, fG, fJ)) (xB (dC, dI) (tysA cs) (va_A (wD_148 h cs fI fL fA fQ fG fJ) sz) (fun u : CS => wD_148 h cs u.1 u.2.1 u.2.2.1 u.2.2.2.1 u.2.2.2.2.1 u.2.2.2.2.2)) (va_A (wD_148 h cs fI fL fA fQ fG fJ) sz)) 0 0 (va_A (wD_148 h cs fI fL fA fQ fG fJ) sz) := by
  refine Met.ofW (cc := cJ7_fill_53178) (maxL := 4) (ret := none) (by decide) rfl ?_
  intro p e s m args below meth c s₁ B hml hv
  obtain ⟨rfl, hsz, hP, hK, hD0, hN⟩ := hv
  have hx := B.exec
  have hb := B.bytes
  have hr := B.returns
  have hts := atoms_spec (ws := wsJ7_fill_53178) B.pre
  have hown : s.vm.findClass RJ7 = some m.cls := findClass_of_methodNamed B.named
  have hlocks := B.notSynchronized
  subst hsz
  have hD := hD0.self (sz := s.heap.size)
  generalize hAe : va_A (wD_148 h cs fI fL fA fQ fG fJ) s.heap.size = A0 at hD ⊢
  have hA : ∀ q : Nat, s.heap.size ≤ q → A0 q := fun q h => by rw [← hAe]; exact Or.inr h
  have hl := lv_entry ([.ref (h 132), .int (nI 0)]) (n := 4) (Nat.le_of_ble_eq_true rfl)
  rw [lg_entry_eq]
  generalize (lg_sl ([.ref (h 132), .int (nI 0)]) ++ List.replicate (4 - (lg_sl ([.ref (h 132), .int (nI 0)])).length) Slot.unset).toArray = ls at hl ⊢
  have hl : lv_has ls 4 [(0, .ref (h 132)), (1, .int (nI 0))] := hl
  generalize hH : s.heap = H at hP ⊢
  have hS : va_S A0 s.heap H [] := by rw [← hH]; exact va_S.rf
  refine lv_iconst (v := nI 0) hx hb dJ7_fill_53178_0 (by decide) ?_
  refine lv_istore_n (lv' := [(2, .int (nI 0)), (0, .ref (h 132)), (1, .int (nI 0))]) hx hb dJ7_fill_53178_1 rfl hl (by decide) rfl (fun ls hl => ?_)
  refine lv_aload_n hx hb dJ7_fill_53178_2 rfl (lv_at hl 1 rfl) ?_
  refine xa_alen hx hb hK hP 0 0 rfl rfl (n := 4) rfl dJ7_fill_53178_3 ?_
  refine lv_istore_n (lv' := [(3, .int (nI 4)), (2, .int (nI 0)), (0, .ref (h 132)), (1, .int (nI 0))]) hx hb dJ7_fill_53178_4 rfl hl (by decide) rfl (fun ls hl => ?_)
  refine lv_iload_n hx hb dJ7_fill_53178_5 rfl (lv_at hl 1 rfl) ?_
  refine lv_iload_n hx hb dJ7_fill_53178_6 rfl (lv_at hl 0 rfl) ?_
  refine lv_icmp_ge (tgt := 20) hx hb dJ7_fill_53178_7 (by decide) (fun c9 => False.elim (by revert c9; decide +kernel)) (fun _ => ?_)
  refine lv_aload_n hx hb dJ7_fill_53178_10 rfl (lv_at hl 2 rfl) ?_
  refine lv_iload_n hx hb dJ7_fill_53178_11 rfl (lv_at hl 1 rfl) ?_
  refine lv_iload_n hx hb dJ7_fill_53178_12 rfl (lv_at hl 3 rfl) ?_
  refine xa_iastS hx hb hK hP hD hS 0 0 rfl rfl (by omega) (by decide) (by decide +kernel) dJ7_fill_53178_13 (fun H locs hP hD hS => ?_)
  refine lv_iinc (v := nI 1) (lv' := [(2, .int (nI 1)), (3, .int (nI 4)), (0, .ref (h 132)), (1, .int (nI 0))]) hx hb dJ7_fill_53178_14 hl (k := 1) rfl (by decide +kernel) (by decide) rfl (fun ls hl => ?_)
  refine lv_goto (tgt := 5) hx hb dJ7_fill_53178_17 (by decide) ?_
  refine lv_iload_n hx hb dJ7_fill_53178_5 rfl (lv_at hl 0 rfl) ?_
  refine lv_iload_n hx hb dJ7_fill_53178_6 rfl (lv_at hl 1 rfl) ?_
  refine lv_icmp_ge (tgt := 20) hx hb dJ7_fill_53178_7 (by decide) (fun c9 => False.elim (by revert c9; decide +kernel)) (fun _ => ?_)
  refine lv_aload_n hx hb dJ7_fill_53178_10 rfl (lv_at hl 2 rfl) ?_
  refine lv_iload_n hx hb dJ7_fill_53178_11 rfl (lv_at hl 0 rfl) ?_
  refine lv_iload_n hx hb dJ7_fill_53178_12 rfl (lv_at hl 3 rfl) ?_
  refine xa_iastS hx hb hK hP hD hS 0 0 rfl rfl (by omega) (by decide) (by decide +kernel) dJ7_fill_53178_13 (fun H locs hP hD hS => ?_)
  refine lv_iinc (v := nI 2) (lv' := [(2, .int (nI 2)), (3, .int (nI 4)), (0, .ref (h 132)), (1, .int (nI 0))]) hx hb dJ7_fill_53178_14 hl (k := 0) rfl (by decide +kernel) (by decide) rfl (fun ls hl => ?_)
  refine lv_goto (tgt := 5) hx hb dJ7_fill_53178_17 (by decide) ?_
  refine lv_iload_n hx hb dJ7_fill_53178_5 rfl (lv_at hl 0 rfl) ?_
  refine lv_iload_n hx hb dJ7_fill_53178_6 rfl (lv_at hl 1 rfl) ?_
  refine lv_icmp_ge (tgt := 20) hx hb dJ7_fill_53178_7 (by decide) (fun c9 => False.elim (by revert c9; decide +kernel)) (fun _ => ?_)
  refine lv_aload_n hx hb dJ7_fill_53178_10 rfl (lv_at hl 2 rfl) ?_
  refine lv_iload_n hx hb dJ7_fill_53178_11 rfl (lv_at hl 0 rfl) ?_
  refine lv_iload_n hx hb dJ7_fill_53178_12 rfl (lv_at hl 3 rfl) ?_
  refine xa_iastS hx hb hK hP hD hS 0 0 rfl rfl (by omega) (by decide) (by decide +kernel) dJ7_fill_53178_13 (fun H locs hP hD hS => ?_)
  refine lv_iinc (v := nI 3) (lv' := [(2, .int (nI 3)), (3, .int (nI 4)), (0, .ref (h 132)), (1, .int (nI 0))]) hx hb dJ7_fill_53178_14 hl (k := 0) rfl (by decide +kernel) (by decide) rfl (fun ls hl => ?_)
  refine lv_goto (tgt := 5) hx hb dJ7_fill_53178_17 (by decide) ?_
  refine lv_iload_n hx hb dJ7_fill_53178_5 rfl (lv_at hl 0 rfl) ?_
  refine lv_iload_n hx hb dJ7_fill_53178_6 rfl (lv_at hl 1 rfl) ?_
  refine lv_icmp_ge (tgt := 20) hx hb dJ7_fill_53178_7 (by decide) (fun c9 => False.elim (by revert c9; decide +kernel)) (fun _ => ?_)
  refine lv_aload_n hx hb dJ7_fill_53178_10 rfl (lv_at hl 2 rfl) ?_
  refine lv_iload_n hx hb dJ7_fill_53178_11 rfl (lv_at hl 0 rfl) ?_
  refine lv_iload_n hx hb dJ7_fill_53178_12 rfl (lv_at hl 3 rfl) ?_
  refine xa_iastS hx hb hK hP hD hS 0 0 rfl rfl (by omega) (by decide) (by decide +kernel) dJ7_fill_53178_13 (fun H locs hP hD hS => ?_)
  refine lv_iinc (v := nI 4) (lv' := [(2, .int (nI 4)), (3, .int (nI 4)), (0, .ref (h 132)), (1, .int (nI 0))]) hx hb dJ7_fill_53178_14 hl (k := 0) rfl (by decide +kernel) (by decide) rfl (fun ls hl => ?_)
  refine lv_goto (tgt := 5) hx hb dJ7_fill_53178_17 (by decide) ?_
  refine lv_iload_n hx hb dJ7_fill_53178_5 rfl (lv_at hl 0 rfl) ?_
  refine lv_iload_n hx hb dJ7_fill_53178_6 rfl (lv_at hl 1 rfl) ?_
  refine lv_icmp_ge (tgt := 20) hx hb dJ7_fill_53178_7 (by decide) (fun _ => ?_) (fun c9 => False.elim (by revert c9; decide +kernel))
  exact xr_v hx hb hr hlocks hK hS dJ7_fill_53178_20 (fI, fL, fA, fQ, fG, fJ) ⟨trivial, rfl⟩ hP hD
def wD_150 (h : Nat → Nat) (cs : Nat → ClassId) (I : Nat → Int32) (L : Nat → Int64) (A : Nat → Nat → Int32) (Q : Nat → Nat → Int64) (G : Nat → Nat → Nat → Int32) (J : Nat → Nat → Nat → Int64) : va_W := [(h 133, .inl (cs 0, 4, .inl ((G 0) 2)))]
set_option maxHeartbeats 4000000 in
set_option maxRecDepth 100000 in
theorem a_J7_fill_53178_151 (l : Launch) (dC : Nat → ClassId) (dI : Nat → Nat → Nat) (h : Nat → Nat) (cs : Nat → ClassId) (sz : Nat) (I : Nat → Int32) (L : Nat → Int64) (A : Nat → Nat → Int32) (Q : Nat → Nat → Int64) (G : Nat → Nat → Nat → Int32) (J : Nat → Nat → Nat → Int64) : Met l yJ7_fill_53178 wsJ7_fill_53178 ({ frames := 0, cells := 0, slots := 0, locals := 0 }) (va_Pc [.ref (h 133), .int (nI 0)] (xPre (dC, dI) (wD_150 h cs fI fL fA fQ fG fJ) (tysA cs) sz)) (va_Qv (fun (u : CS) => (True) ∧ u = (fI, fL, fA, fQ, fG, fJ)) (xB (dC, dI) (tysA cs) (va_A (wD_150 h cs fI fL fA fQ fG fJ) sz) (fun u : CS => wD_150 h cs u.1 u.2.1 u.2.2.1 u.2.2.2.1 u.2.2.2.2.1 u.2.2.2.2.2)) (va_A (wD_150 h cs fI fL fA fQ fG fJ) sz)) 0 0 (va_A (wD_150 h cs fI fL fA fQ fG fJ) sz) := by
  refine Met.ofW (cc := cJ7_fill_53178) (maxL := 4) (ret := none) (by decide) rfl ?_
  intro p e s m args below meth c s₁ B hml hv
  obtain ⟨rfl, hsz, hP, hK, hD0, hN⟩ := hv
  have hx := B.exec
  have hb := B.bytes
  have hr := B.returns
  have hts := atoms_spec (ws := wsJ7_fill_53178) B.pre
  have hown : s.vm.findClass RJ7 = some m.cls := findClass_of_methodNamed B.named
  have hlocks := B.notSynchronized
  subst hsz
  have hD := hD0.self (sz := s.heap.size)
  generalize hAe : va_A (wD_150 h cs fI fL fA fQ fG fJ) s.heap.size = A0 at hD ⊢
  have hA : ∀ q : Nat, s.heap.size ≤ q → A0 q := fun q h => by rw [← hAe]; exact Or.inr h
  have hl := lv_entry ([.ref (h 133), .int (nI 0)]) (n := 4) (Nat.le_of_ble_eq_true rfl)
  rw [lg_entry_eq]
  generalize (lg_sl ([.ref (h 133), .int (nI 0)]) ++ List.replicate (4 - (lg_sl ([.ref (h 133), .int (nI 0)])).length) Slot.unset).toArray = ls at hl ⊢
  have hl : lv_has ls 4 [(0, .ref (h 133)), (1, .int (nI 0))] := hl
  generalize hH : s.heap = H at hP ⊢
  have hS : va_S A0 s.heap H [] := by rw [← hH]; exact va_S.rf
  refine lv_iconst (v := nI 0) hx hb dJ7_fill_53178_0 (by decide) ?_
  refine lv_istore_n (lv' := [(2, .int (nI 0)), (0, .ref (h 133)), (1, .int (nI 0))]) hx hb dJ7_fill_53178_1 rfl hl (by decide) rfl (fun ls hl => ?_)
  refine lv_aload_n hx hb dJ7_fill_53178_2 rfl (lv_at hl 1 rfl) ?_
  refine xa_alen hx hb hK hP 0 0 rfl rfl (n := 4) rfl dJ7_fill_53178_3 ?_
  refine lv_istore_n (lv' := [(3, .int (nI 4)), (2, .int (nI 0)), (0, .ref (h 133)), (1, .int (nI 0))]) hx hb dJ7_fill_53178_4 rfl hl (by decide) rfl (fun ls hl => ?_)
  refine lv_iload_n hx hb dJ7_fill_53178_5 rfl (lv_at hl 1 rfl) ?_
  refine lv_iload_n hx hb dJ7_fill_53178_6 rfl (lv_at hl 0 rfl) ?_
  refine lv_icmp_ge (tgt := 20) hx hb dJ7_fill_53178_7 (by decide) (fun c9 => False.elim (by revert c9; decide +kernel)) (fun _ => ?_)
  refine lv_aload_n hx hb dJ7_fill_53178_10 rfl (lv_at hl 2 rfl) ?_
  refine lv_iload_n hx hb dJ7_fill_53178_11 rfl (lv_at hl 1 rfl) ?_
  refine lv_iload_n hx hb dJ7_fill_53178_12 rfl (lv_at hl 3 rfl) ?_
  refine xa_iastS hx hb hK hP hD hS 0 0 rfl rfl (by omega) (by decide) (by decide +kernel) dJ7_fill_53178_13 (fun H locs hP hD hS => ?_)
  refine lv_iinc (v := nI 1) (lv' := [(2, .int (nI 1)), (3, .int (nI 4)), (0, .ref (h 133)), (1, .int (nI 0))]) hx hb dJ7_fill_53178_14 hl (k := 1) rfl (by decide +kernel) (by decide) rfl (fun ls hl => ?_)
  refine lv_goto (tgt := 5) hx hb dJ7_fill_53178_17 (by decide) ?_
  refine lv_iload_n hx hb dJ7_fill_53178_5 rfl (lv_at hl 0 rfl) ?_
  refine lv_iload_n hx hb dJ7_fill_53178_6 rfl (lv_at hl 1 rfl) ?_
  refine lv_icmp_ge (tgt := 20) hx hb dJ7_fill_53178_7 (by decide) (fun c9 => False.elim (by revert c9; decide +kernel)) (fun _ => ?_)
  refine lv_aload_n hx hb dJ7_fill_53178_10 rfl (lv_at hl 2 rfl) ?_
  refine lv_iload_n hx hb dJ7_fill_53178_11 rfl (lv_at hl 0 rfl) ?_
  refine lv_iload_n hx hb dJ7_fill_53178_12 rfl (lv_at hl 3 rfl) ?_
  refine xa_iastS hx hb hK hP hD hS 0 0 rfl rfl (by omega) (by decide) (by decide +kernel) dJ7_fill_53178_13 (fun H locs hP hD hS => ?_)
  refine lv_iinc (v := nI 2) (lv' := [(2, .int (nI 2)), (3, .int (nI 4)), (0, .ref (h 133)), (1, .int (nI 0))]) hx hb dJ7_fill_53178_14 hl (k := 0) rfl (by decide +kernel) (by decide) rfl (fun ls hl => ?_)
  refine lv_goto (tgt := 5) hx hb dJ7_fill_53178_17 (by decide) ?_
  refine lv_iload_n hx hb dJ7_fill_53178_5 rfl (lv_at hl 0 rfl) ?_
  refine lv_iload_n hx hb dJ7_fill_53178_6 rfl (lv_at hl 1 rfl) ?_
  refine lv_icmp_ge (tgt := 20) hx hb dJ7_fill_53178_7 (by decide) (fun c9 => False.elim (by revert c9; decide +kernel)) (fun _ => ?_)
  refine lv_aload_n hx hb dJ7_fill_53178_10 rfl (lv_at hl 2 rfl) ?_
  refine lv_iload_n hx hb dJ7_fill_53178_11 rfl (lv_at hl 0 rfl) ?_
  refine lv_iload_n hx hb dJ7_fill_53178_12 rfl (lv_at hl 3 rfl) ?_
  refine xa_iastS hx hb hK hP hD hS 0 0 rfl rfl (by omega) (by decide) (by decide +kernel) dJ7_fill_53178_13 (fun H locs hP hD hS => ?_)
  refine lv_iinc (v := nI 3) (lv' := [(2, .int (nI 3)), (3, .int (nI 4)), (0, .ref (h 133)), (1, .int (nI 0))]) hx hb dJ7_fill_53178_14 hl (k := 0) rfl (by decide +kernel) (by decide) rfl (fun ls hl => ?_)
  refine lv_goto (tgt := 5) hx hb dJ7_fill_53178_17 (by decide) ?_
  refine lv_iload_n hx hb dJ7_fill_53178_5 rfl (lv_at hl 0 rfl) ?_
  refine lv_iload_n hx hb dJ7_fill_53178_6 rfl (lv_at hl 1 rfl) ?_
  refine lv_icmp_ge (tgt := 20) hx hb dJ7_fill_53178_7 (by decide) (fun c9 => False.elim (by revert c9; decide +kernel)) (fun _ => ?_)
  refine lv_aload_n hx hb dJ7_fill_53178_10 rfl (lv_at hl 2 rfl) ?_
  refine lv_iload_n hx hb dJ7_fill_53178_11 rfl (lv_at hl 0 rfl) ?_
  refine lv_iload_n hx hb dJ7_fill_53178_12 rfl (lv_at hl 3 rfl) ?_
  refine xa_iastS hx hb hK hP hD hS 0 0 rfl rfl (by omega) (by decide) (by decide +kernel) dJ7_fill_53178_13 (fun H locs hP hD hS => ?_)
  refine lv_iinc (v := nI 4) (lv' := [(2, .int (nI 4)), (3, .int (nI 4)), (0, .ref (h 133)), (1, .int (nI 0))]) hx hb dJ7_fill_53178_14 hl (k := 0) rfl (by decide +kernel) (by decide) rfl (fun ls hl => ?_)
  refine lv_goto (tgt := 5) hx hb dJ7_fill_53178_17 (by decide) ?_
  refine lv_iload_n hx hb dJ7_fill_53178_5 rfl (lv_at hl 0 rfl) ?_
  refine lv_iload_n hx hb dJ7_fill_53178_6 rfl (lv_at hl 1 rfl) ?_
  refine lv_icmp_ge (tgt := 20) hx hb dJ7_fill_53178_7 (by decide) (fun _ => ?_) (fun c9 => False.elim (by revert c9; decide +kernel))
  exact xr_v hx hb hr hlocks hK hS dJ7_fill_53178_20 (fI, fL, fA, fQ, fG, fJ) ⟨trivial, rfl⟩ hP hD
def wD_152 (h : Nat → Nat) (cs : Nat → ClassId) (I : Nat → Int32) (L : Nat → Int64) (A : Nat → Nat → Int32) (Q : Nat → Nat → Int64) (G : Nat → Nat → Nat → Int32) (J : Nat → Nat → Nat → Int64) : va_W := [(h 134, .inl (cs 0, 4, .inl ((G 0) 3)))]
set_option maxHeartbeats 4000000 in
set_option maxRecDepth 100000 in
theorem a_J7_fill_53178_153 (l : Launch) (dC : Nat → ClassId) (dI : Nat → Nat → Nat) (h : Nat → Nat) (cs : Nat → ClassId) (sz : Nat) (I : Nat → Int32) (L : Nat → Int64) (A : Nat → Nat → Int32) (Q : Nat → Nat → Int64) (G : Nat → Nat → Nat → Int32) (J : Nat → Nat → Nat → Int64) : Met l yJ7_fill_53178 wsJ7_fill_53178 ({ frames := 0, cells := 0, slots := 0, locals := 0 }) (va_Pc [.ref (h 134), .int (nI 0)] (xPre (dC, dI) (wD_152 h cs fI fL fA fQ fG fJ) (tysA cs) sz)) (va_Qv (fun (u : CS) => (True) ∧ u = (fI, fL, fA, fQ, fG, fJ)) (xB (dC, dI) (tysA cs) (va_A (wD_152 h cs fI fL fA fQ fG fJ) sz) (fun u : CS => wD_152 h cs u.1 u.2.1 u.2.2.1 u.2.2.2.1 u.2.2.2.2.1 u.2.2.2.2.2)) (va_A (wD_152 h cs fI fL fA fQ fG fJ) sz)) 0 0 (va_A (wD_152 h cs fI fL fA fQ fG fJ) sz) := by
  refine Met.ofW (cc := cJ7_fill_53178) (maxL := 4) (ret := none) (by decide) rfl ?_
  intro p e s m args below meth c s₁ B hml hv
  obtain ⟨rfl, hsz, hP, hK, hD0, hN⟩ := hv
  have hx := B.exec
  have hb := B.bytes
  have hr := B.returns
  have hts := atoms_spec (ws := wsJ7_fill_53178) B.pre
  have hown : s.vm.findClass RJ7 = some m.cls := findClass_of_methodNamed B.named
  have hlocks := B.notSynchronized
  subst hsz
  have hD := hD0.self (sz := s.heap.size)
  generalize hAe : va_A (wD_152 h cs fI fL fA fQ fG fJ) s.heap.size = A0 at hD ⊢
  have hA : ∀ q : Nat, s.heap.size ≤ q → A0 q := fun q h => by rw [← hAe]; exact Or.inr h
  have hl := lv_entry ([.ref (h 134), .int (nI 0)]) (n := 4) (Nat.le_of_ble_eq_true rfl)
  rw [lg_entry_eq]
  generalize (lg_sl ([.ref (h 134), .int (nI 0)]) ++ List.replicate (4 - (lg_sl ([.ref (h 134), .int (nI 0)])).length) Slot.unset).toArray = ls at hl ⊢
  have hl : lv_has ls 4 [(0, .ref (h 134)), (1, .int (nI 0))] := hl
  generalize hH : s.heap = H at hP ⊢
  have hS : va_S A0 s.heap H [] := by rw [← hH]; exact va_S.rf
  refine lv_iconst (v := nI 0) hx hb dJ7_fill_53178_0 (by decide) ?_
  refine lv_istore_n (lv' := [(2, .int (nI 0)), (0, .ref (h 134)), (1, .int (nI 0))]) hx hb dJ7_fill_53178_1 rfl hl (by decide) rfl (fun ls hl => ?_)
  refine lv_aload_n hx hb dJ7_fill_53178_2 rfl (lv_at hl 1 rfl) ?_
  refine xa_alen hx hb hK hP 0 0 rfl rfl (n := 4) rfl dJ7_fill_53178_3 ?_
  refine lv_istore_n (lv' := [(3, .int (nI 4)), (2, .int (nI 0)), (0, .ref (h 134)), (1, .int (nI 0))]) hx hb dJ7_fill_53178_4 rfl hl (by decide) rfl (fun ls hl => ?_)
  refine lv_iload_n hx hb dJ7_fill_53178_5 rfl (lv_at hl 1 rfl) ?_
  refine lv_iload_n hx hb dJ7_fill_53178_6 rfl (lv_at hl 0 rfl) ?_
  refine lv_icmp_ge (tgt := 20) hx hb dJ7_fill_53178_7 (by decide) (fun c9 => False.elim (by revert c9; decide +kernel)) (fun _ => ?_)
  refine lv_aload_n hx hb dJ7_fill_53178_10 rfl (lv_at hl 2 rfl) ?_
  refine lv_iload_n hx hb dJ7_fill_53178_11 rfl (lv_at hl 1 rfl) ?_
  refine lv_iload_n hx hb dJ7_fill_53178_12 rfl (lv_at hl 3 rfl) ?_
  refine xa_iastS hx hb hK hP hD hS 0 0 rfl rfl (by omega) (by decide) (by decide +kernel) dJ7_fill_53178_13 (fun H locs hP hD hS => ?_)
  refine lv_iinc (v := nI 1) (lv' := [(2, .int (nI 1)), (3, .int (nI 4)), (0, .ref (h 134)), (1, .int (nI 0))]) hx hb dJ7_fill_53178_14 hl (k := 1) rfl (by decide +kernel) (by decide) rfl (fun ls hl => ?_)
  refine lv_goto (tgt := 5) hx hb dJ7_fill_53178_17 (by decide) ?_
  refine lv_iload_n hx hb dJ7_fill_53178_5 rfl (lv_at hl 0 rfl) ?_
  refine lv_iload_n hx hb dJ7_fill_53178_6 rfl (lv_at hl 1 rfl) ?_
  refine lv_icmp_ge (tgt := 20) hx hb dJ7_fill_53178_7 (by decide) (fun c9 => False.elim (by revert c9; decide +kernel)) (fun _ => ?_)
  refine lv_aload_n hx hb dJ7_fill_53178_10 rfl (lv_at hl 2 rfl) ?_
  refine lv_iload_n hx hb dJ7_fill_53178_11 rfl (lv_at hl 0 rfl) ?_
  refine lv_iload_n hx hb dJ7_fill_53178_12 rfl (lv_at hl 3 rfl) ?_
  refine xa_iastS hx hb hK hP hD hS 0 0 rfl rfl (by omega) (by decide) (by decide +kernel) dJ7_fill_53178_13 (fun H locs hP hD hS => ?_)
  refine lv_iinc (v := nI 2) (lv' := [(2, .int (nI 2)), (3, .int (nI 4)), (0, .ref (h 134)), (1, .int (nI 0))]) hx hb dJ7_fill_53178_14 hl (k := 0) rfl (by decide +kernel) (by decide) rfl (fun ls hl => ?_)
  refine lv_goto (tgt := 5) hx hb dJ7_fill_53178_17 (by decide) ?_
  refine lv_iload_n hx hb dJ7_fill_53178_5 rfl (lv_at hl 0 rfl) ?_
  refine lv_iload_n hx hb dJ7_fill_53178_6 rfl (lv_at hl 1 rfl) ?_
  refine lv_icmp_ge (tgt := 20) hx hb dJ7_fill_53178_7 (by decide) (fun c9 => False.elim (by revert c9; decide +kernel)) (fun _ => ?_)
  refine lv_aload_n hx hb dJ7_fill_53178_10 rfl (lv_at hl 2 rfl) ?_
  refine lv_iload_n hx hb dJ7_fill_53178_11 rfl (lv_at hl 0 rfl) ?_
  refine lv_iload_n hx hb dJ7_fill_53178_12 rfl (lv_at hl 3 rfl) ?_
  refine xa_iastS hx hb hK hP hD hS 0 0 rfl rfl (by omega) (by decide) (by decide +kernel) dJ7_fill_53178_13 (fun H locs hP hD hS => ?_)
  refine lv_iinc (v := nI 3) (lv' := [(2, .int (nI 3)), (3, .int (nI 4)), (0, .ref (h 134)), (1, .int (nI 0))]) hx hb dJ7_fill_53178_14 hl (k := 0) rfl (by decide +kernel) (by decide) rfl (fun ls hl => ?_)
  refine lv_goto (tgt := 5) hx hb dJ7_fill_53178_17 (by decide) ?_
  refine lv_iload_n hx hb dJ7_fill_53178_5 rfl (lv_at hl 0 rfl) ?_
  refine lv_iload_n hx hb dJ7_fill_53178_6 rfl (lv_at hl 1 rfl) ?_
  refine lv_icmp_ge (tgt := 20) hx hb dJ7_fill_53178_7 (by decide) (fun c9 => False.elim (by revert c9; decide +kernel)) (fun _ => ?_)
  refine lv_aload_n hx hb dJ7_fill_53178_10 rfl (lv_at hl 2 rfl) ?_
  refine lv_iload_n hx hb dJ7_fill_53178_11 rfl (lv_at hl 0 rfl) ?_
  refine lv_iload_n hx hb dJ7_fill_53178_12 rfl (lv_at hl 3 rfl) ?_
  refine xa_iastS hx hb hK hP hD hS 0 0 rfl rfl (by omega) (by decide) (by decide +kernel) dJ7_fill_53178_13 (fun H locs hP hD hS => ?_)
  refine lv_iinc (v := nI 4) (lv' := [(2, .int (nI 4)), (3, .int (nI 4)), (0, .ref (h 134)), (1, .int (nI 0))]) hx hb dJ7_fill_53178_14 hl (k := 0) rfl (by decide +kernel) (by decide) rfl (fun ls hl => ?_)
  refine lv_goto (tgt := 5) hx hb dJ7_fill_53178_17 (by decide) ?_
  refine lv_iload_n hx hb dJ7_fill_53178_5 rfl (lv_at hl 0 rfl) ?_
  refine lv_iload_n hx hb dJ7_fill_53178_6 rfl (lv_at hl 1 rfl) ?_
  refine lv_icmp_ge (tgt := 20) hx hb dJ7_fill_53178_7 (by decide) (fun _ => ?_) (fun c9 => False.elim (by revert c9; decide +kernel))
  exact xr_v hx hb hr hlocks hK hS dJ7_fill_53178_20 (fI, fL, fA, fQ, fG, fJ) ⟨trivial, rfl⟩ hP hD
def wD_154 (h : Nat → Nat) (cs : Nat → ClassId) (I : Nat → Int32) (L : Nat → Int64) (A : Nat → Nat → Int32) (Q : Nat → Nat → Int64) (G : Nat → Nat → Nat → Int32) (J : Nat → Nat → Nat → Int64) : va_W := [(h 135, .inl (cs 0, 4, .inl ((G 0) 4)))]
set_option maxHeartbeats 4000000 in
set_option maxRecDepth 100000 in
theorem a_J7_fill_53178_155 (l : Launch) (dC : Nat → ClassId) (dI : Nat → Nat → Nat) (h : Nat → Nat) (cs : Nat → ClassId) (sz : Nat) (I : Nat → Int32) (L : Nat → Int64) (A : Nat → Nat → Int32) (Q : Nat → Nat → Int64) (G : Nat → Nat → Nat → Int32) (J : Nat → Nat → Nat → Int64) : Met l yJ7_fill_53178 wsJ7_fill_53178 ({ frames := 0, cells := 0, slots := 0, locals := 0 }) (va_Pc [.ref (h 135), .int (nI 0)] (xPre (dC, dI) (wD_154 h cs fI fL fA fQ fG fJ) (tysA cs) sz)) (va_Qv (fun (u : CS) => (True) ∧ u = (fI, fL, fA, fQ, fG, fJ)) (xB (dC, dI) (tysA cs) (va_A (wD_154 h cs fI fL fA fQ fG fJ) sz) (fun u : CS => wD_154 h cs u.1 u.2.1 u.2.2.1 u.2.2.2.1 u.2.2.2.2.1 u.2.2.2.2.2)) (va_A (wD_154 h cs fI fL fA fQ fG fJ) sz)) 0 0 (va_A (wD_154 h cs fI fL fA fQ fG fJ) sz) := by
  refine Met.ofW (cc := cJ7_fill_53178) (maxL := 4) (ret := none) (by decide) rfl ?_
  intro p e s m args below meth c s₁ B hml hv
  obtain ⟨rfl, hsz, hP, hK, hD0, hN⟩ := hv
  have hx := B.exec
  have hb := B.bytes
  have hr := B.returns
  have hts := atoms_spec (ws := wsJ7_fill_53178) B.pre
  have hown : s.vm.findClass RJ7 = some m.cls := findClass_of_methodNamed B.named
  have hlocks := B.notSynchronized
  subst hsz
  have hD := hD0.self (sz := s.heap.size)
  generalize hAe : va_A (wD_154 h cs fI fL fA fQ fG fJ) s.heap.size = A0 at hD ⊢
  have hA : ∀ q : Nat, s.heap.size ≤ q → A0 q := fun q h => by rw [← hAe]; exact Or.inr h
  have hl := lv_entry ([.ref (h 135), .int (nI 0)]) (n := 4) (Nat.le_of_ble_eq_true rfl)
  rw [lg_entry_eq]
  generalize (lg_sl ([.ref (h 135), .int (nI 0)]) ++ List.replicate (4 - (lg_sl ([.ref (h 135), .int (nI 0)])).length) Slot.unset).toArray = ls at hl ⊢
  have hl : lv_has ls 4 [(0, .ref (h 135)), (1, .int (nI 0))] := hl
  generalize hH : s.heap = H at hP ⊢
  have hS : va_S A0 s.heap H [] := by rw [← hH]; exact va_S.rf
  refine lv_iconst (v := nI 0) hx hb dJ7_fill_53178_0 (by decide) ?_
  refine lv_istore_n (lv' := [(2, .int (nI 0)), (0, .ref (h 135)), (1, .int (nI 0))]) hx hb dJ7_fill_53178_1 rfl hl (by decide) rfl (fun ls hl => ?_)
  refine lv_aload_n hx hb dJ7_fill_53178_2 rfl (lv_at hl 1 rfl) ?_
  refine xa_alen hx hb hK hP 0 0 rfl rfl (n := 4) rfl dJ7_fill_53178_3 ?_
  refine lv_istore_n (lv' := [(3, .int (nI 4)), (2, .int (nI 0)), (0, .ref (h 135)), (1, .int (nI 0))]) hx hb dJ7_fill_53178_4 rfl hl (by decide) rfl (fun ls hl => ?_)
  refine lv_iload_n hx hb dJ7_fill_53178_5 rfl (lv_at hl 1 rfl) ?_
  refine lv_iload_n hx hb dJ7_fill_53178_6 rfl (lv_at hl 0 rfl) ?_
  refine lv_icmp_ge (tgt := 20) hx hb dJ7_fill_53178_7 (by decide) (fun c9 => False.elim (by revert c9; decide +kernel)) (fun _ => ?_)
  refine lv_aload_n hx hb dJ7_fill_53178_10 rfl (lv_at hl 2 rfl) ?_
  refine lv_iload_n hx hb dJ7_fill_53178_11 rfl (lv_at hl 1 rfl) ?_
  refine lv_iload_n hx hb dJ7_fill_53178_12 rfl (lv_at hl 3 rfl) ?_
  refine xa_iastS hx hb hK hP hD hS 0 0 rfl rfl (by omega) (by decide) (by decide +kernel) dJ7_fill_53178_13 (fun H locs hP hD hS => ?_)
  refine lv_iinc (v := nI 1) (lv' := [(2, .int (nI 1)), (3, .int (nI 4)), (0, .ref (h 135)), (1, .int (nI 0))]) hx hb dJ7_fill_53178_14 hl (k := 1) rfl (by decide +kernel) (by decide) rfl (fun ls hl => ?_)
  refine lv_goto (tgt := 5) hx hb dJ7_fill_53178_17 (by decide) ?_
  refine lv_iload_n hx hb dJ7_fill_53178_5 rfl (lv_at hl 0 rfl) ?_
  refine lv_iload_n hx hb dJ7_fill_53178_6 rfl (lv_at hl 1 rfl) ?_
  refine lv_icmp_ge (tgt := 20) hx hb dJ7_fill_53178_7 (by decide) (fun c9 => False.elim (by revert c9; decide +kernel)) (fun _ => ?_)
  refine lv_aload_n hx hb dJ7_fill_53178_10 rfl (lv_at hl 2 rfl) ?_
  refine lv_iload_n hx hb dJ7_fill_53178_11 rfl (lv_at hl 0 rfl) ?_
  refine lv_iload_n hx hb dJ7_fill_53178_12 rfl (lv_at hl 3 rfl) ?_
  refine xa_iastS hx hb hK hP hD hS 0 0 rfl rfl (by omega) (by decide) (by decide +kernel) dJ7_fill_53178_13 (fun H locs hP hD hS => ?_)
  refine lv_iinc (v := nI 2) (lv' := [(2, .int (nI 2)), (3, .int (nI 4)), (0, .ref (h 135)), (1, .int (nI 0))]) hx hb dJ7_fill_53178_14 hl (k := 0) rfl (by decide +kernel) (by decide) rfl (fun ls hl => ?_)
  refine lv_goto (tgt := 5) hx hb dJ7_fill_53178_17 (by decide) ?_
  refine lv_iload_n hx hb dJ7_fill_53178_5 rfl (lv_at hl 0 rfl) ?_
  refine lv_iload_n hx hb dJ7_fill_53178_6 rfl (lv_at hl 1 rfl) ?_
  refine lv_icmp_ge (tgt := 20) hx hb dJ7_fill_53178_7 (by decide) (fun c9 => False.elim (by revert c9; decide +kernel)) (fun _ => ?_)
  refine lv_aload_n hx hb dJ7_fill_53178_10 rfl (lv_at hl 2 rfl) ?_
  refine lv_iload_n hx hb dJ7_fill_53178_11 rfl (lv_at hl 0 rfl) ?_
  refine lv_iload_n hx hb dJ7_fill_53178_12 rfl (lv_at hl 3 rfl) ?_
  refine xa_iastS hx hb hK hP hD hS 0 0 rfl rfl (by omega) (by decide) (by decide +kernel) dJ7_fill_53178_13 (fun H locs hP hD hS => ?_)
  refine lv_iinc (v := nI 3) (lv' := [(2, .int (nI 3)), (3, .int (nI 4)), (0, .ref (h 135)), (1, .int (nI 0))]) hx hb dJ7_fill_53178_14 hl (k := 0) rfl (by decide +kernel) (by decide) rfl (fun ls hl => ?_)
  refine lv_goto (tgt := 5) hx hb dJ7_fill_53178_17 (by decide) ?_
  refine lv_iload_n hx hb dJ7_fill_53178_5 rfl (lv_at hl 0 rfl) ?_
  refine lv_iload_n hx hb dJ7_fill_53178_6 rfl (lv_at hl 1 rfl) ?_
  refine lv_icmp_ge (tgt := 20) hx hb dJ7_fill_53178_7 (by decide) (fun c9 => False.elim (by revert c9; decide +kernel)) (fun _ => ?_)
  refine lv_aload_n hx hb dJ7_fill_53178_10 rfl (lv_at hl 2 rfl) ?_
  refine lv_iload_n hx hb dJ7_fill_53178_11 rfl (lv_at hl 0 rfl) ?_
  refine lv_iload_n hx hb dJ7_fill_53178_12 rfl (lv_at hl 3 rfl) ?_
  refine xa_iastS hx hb hK hP hD hS 0 0 rfl rfl (by omega) (by decide) (by decide +kernel) dJ7_fill_53178_13 (fun H locs hP hD hS => ?_)
  refine lv_iinc (v := nI 4) (lv' := [(2, .int (nI 4)), (3, .int (nI 4)), (0, .ref (h 135)), (1, .int (nI 0))]) hx hb dJ7_fill_53178_14 hl (k := 0) rfl (by decide +kernel) (by decide) rfl (fun ls hl => ?_)
  refine lv_goto (tgt := 5) hx hb dJ7_fill_53178_17 (by decide) ?_
  refine lv_iload_n hx hb dJ7_fill_53178_5 rfl (lv_at hl 0 rfl) ?_
  refine lv_iload_n hx hb dJ7_fill_53178_6 rfl (lv_at hl 1 rfl) ?_
  refine lv_icmp_ge (tgt := 20) hx hb dJ7_fill_53178_7 (by decide) (fun _ => ?_) (fun c9 => False.elim (by revert c9; decide +kernel))
  exact xr_v hx hb hr hlocks hK hS dJ7_fill_53178_20 (fI, fL, fA, fQ, fG, fJ) ⟨trivial, rfl⟩ hP hD
def wD_156 (h : Nat → Nat) (cs : Nat → ClassId) (I : Nat → Int32) (L : Nat → Int64) (A : Nat → Nat → Int32) (Q : Nat → Nat → Int64) (G : Nat → Nat → Nat → Int32) (J : Nat → Nat → Nat → Int64) : va_W := [(h 136, .inl (cs 0, 5, .inl (A 136)))]
set_option maxHeartbeats 4000000 in
set_option maxRecDepth 100000 in
theorem a_J7_fill_53178_157 (l : Launch) (dC : Nat → ClassId) (dI : Nat → Nat → Nat) (h : Nat → Nat) (cs : Nat → ClassId) (sz : Nat) (I : Nat → Int32) (L : Nat → Int64) (A : Nat → Nat → Int32) (Q : Nat → Nat → Int64) (G : Nat → Nat → Nat → Int32) (J : Nat → Nat → Nat → Int64) : Met l yJ7_fill_53178 wsJ7_fill_53178 ({ frames := 0, cells := 0, slots := 0, locals := 0 }) (va_Pc [.ref (h 136), .int (nI 0)] (xPre (dC, dI) (wD_156 h cs fI fL fA fQ fG fJ) (tysA cs) sz)) (va_Qv (fun (u : CS) => (True) ∧ u = (fI, fL, fA, fQ, fG, fJ)) (xB (dC, dI) (tysA cs) (va_A (wD_156 h cs fI fL fA fQ fG fJ) sz) (fun u : CS => wD_156 h cs u.1 u.2.1 u.2.2.1 u.2.2.2.1 u.2.2.2.2.1 u.2.2.2.2.2)) (va_A (wD_156 h cs fI fL fA fQ fG fJ) sz)) 0 0 (va_A (wD_156 h cs fI fL fA fQ fG fJ) sz) := by
  refine Met.ofW (cc := cJ7_fill_53178) (maxL := 4) (ret := none) (by decide) rfl ?_
  intro p e s m args below meth c s₁ B hml hv
  obtain ⟨rfl, hsz, hP, hK, hD0, hN⟩ := hv
  have hx := B.exec
  have hb := B.bytes
  have hr := B.returns
  have hts := atoms_spec (ws := wsJ7_fill_53178) B.pre
  have hown : s.vm.findClass RJ7 = some m.cls := findClass_of_methodNamed B.named
  have hlocks := B.notSynchronized
  subst hsz
  have hD := hD0.self (sz := s.heap.size)
  generalize hAe : va_A (wD_156 h cs fI fL fA fQ fG fJ) s.heap.size = A0 at hD ⊢
  have hA : ∀ q : Nat, s.heap.size ≤ q → A0 q := fun q h => by rw [← hAe]; exact Or.inr h
  have hl := lv_entry ([.ref (h 136), .int (nI 0)]) (n := 4) (Nat.le_of_ble_eq_true rfl)
  rw [lg_entry_eq]
  generalize (lg_sl ([.ref (h 136), .int (nI 0)]) ++ List.replicate (4 - (lg_sl ([.ref (h 136), .int (nI 0)])).length) Slot.unset).toArray = ls at hl ⊢
  have hl : lv_has ls 4 [(0, .ref (h 136)), (1, .int (nI 0))] := hl
  generalize hH : s.heap = H at hP ⊢
  have hS : va_S A0 s.heap H [] := by rw [← hH]; exact va_S.rf
  refine lv_iconst (v := nI 0) hx hb dJ7_fill_53178_0 (by decide) ?_
  refine lv_istore_n (lv' := [(2, .int (nI 0)), (0, .ref (h 136)), (1, .int (nI 0))]) hx hb dJ7_fill_53178_1 rfl hl (by decide) rfl (fun ls hl => ?_)
  refine lv_aload_n hx hb dJ7_fill_53178_2 rfl (lv_at hl 1 rfl) ?_
  refine xa_alen hx hb hK hP 0 0 rfl rfl (n := 5) rfl dJ7_fill_53178_3 ?_
  refine lv_istore_n (lv' := [(3, .int (nI 5)), (2, .int (nI 0)), (0, .ref (h 136)), (1, .int (nI 0))]) hx hb dJ7_fill_53178_4 rfl hl (by decide) rfl (fun ls hl => ?_)
  refine lv_iload_n hx hb dJ7_fill_53178_5 rfl (lv_at hl 1 rfl) ?_
  refine lv_iload_n hx hb dJ7_fill_53178_6 rfl (lv_at hl 0 rfl) ?_
  refine lv_icmp_ge (tgt := 20) hx hb dJ7_fill_53178_7 (by decide) (fun c9 => False.elim (by revert c9; decide +kernel)) (fun _ => ?_)
  refine lv_aload_n hx hb dJ7_fill_53178_10 rfl (lv_at hl 2 rfl) ?_
  refine lv_iload_n hx hb dJ7_fill_53178_11 rfl (lv_at hl 1 rfl) ?_
  refine lv_iload_n hx hb dJ7_fill_53178_12 rfl (lv_at hl 3 rfl) ?_
  refine xa_iastS hx hb hK hP hD hS 0 0 rfl rfl (by omega) (by decide) (by decide +kernel) dJ7_fill_53178_13 (fun H locs hP hD hS => ?_)
  refine lv_iinc (v := nI 1) (lv' := [(2, .int (nI 1)), (3, .int (nI 5)), (0, .ref (h 136)), (1, .int (nI 0))]) hx hb dJ7_fill_53178_14 hl (k := 1) rfl (by decide +kernel) (by decide) rfl (fun ls hl => ?_)
  refine lv_goto (tgt := 5) hx hb dJ7_fill_53178_17 (by decide) ?_
  refine lv_iload_n hx hb dJ7_fill_53178_5 rfl (lv_at hl 0 rfl) ?_
  refine lv_iload_n hx hb dJ7_fill_53178_6 rfl (lv_at hl 1 rfl) ?_
  refine lv_icmp_ge (tgt := 20) hx hb dJ7_fill_53178_7 (by decide) (fun c9 => False.elim (by revert c9; decide +kernel)) (fun _ => ?_)
  refine lv_aload_n hx hb dJ7_fill_53178_10 rfl (lv_at hl 2 rfl) ?_
  refine lv_iload_n hx hb dJ7_fill_53178_11 rfl (lv_at hl 0 rfl) ?_
  refine lv_iload_n hx hb dJ7_fill_53178_12 rfl (lv_at hl 3 rfl) ?_
  refine xa_iastS hx hb hK hP hD hS 0 0 rfl rfl (by omega) (by decide) (by decide +kernel) dJ7_fill_53178_13 (fun H locs hP hD hS => ?_)
  refine lv_iinc (v := nI 2) (lv' := [(2, .int (nI 2)), (3, .int (nI 5)), (0, .ref (h 136)), (1, .int (nI 0))]) hx hb dJ7_fill_53178_14 hl (k := 0) rfl (by decide +kernel) (by decide) rfl (fun ls hl => ?_)
  refine lv_goto (tgt := 5) hx hb dJ7_fill_53178_17 (by decide) ?_
  refine lv_iload_n hx hb dJ7_fill_53178_5 rfl (lv_at hl 0 rfl) ?_
  refine lv_iload_n hx hb dJ7_fill_53178_6 rfl (lv_at hl 1 rfl) ?_
  refine lv_icmp_ge (tgt := 20) hx hb dJ7_fill_53178_7 (by decide) (fun c9 => False.elim (by revert c9; decide +kernel)) (fun _ => ?_)
  refine lv_aload_n hx hb dJ7_fill_53178_10 rfl (lv_at hl 2 rfl) ?_
  refine lv_iload_n hx hb dJ7_fill_53178_11 rfl (lv_at hl 0 rfl) ?_
  refine lv_iload_n hx hb dJ7_fill_53178_12 rfl (lv_at hl 3 rfl) ?_
  refine xa_iastS hx hb hK hP hD hS 0 0 rfl rfl (by omega) (by decide) (by decide +kernel) dJ7_fill_53178_13 (fun H locs hP hD hS => ?_)
  refine lv_iinc (v := nI 3) (lv' := [(2, .int (nI 3)), (3, .int (nI 5)), (0, .ref (h 136)), (1, .int (nI 0))]) hx hb dJ7_fill_53178_14 hl (k := 0) rfl (by decide +kernel) (by decide) rfl (fun ls hl => ?_)
  refine lv_goto (tgt := 5) hx hb dJ7_fill_53178_17 (by decide) ?_
  refine lv_iload_n hx hb dJ7_fill_53178_5 rfl (lv_at hl 0 rfl) ?_
  refine lv_iload_n hx hb dJ7_fill_53178_6 rfl (lv_at hl 1 rfl) ?_
  refine lv_icmp_ge (tgt := 20) hx hb dJ7_fill_53178_7 (by decide) (fun c9 => False.elim (by revert c9; decide +kernel)) (fun _ => ?_)
  refine lv_aload_n hx hb dJ7_fill_53178_10 rfl (lv_at hl 2 rfl) ?_
  refine lv_iload_n hx hb dJ7_fill_53178_11 rfl (lv_at hl 0 rfl) ?_
  refine lv_iload_n hx hb dJ7_fill_53178_12 rfl (lv_at hl 3 rfl) ?_
  refine xa_iastS hx hb hK hP hD hS 0 0 rfl rfl (by omega) (by decide) (by decide +kernel) dJ7_fill_53178_13 (fun H locs hP hD hS => ?_)
  refine lv_iinc (v := nI 4) (lv' := [(2, .int (nI 4)), (3, .int (nI 5)), (0, .ref (h 136)), (1, .int (nI 0))]) hx hb dJ7_fill_53178_14 hl (k := 0) rfl (by decide +kernel) (by decide) rfl (fun ls hl => ?_)
  refine lv_goto (tgt := 5) hx hb dJ7_fill_53178_17 (by decide) ?_
  refine lv_iload_n hx hb dJ7_fill_53178_5 rfl (lv_at hl 0 rfl) ?_
  refine lv_iload_n hx hb dJ7_fill_53178_6 rfl (lv_at hl 1 rfl) ?_
  refine lv_icmp_ge (tgt := 20) hx hb dJ7_fill_53178_7 (by decide) (fun c9 => False.elim (by revert c9; decide +kernel)) (fun _ => ?_)
  refine lv_aload_n hx hb dJ7_fill_53178_10 rfl (lv_at hl 2 rfl) ?_
  refine lv_iload_n hx hb dJ7_fill_53178_11 rfl (lv_at hl 0 rfl) ?_
  refine lv_iload_n hx hb dJ7_fill_53178_12 rfl (lv_at hl 3 rfl) ?_
  refine xa_iastS hx hb hK hP hD hS 0 0 rfl rfl (by omega) (by decide) (by decide +kernel) dJ7_fill_53178_13 (fun H locs hP hD hS => ?_)
  refine lv_iinc (v := nI 5) (lv' := [(2, .int (nI 5)), (3, .int (nI 5)), (0, .ref (h 136)), (1, .int (nI 0))]) hx hb dJ7_fill_53178_14 hl (k := 0) rfl (by decide +kernel) (by decide) rfl (fun ls hl => ?_)
  refine lv_goto (tgt := 5) hx hb dJ7_fill_53178_17 (by decide) ?_
  refine lv_iload_n hx hb dJ7_fill_53178_5 rfl (lv_at hl 0 rfl) ?_
  refine lv_iload_n hx hb dJ7_fill_53178_6 rfl (lv_at hl 1 rfl) ?_
  refine lv_icmp_ge (tgt := 20) hx hb dJ7_fill_53178_7 (by decide) (fun _ => ?_) (fun c9 => False.elim (by revert c9; decide +kernel))
  exact xr_v hx hb hr hlocks hK hS dJ7_fill_53178_20 (fI, fL, fA, fQ, fG, fJ) ⟨trivial, rfl⟩ hP hD
set_option maxRecDepth 20000 in
theorem ggX3_reshape_J7_fill_53178 : GoodIn wsX3_reshape wsJ7_fill_53178 := goodIn_r _ [9] (by decide +kernel) (by decide +kernel)
set_option maxRecDepth 20000 in
theorem gX3_reshape_J7_fill_53178 : GoodIn wsX3_reshape (va_wsS RX3 37 yJ7_fill_53178 wsJ7_fill_53178) := goodIn_app (goodIn_of _ (by decide +kernel)) ggX3_reshape_J7_fill_53178
theorem dX3_reshape_0 : decode cX3_reshape 0 = .ok (.aload_n 0, 1) := by decide +kernel
theorem dX3_reshape_1 : decode cX3_reshape 1 = .ok (.iload_n 1, 1) := by decide +kernel
theorem dX3_reshape_2 : decode cX3_reshape 2 = .ok (.putfield 9, 3) := by decide +kernel
theorem dX3_reshape_5 : decode cX3_reshape 5 = .ok (.aload_n 0, 1) := by decide +kernel
theorem dX3_reshape_6 : decode cX3_reshape 6 = .ok (.iload_n 2, 1) := by decide +kernel
theorem dX3_reshape_7 : decode cX3_reshape 7 = .ok (.putfield 15, 3) := by decide +kernel
theorem dX3_reshape_10 : decode cX3_reshape 10 = .ok (.iconst 0, 1) := by decide +kernel
theorem dX3_reshape_11 : decode cX3_reshape 11 = .ok (.istore_n 3, 1) := by decide +kernel
theorem dX3_reshape_12 : decode cX3_reshape 12 = .ok (.iload_n 3, 1) := by decide +kernel
theorem dX3_reshape_13 : decode cX3_reshape 13 = .ok (.iconst 5, 1) := by decide +kernel
theorem dX3_reshape_14 : decode cX3_reshape 14 = .ok (.if_icmp .ge 19, 3) := by decide +kernel
theorem dX3_reshape_17 : decode cX3_reshape 17 = .ok (.aload_n 0, 1) := by decide +kernel
theorem dX3_reshape_18 : decode cX3_reshape 18 = .ok (.getfield 26, 3) := by decide +kernel
theorem dX3_reshape_21 : decode cX3_reshape 21 = .ok (.iload_n 3, 1) := by decide +kernel
theorem dX3_reshape_22 : decode cX3_reshape 22 = .ok (.aaload, 1) := by decide +kernel
theorem dX3_reshape_23 : decode cX3_reshape 23 = .ok (.iconst 0, 1) := by decide +kernel
theorem dX3_reshape_24 : decode cX3_reshape 24 = .ok (.invokestatic 37, 3) := by decide +kernel
theorem dX3_reshape_27 : decode cX3_reshape 27 = .ok (.iinc 3 1, 3) := by decide +kernel
theorem dX3_reshape_30 : decode cX3_reshape 30 = .ok (.goto (-18), 3) := by decide +kernel
theorem dX3_reshape_33 : decode cX3_reshape 33 = .ok (.aload_n 0, 1) := by decide +kernel
theorem dX3_reshape_34 : decode cX3_reshape 34 = .ok (.getfield 29, 3) := by decide +kernel
theorem dX3_reshape_37 : decode cX3_reshape 37 = .ok (.iconst 0, 1) := by decide +kernel
theorem dX3_reshape_38 : decode cX3_reshape 38 = .ok (.invokestatic 37, 3) := by decide +kernel
theorem dX3_reshape_41 : decode cX3_reshape 41 = .ok (.aload_n 0, 1) := by decide +kernel
theorem dX3_reshape_42 : decode cX3_reshape 42 = .ok (.dup, 1) := by decide +kernel
theorem dX3_reshape_43 : decode cX3_reshape 43 = .ok (.getfield 21, 3) := by decide +kernel
theorem dX3_reshape_46 : decode cX3_reshape 46 = .ok (.iconst 1, 1) := by decide +kernel
theorem dX3_reshape_47 : decode cX3_reshape 47 = .ok (.iadd, 1) := by decide +kernel
theorem dX3_reshape_48 : decode cX3_reshape 48 = .ok (.putfield 21, 3) := by decide +kernel
theorem dX3_reshape_51 : decode cX3_reshape 51 = .ok (.return_, 1) := by decide +kernel
set_option maxHeartbeats 4000000 in
set_option maxRecDepth 100000 in
theorem f_X3_reshape (l : Launch) (dC : Nat → ClassId) (dI : Nat → Nat → Nat) (h : Nat → Nat) (cs : Nat → ClassId) (sz : Nat) (I : Nat → Int32) (L : Nat → Int64) (A : Nat → Nat → Int32) (Q : Nat → Nat → Int64) (G : Nat → Nat → Nat → Int32) (J : Nat → Nat → Nat → Int64) (x y : Int32) : Met l yX3_reshape wsX3_reshape ({ frames := 1, cells := 0, slots := 0, locals := 23 }) (va_Pc [.ref (h 101), .int x, .int y] (xPre (dC, dI) (wMix h cs fI fL fA fQ fG fJ) (tysA cs) sz)) (va_Qv (fun (u : CS) => ∃ i120 : Int32, ∃ i121 : Int32, ∃ i123 : Int32, (True) ∧ u = ((va_up (va_up (va_up fI 120 i120) 121 i121) 123 i123), fL, fA, fQ, fG, fJ)) (xB (dC, dI) (tysA cs) (va_A (wMix h cs fI fL fA fQ fG fJ) sz) (fun u : CS => wMix h cs u.1 u.2.1 u.2.2.1 u.2.2.2.1 u.2.2.2.2.1 u.2.2.2.2.2)) (va_A (wMix h cs fI fL fA fQ fG fJ) sz)) 0 0 (va_A (wMix h cs fI fL fA fQ fG fJ) sz) := by
  refine Met.ofW (cc := cX3_reshape) (maxL := 4) (ret := none) (by decide) rfl ?_
  intro p e s m args below meth c s₁ B hml hv
  obtain ⟨rfl, hsz, hP, hK, hD0, hN⟩ := hv
  have hx := B.exec
  have hb := B.bytes
  have hr := B.returns
  have hts := atoms_spec (ws := wsX3_reshape) B.pre
  have hown : s.vm.findClass RX3 = some m.cls := findClass_of_methodNamed B.named
  have hlocks := B.notSynchronized
  subst hsz
  have hD := hD0.self (sz := s.heap.size)
  generalize hAe : va_A (wMix h cs fI fL fA fQ fG fJ) s.heap.size = A0 at hD ⊢
  have hA : ∀ q : Nat, s.heap.size ≤ q → A0 q := fun q h => by rw [← hAe]; exact Or.inr h
  have hl := lv_entry ([.ref (h 101), .int x, .int y]) (n := 4) (Nat.le_of_ble_eq_true rfl)
  rw [lg_entry_eq]
  generalize (lg_sl ([.ref (h 101), .int x, .int y]) ++ List.replicate (4 - (lg_sl ([.ref (h 101), .int x, .int y])).length) Slot.unset).toArray = ls at hl ⊢
  have hl : lv_has ls 4 [(0, .ref (h 101)), (1, .int x), (2, .int y)] := hl
  generalize hH : s.heap = H at hP ⊢
  have hS : va_S A0 s.heap H [] := by rw [← hH]; exact va_S.rf
  have hinX3 : ∀ w ∈ wsX30, w ∈ wsX3_reshape := by decide +kernel
  refine lv_aload_n hx hb dX3_reshape_0 rfl (lv_at hl 0 rfl) ?_
  refine lv_iload_n hx hb dX3_reshape_1 rfl (lv_at hl 1 rfl) ?_
  refine va_put (D := (dC, dI)) (ci := 3) (v := .int x) (ty := .int) (C := RX3) (T := TX3) (N := 6) hx hb hts hinX3 tyX3 tyX3_ok nmX3 hown hK hP hD hS 0 rfl rfl 0 (by decide) (hts (.fieldLink RX3 9 "MixedWords$Mix" "height" "I") (by decide +kernel)) (fun _ h9 => h9) rfl (by decide +kernel) rfl rfl (Nat.le_of_ble_eq_true rfl) dX3_reshape_2 (fun H locs hP hD hS => ?_)
  have hP : va_P (dC, dI) vwCl (wMix h cs (va_up fI 120 x) fL fA fQ fG fJ) H := hP
  have hD : va_D A0 (wMix h cs (va_up fI 120 x) fL fA fQ fG fJ) := hD
  refine lv_aload_n hx hb dX3_reshape_5 rfl (lv_at hl 0 rfl) ?_
  refine lv_iload_n hx hb dX3_reshape_6 rfl (lv_at hl 2 rfl) ?_
  refine va_put (D := (dC, dI)) (ci := 3) (v := .int y) (ty := .int) (C := RX3) (T := TX3) (N := 6) hx hb hts hinX3 tyX3 tyX3_ok nmX3 hown hK hP hD hS 0 rfl rfl 1 (by decide) (hts (.fieldLink RX3 15 "MixedWords$Mix" "width" "I") (by decide +kernel)) (fun _ h9 => h9) rfl (by decide +kernel) rfl rfl (Nat.le_of_ble_eq_true rfl) dX3_reshape_7 (fun H locs hP hD hS => ?_)
  have hP : va_P (dC, dI) vwCl (wMix h cs (va_up (va_up fI 120 x) 121 y) fL fA fQ fG fJ) H := hP
  have hD : va_D A0 (wMix h cs (va_up (va_up fI 120 x) 121 y) fL fA fQ fG fJ) := hD
  refine lv_iconst (v := nI 0) hx hb dX3_reshape_10 (by decide) ?_
  refine lv_istore_n (lv' := [(3, .int (nI 0)), (0, .ref (h 101)), (1, .int x), (2, .int y)]) hx hb dX3_reshape_11 rfl hl (by decide) rfl (fun ls hl => ?_)
  refine lv_iload_n hx hb dX3_reshape_12 rfl (lv_at hl 0 rfl) ?_
  refine lv_iconst (v := nI 5) hx hb dX3_reshape_13 (by decide) ?_
  refine lv_icmp_ge (tgt := 33) hx hb dX3_reshape_14 (by decide) (fun c9 => False.elim (by revert c9; decide +kernel)) (fun _ => ?_)
  refine lv_aload_n hx hb dX3_reshape_17 rfl (lv_at hl 1 rfl) ?_
  refine va_get (D := (dC, dI)) (ci := 3) (v := .ref (h 130)) (C := RX3) (T := TX3) (N := 6) hx hb hts hinX3 hown hK hP 0 rfl rfl 4 (by decide) (hts (.fieldLink RX3 26 "MixedWords$Mix" "cells" "[[I") (by decide +kernel)) (fun _ h9 => h9) rfl dX3_reshape_18 ?_
  refine lv_iload_n hx hb dX3_reshape_21 rfl (lv_at hl 0 rfl) ?_
  refine xa_aald (b := h 131) hx hb hK hP 1 3 rfl rfl rfl (by omega) (by decide) (if_pos (by omega)) dX3_reshape_22 ?_
  refine lv_iconst (v := nI 0) hx hb dX3_reshape_23 (by decide) ?_
  refine xj_v (wc := (wD_146 h cs fI fL fA fQ fG fJ)) (wr := [(h 101, .inr (3, [.int (x), .int (y), .int (fI 122), .int (fI 123), .ref (h 130), .ref (h 136)])), (h 130, .inl (cs 3, 5, .inr (.inr (.inr (.inr (fun i => if i < 5 then some (h (i + 131)) else none)))))), (h 132, .inl (cs 0, 4, .inl ((fG 0) 1))), (h 133, .inl (cs 0, 4, .inl ((fG 0) 2))), (h 134, .inl (cs 0, 4, .inl ((fG 0) 3))), (h 135, .inl (cs 0, 4, .inl ((fG 0) 4))), (h 136, .inl (cs 0, 5, .inl (fA 136)))]) hP hD hS hA [2] [0, 1, 3, 4, 5, 6, 7] rfl rfl (by decide) (by decide) (va_runS (As := [.ref (h 131), .int (nI 0)]) (rest := []) ⟨hx, hb, hml, hown, hts⟩ (a_J7_fill_53178_147 l dC dI h cs H.size fI fL fA fQ fG fJ ) (va_cwS 2 hts gX3_reshape_J7_fill_53178 rfl rfl rfl (by decide +kernel) ⟨Nat.le_of_ble_eq_true rfl, Nat.le_of_ble_eq_true rfl⟩) (xpS (wc := (wD_146 h cs fI fL fA fQ fG fJ)) hP hD hK hN [2] rfl (by decide) _) rfl rfl hl.1 rfl (lv_room (Nat.le_of_ble_eq_true rfl)) dX3_reshape_24 ⟨Nat.zero_le _, Nat.zero_le _⟩) (fun u_1 H locs hw hP hD hS => ?_)
  obtain ⟨hf_3, rfl⟩ := hw
  have hP : va_P (dC, dI) vwCl (wMix h cs (va_up (va_up fI 120 x) 121 y) fL fA fQ fG fJ) H := xP_sub hP [0, 1, 7, 2, 3, 4, 5, 6] rfl
  have hD : va_D A0 (wMix h cs (va_up (va_up fI 120 x) 121 y) fL fA fQ fG fJ) := hD.sub [0, 1, 7, 2, 3, 4, 5, 6] (by decide) rfl
  refine lv_iinc (v := nI 1) (lv' := [(3, .int (nI 1)), (0, .ref (h 101)), (1, .int x), (2, .int y)]) hx hb dX3_reshape_27 hl (k := 0) rfl (by decide +kernel) (by decide) rfl (fun ls hl => ?_)
  refine lv_goto (tgt := 12) hx hb dX3_reshape_30 (by decide) ?_
  refine lv_iload_n hx hb dX3_reshape_12 rfl (lv_at hl 0 rfl) ?_
  refine lv_iconst (v := nI 5) hx hb dX3_reshape_13 (by decide) ?_
  refine lv_icmp_ge (tgt := 33) hx hb dX3_reshape_14 (by decide) (fun c9 => False.elim (by revert c9; decide +kernel)) (fun _ => ?_)
  refine lv_aload_n hx hb dX3_reshape_17 rfl (lv_at hl 1 rfl) ?_
  refine va_get (D := (dC, dI)) (ci := 3) (v := .ref (h 130)) (C := RX3) (T := TX3) (N := 6) hx hb hts hinX3 hown hK hP 0 rfl rfl 4 (by decide) (hts (.fieldLink RX3 26 "MixedWords$Mix" "cells" "[[I") (by decide +kernel)) (fun _ h9 => h9) rfl dX3_reshape_18 ?_
  refine lv_iload_n hx hb dX3_reshape_21 rfl (lv_at hl 0 rfl) ?_
  refine xa_aald (b := h 132) hx hb hK hP 1 3 rfl rfl rfl (by omega) (by decide) (if_pos (by omega)) dX3_reshape_22 ?_
  refine lv_iconst (v := nI 0) hx hb dX3_reshape_23 (by decide) ?_
  refine xj_v (wc := (wD_148 h cs fI fL fA fQ fG fJ)) (wr := [(h 101, .inr (3, [.int (x), .int (y), .int (fI 122), .int (fI 123), .ref (h 130), .ref (h 136)])), (h 130, .inl (cs 3, 5, .inr (.inr (.inr (.inr (fun i => if i < 5 then some (h (i + 131)) else none)))))), (h 131, .inl (cs 0, 4, .inl ((fG 0) 0))), (h 133, .inl (cs 0, 4, .inl ((fG 0) 2))), (h 134, .inl (cs 0, 4, .inl ((fG 0) 3))), (h 135, .inl (cs 0, 4, .inl ((fG 0) 4))), (h 136, .inl (cs 0, 5, .inl (fA 136)))]) hP hD hS hA [3] [0, 1, 2, 4, 5, 6, 7] rfl rfl (by decide) (by decide) (va_runS (As := [.ref (h 132), .int (nI 0)]) (rest := []) ⟨hx, hb, hml, hown, hts⟩ (a_J7_fill_53178_149 l dC dI h cs H.size fI fL fA fQ fG fJ ) (va_cwS 2 hts gX3_reshape_J7_fill_53178 rfl rfl rfl (by decide +kernel) ⟨Nat.le_of_ble_eq_true rfl, Nat.le_of_ble_eq_true rfl⟩) (xpS (wc := (wD_148 h cs fI fL fA fQ fG fJ)) hP hD hK hN [3] rfl (by decide) _) rfl rfl hl.1 rfl (lv_room (Nat.le_of_ble_eq_true rfl)) dX3_reshape_24 ⟨Nat.zero_le _, Nat.zero_le _⟩) (fun u_4 H locs hw hP hD hS => ?_)
  obtain ⟨hf_6, rfl⟩ := hw
  have hP : va_P (dC, dI) vwCl (wMix h cs (va_up (va_up fI 120 x) 121 y) fL fA fQ fG fJ) H := xP_sub hP [0, 1, 2, 7, 3, 4, 5, 6] rfl
  have hD : va_D A0 (wMix h cs (va_up (va_up fI 120 x) 121 y) fL fA fQ fG fJ) := hD.sub [0, 1, 2, 7, 3, 4, 5, 6] (by decide) rfl
  refine lv_iinc (v := nI 2) (lv' := [(3, .int (nI 2)), (0, .ref (h 101)), (1, .int x), (2, .int y)]) hx hb dX3_reshape_27 hl (k := 0) rfl (by decide +kernel) (by decide) rfl (fun ls hl => ?_)
  refine lv_goto (tgt := 12) hx hb dX3_reshape_30 (by decide) ?_
  refine lv_iload_n hx hb dX3_reshape_12 rfl (lv_at hl 0 rfl) ?_
  refine lv_iconst (v := nI 5) hx hb dX3_reshape_13 (by decide) ?_
  refine lv_icmp_ge (tgt := 33) hx hb dX3_reshape_14 (by decide) (fun c9 => False.elim (by revert c9; decide +kernel)) (fun _ => ?_)
  refine lv_aload_n hx hb dX3_reshape_17 rfl (lv_at hl 1 rfl) ?_
  refine va_get (D := (dC, dI)) (ci := 3) (v := .ref (h 130)) (C := RX3) (T := TX3) (N := 6) hx hb hts hinX3 hown hK hP 0 rfl rfl 4 (by decide) (hts (.fieldLink RX3 26 "MixedWords$Mix" "cells" "[[I") (by decide +kernel)) (fun _ h9 => h9) rfl dX3_reshape_18 ?_
  refine lv_iload_n hx hb dX3_reshape_21 rfl (lv_at hl 0 rfl) ?_
  refine xa_aald (b := h 133) hx hb hK hP 1 3 rfl rfl rfl (by omega) (by decide) (if_pos (by omega)) dX3_reshape_22 ?_
  refine lv_iconst (v := nI 0) hx hb dX3_reshape_23 (by decide) ?_
  refine xj_v (wc := (wD_150 h cs fI fL fA fQ fG fJ)) (wr := [(h 101, .inr (3, [.int (x), .int (y), .int (fI 122), .int (fI 123), .ref (h 130), .ref (h 136)])), (h 130, .inl (cs 3, 5, .inr (.inr (.inr (.inr (fun i => if i < 5 then some (h (i + 131)) else none)))))), (h 131, .inl (cs 0, 4, .inl ((fG 0) 0))), (h 132, .inl (cs 0, 4, .inl ((fG 0) 1))), (h 134, .inl (cs 0, 4, .inl ((fG 0) 3))), (h 135, .inl (cs 0, 4, .inl ((fG 0) 4))), (h 136, .inl (cs 0, 5, .inl (fA 136)))]) hP hD hS hA [4] [0, 1, 2, 3, 5, 6, 7] rfl rfl (by decide) (by decide) (va_runS (As := [.ref (h 133), .int (nI 0)]) (rest := []) ⟨hx, hb, hml, hown, hts⟩ (a_J7_fill_53178_151 l dC dI h cs H.size fI fL fA fQ fG fJ ) (va_cwS 2 hts gX3_reshape_J7_fill_53178 rfl rfl rfl (by decide +kernel) ⟨Nat.le_of_ble_eq_true rfl, Nat.le_of_ble_eq_true rfl⟩) (xpS (wc := (wD_150 h cs fI fL fA fQ fG fJ)) hP hD hK hN [4] rfl (by decide) _) rfl rfl hl.1 rfl (lv_room (Nat.le_of_ble_eq_true rfl)) dX3_reshape_24 ⟨Nat.zero_le _, Nat.zero_le _⟩) (fun u_7 H locs hw hP hD hS => ?_)
  obtain ⟨hf_9, rfl⟩ := hw
  have hP : va_P (dC, dI) vwCl (wMix h cs (va_up (va_up fI 120 x) 121 y) fL fA fQ fG fJ) H := xP_sub hP [0, 1, 2, 3, 7, 4, 5, 6] rfl
  have hD : va_D A0 (wMix h cs (va_up (va_up fI 120 x) 121 y) fL fA fQ fG fJ) := hD.sub [0, 1, 2, 3, 7, 4, 5, 6] (by decide) rfl
  refine lv_iinc (v := nI 3) (lv' := [(3, .int (nI 3)), (0, .ref (h 101)), (1, .int x), (2, .int y)]) hx hb dX3_reshape_27 hl (k := 0) rfl (by decide +kernel) (by decide) rfl (fun ls hl => ?_)
  refine lv_goto (tgt := 12) hx hb dX3_reshape_30 (by decide) ?_
  refine lv_iload_n hx hb dX3_reshape_12 rfl (lv_at hl 0 rfl) ?_
  refine lv_iconst (v := nI 5) hx hb dX3_reshape_13 (by decide) ?_
  refine lv_icmp_ge (tgt := 33) hx hb dX3_reshape_14 (by decide) (fun c9 => False.elim (by revert c9; decide +kernel)) (fun _ => ?_)
  refine lv_aload_n hx hb dX3_reshape_17 rfl (lv_at hl 1 rfl) ?_
  refine va_get (D := (dC, dI)) (ci := 3) (v := .ref (h 130)) (C := RX3) (T := TX3) (N := 6) hx hb hts hinX3 hown hK hP 0 rfl rfl 4 (by decide) (hts (.fieldLink RX3 26 "MixedWords$Mix" "cells" "[[I") (by decide +kernel)) (fun _ h9 => h9) rfl dX3_reshape_18 ?_
  refine lv_iload_n hx hb dX3_reshape_21 rfl (lv_at hl 0 rfl) ?_
  refine xa_aald (b := h 134) hx hb hK hP 1 3 rfl rfl rfl (by omega) (by decide) (if_pos (by omega)) dX3_reshape_22 ?_
  refine lv_iconst (v := nI 0) hx hb dX3_reshape_23 (by decide) ?_
  refine xj_v (wc := (wD_152 h cs fI fL fA fQ fG fJ)) (wr := [(h 101, .inr (3, [.int (x), .int (y), .int (fI 122), .int (fI 123), .ref (h 130), .ref (h 136)])), (h 130, .inl (cs 3, 5, .inr (.inr (.inr (.inr (fun i => if i < 5 then some (h (i + 131)) else none)))))), (h 131, .inl (cs 0, 4, .inl ((fG 0) 0))), (h 132, .inl (cs 0, 4, .inl ((fG 0) 1))), (h 133, .inl (cs 0, 4, .inl ((fG 0) 2))), (h 135, .inl (cs 0, 4, .inl ((fG 0) 4))), (h 136, .inl (cs 0, 5, .inl (fA 136)))]) hP hD hS hA [5] [0, 1, 2, 3, 4, 6, 7] rfl rfl (by decide) (by decide) (va_runS (As := [.ref (h 134), .int (nI 0)]) (rest := []) ⟨hx, hb, hml, hown, hts⟩ (a_J7_fill_53178_153 l dC dI h cs H.size fI fL fA fQ fG fJ ) (va_cwS 2 hts gX3_reshape_J7_fill_53178 rfl rfl rfl (by decide +kernel) ⟨Nat.le_of_ble_eq_true rfl, Nat.le_of_ble_eq_true rfl⟩) (xpS (wc := (wD_152 h cs fI fL fA fQ fG fJ)) hP hD hK hN [5] rfl (by decide) _) rfl rfl hl.1 rfl (lv_room (Nat.le_of_ble_eq_true rfl)) dX3_reshape_24 ⟨Nat.zero_le _, Nat.zero_le _⟩) (fun u_10 H locs hw hP hD hS => ?_)
  obtain ⟨hf_12, rfl⟩ := hw
  have hP : va_P (dC, dI) vwCl (wMix h cs (va_up (va_up fI 120 x) 121 y) fL fA fQ fG fJ) H := xP_sub hP [0, 1, 2, 3, 4, 7, 5, 6] rfl
  have hD : va_D A0 (wMix h cs (va_up (va_up fI 120 x) 121 y) fL fA fQ fG fJ) := hD.sub [0, 1, 2, 3, 4, 7, 5, 6] (by decide) rfl
  refine lv_iinc (v := nI 4) (lv' := [(3, .int (nI 4)), (0, .ref (h 101)), (1, .int x), (2, .int y)]) hx hb dX3_reshape_27 hl (k := 0) rfl (by decide +kernel) (by decide) rfl (fun ls hl => ?_)
  refine lv_goto (tgt := 12) hx hb dX3_reshape_30 (by decide) ?_
  refine lv_iload_n hx hb dX3_reshape_12 rfl (lv_at hl 0 rfl) ?_
  refine lv_iconst (v := nI 5) hx hb dX3_reshape_13 (by decide) ?_
  refine lv_icmp_ge (tgt := 33) hx hb dX3_reshape_14 (by decide) (fun c9 => False.elim (by revert c9; decide +kernel)) (fun _ => ?_)
  refine lv_aload_n hx hb dX3_reshape_17 rfl (lv_at hl 1 rfl) ?_
  refine va_get (D := (dC, dI)) (ci := 3) (v := .ref (h 130)) (C := RX3) (T := TX3) (N := 6) hx hb hts hinX3 hown hK hP 0 rfl rfl 4 (by decide) (hts (.fieldLink RX3 26 "MixedWords$Mix" "cells" "[[I") (by decide +kernel)) (fun _ h9 => h9) rfl dX3_reshape_18 ?_
  refine lv_iload_n hx hb dX3_reshape_21 rfl (lv_at hl 0 rfl) ?_
  refine xa_aald (b := h 135) hx hb hK hP 1 3 rfl rfl rfl (by omega) (by decide) (if_pos (by omega)) dX3_reshape_22 ?_
  refine lv_iconst (v := nI 0) hx hb dX3_reshape_23 (by decide) ?_
  refine xj_v (wc := (wD_154 h cs fI fL fA fQ fG fJ)) (wr := [(h 101, .inr (3, [.int (x), .int (y), .int (fI 122), .int (fI 123), .ref (h 130), .ref (h 136)])), (h 130, .inl (cs 3, 5, .inr (.inr (.inr (.inr (fun i => if i < 5 then some (h (i + 131)) else none)))))), (h 131, .inl (cs 0, 4, .inl ((fG 0) 0))), (h 132, .inl (cs 0, 4, .inl ((fG 0) 1))), (h 133, .inl (cs 0, 4, .inl ((fG 0) 2))), (h 134, .inl (cs 0, 4, .inl ((fG 0) 3))), (h 136, .inl (cs 0, 5, .inl (fA 136)))]) hP hD hS hA [6] [0, 1, 2, 3, 4, 5, 7] rfl rfl (by decide) (by decide) (va_runS (As := [.ref (h 135), .int (nI 0)]) (rest := []) ⟨hx, hb, hml, hown, hts⟩ (a_J7_fill_53178_155 l dC dI h cs H.size fI fL fA fQ fG fJ ) (va_cwS 2 hts gX3_reshape_J7_fill_53178 rfl rfl rfl (by decide +kernel) ⟨Nat.le_of_ble_eq_true rfl, Nat.le_of_ble_eq_true rfl⟩) (xpS (wc := (wD_154 h cs fI fL fA fQ fG fJ)) hP hD hK hN [6] rfl (by decide) _) rfl rfl hl.1 rfl (lv_room (Nat.le_of_ble_eq_true rfl)) dX3_reshape_24 ⟨Nat.zero_le _, Nat.zero_le _⟩) (fun u_13 H locs hw hP hD hS => ?_)
  obtain ⟨hf_15, rfl⟩ := hw
  have hP : va_P (dC, dI) vwCl (wMix h cs (va_up (va_up fI 120 x) 121 y) fL fA fQ fG fJ) H := xP_sub hP [0, 1, 2, 3, 4, 5, 7, 6] rfl
  have hD : va_D A0 (wMix h cs (va_up (va_up fI 120 x) 121 y) fL fA fQ fG fJ) := hD.sub [0, 1, 2, 3, 4, 5, 7, 6] (by decide) rfl
  refine lv_iinc (v := nI 5) (lv' := [(3, .int (nI 5)), (0, .ref (h 101)), (1, .int x), (2, .int y)]) hx hb dX3_reshape_27 hl (k := 0) rfl (by decide +kernel) (by decide) rfl (fun ls hl => ?_)
  refine lv_goto (tgt := 12) hx hb dX3_reshape_30 (by decide) ?_
  refine lv_iload_n hx hb dX3_reshape_12 rfl (lv_at hl 0 rfl) ?_
  refine lv_iconst (v := nI 5) hx hb dX3_reshape_13 (by decide) ?_
  refine lv_icmp_ge (tgt := 33) hx hb dX3_reshape_14 (by decide) (fun _ => ?_) (fun c9 => False.elim (by revert c9; decide +kernel))
  refine lv_aload_n hx hb dX3_reshape_33 rfl (lv_at hl 1 rfl) ?_
  refine va_get (D := (dC, dI)) (ci := 3) (v := .ref (h 136)) (C := RX3) (T := TX3) (N := 6) hx hb hts hinX3 hown hK hP 0 rfl rfl 5 (by decide) (hts (.fieldLink RX3 29 "MixedWords$Mix" "heard" "[I") (by decide +kernel)) (fun _ h9 => h9) rfl dX3_reshape_34 ?_
  refine lv_iconst (v := nI 0) hx hb dX3_reshape_37 (by decide) ?_
  refine xj_v (wc := (wD_156 h cs fI fL fA fQ fG fJ)) (wr := [(h 101, .inr (3, [.int (x), .int (y), .int (fI 122), .int (fI 123), .ref (h 130), .ref (h 136)])), (h 130, .inl (cs 3, 5, .inr (.inr (.inr (.inr (fun i => if i < 5 then some (h (i + 131)) else none)))))), (h 131, .inl (cs 0, 4, .inl ((fG 0) 0))), (h 132, .inl (cs 0, 4, .inl ((fG 0) 1))), (h 133, .inl (cs 0, 4, .inl ((fG 0) 2))), (h 134, .inl (cs 0, 4, .inl ((fG 0) 3))), (h 135, .inl (cs 0, 4, .inl ((fG 0) 4)))]) hP hD hS hA [7] [0, 1, 2, 3, 4, 5, 6] rfl rfl (by decide) (by decide) (va_runS (As := [.ref (h 136), .int (nI 0)]) (rest := []) ⟨hx, hb, hml, hown, hts⟩ (a_J7_fill_53178_157 l dC dI h cs H.size fI fL fA fQ fG fJ ) (va_cwS 2 hts gX3_reshape_J7_fill_53178 rfl rfl rfl (by decide +kernel) ⟨Nat.le_of_ble_eq_true rfl, Nat.le_of_ble_eq_true rfl⟩) (xpS (wc := (wD_156 h cs fI fL fA fQ fG fJ)) hP hD hK hN [7] rfl (by decide) _) rfl rfl hl.1 rfl (lv_room (Nat.le_of_ble_eq_true rfl)) dX3_reshape_38 ⟨Nat.zero_le _, Nat.zero_le _⟩) (fun u_16 H locs hw hP hD hS => ?_)
  obtain ⟨hf_18, rfl⟩ := hw
  have hP : va_P (dC, dI) vwCl (wMix h cs (va_up (va_up fI 120 x) 121 y) fL fA fQ fG fJ) H := hP
  have hD : va_D A0 (wMix h cs (va_up (va_up fI 120 x) 121 y) fL fA fQ fG fJ) := hD
  refine lv_aload_n hx hb dX3_reshape_41 rfl (lv_at hl 1 rfl) ?_
  refine lv_dup hx hb dX3_reshape_42 rfl ?_
  refine va_get (D := (dC, dI)) (ci := 3) (v := .int (fI 123)) (C := RX3) (T := TX3) (N := 6) hx hb hts hinX3 hown hK hP 0 rfl rfl 3 (by decide) (hts (.fieldLink RX3 21 "MixedWords$Mix" "stamp" "I") (by decide +kernel)) (fun _ h9 => h9) rfl dX3_reshape_43 ?_
  refine xt_i (y := nI 1) (by decide +kernel) ?_
  refine lv_iconst (v := nI 1) hx hb dX3_reshape_46 (by decide) ?_
  refine lv_iadd hx hb dX3_reshape_47 ?_
  refine xt_i (y := nI 2) (by decide +kernel) ?_
  refine va_put (D := (dC, dI)) (ci := 3) (v := .int (nI 2)) (ty := .int) (C := RX3) (T := TX3) (N := 6) hx hb hts hinX3 tyX3 tyX3_ok nmX3 hown hK hP hD hS 0 rfl rfl 3 (by decide) (hts (.fieldLink RX3 21 "MixedWords$Mix" "stamp" "I") (by decide +kernel)) (fun _ h9 => h9) rfl (by decide +kernel) rfl rfl (Nat.le_of_ble_eq_true rfl) dX3_reshape_48 (fun H locs hP hD hS => ?_)
  have hP : va_P (dC, dI) vwCl (wMix h cs (va_up (va_up (va_up fI 120 x) 121 y) 123 (nI 2)) fL fA fQ fG fJ) H := hP
  have hD : va_D A0 (wMix h cs (va_up (va_up (va_up fI 120 x) 121 y) 123 (nI 2)) fL fA fQ fG fJ) := hD
  exact xr_v hx hb hr hlocks hK hS dX3_reshape_51 ((va_up (va_up (va_up fI 120 x) 121 y) 123 (nI 2)), fL, fA, fQ, fG, fJ) ⟨x, y, (nI 2), trivial, rfl⟩ hP hD
set_option maxRecDepth 20000 in
theorem ggX9_table_X3_reshape : GoodIn wsX9_table wsX3_reshape := goodIn_r _ [7, 8, 9, 10, 11, 12, 13, 14, 15, 16, 34, 35, 36, 37, 38, 39] (by decide +kernel) (by decide +kernel)
set_option maxRecDepth 20000 in
theorem gX9_table_X3_reshape : GoodIn wsX9_table (wsV RX9 76 RX3 yX3_reshape wsX3_reshape) := goodIn_app (goodIn_of _ (by decide +kernel)) ggX9_table_X3_reshape
set_option maxRecDepth 20000 in
theorem ggX9_table_X0_forget : GoodIn wsX9_table wsX0_forget := goodIn_r _ [21, 22, 23, 24, 40, 41, 42, 43, 44, 45, 46, 47] (by decide +kernel) (by decide +kernel)
set_option maxRecDepth 20000 in
theorem gX9_table_X0_forget : GoodIn wsX9_table (wsV RX9 80 RX0 yX0_forget wsX0_forget) := goodIn_app (goodIn_of _ (by decide +kernel)) ggX9_table_X0_forget
theorem dX9_table_0 : decode cX9_table 0 = .ok (.iload_n 1, 1) := by decide +kernel
theorem dX9_table_1 : decode cX9_table 1 = .ok (.iconst 1, 1) := by decide +kernel
theorem dX9_table_2 : decode cX9_table 2 = .ok (.if_icmp .lt 18, 3) := by decide +kernel
theorem dX9_table_5 : decode cX9_table 5 = .ok (.iload_n 1, 1) := by decide +kernel
theorem dX9_table_6 : decode cX9_table 6 = .ok (.iconst 5, 1) := by decide +kernel
theorem dX9_table_7 : decode cX9_table 7 = .ok (.if_icmp .gt 13, 3) := by decide +kernel
theorem dX9_table_10 : decode cX9_table 10 = .ok (.iload_n 2, 1) := by decide +kernel
theorem dX9_table_11 : decode cX9_table 11 = .ok (.iconst 1, 1) := by decide +kernel
theorem dX9_table_12 : decode cX9_table 12 = .ok (.if_icmp .lt 8, 3) := by decide +kernel
theorem dX9_table_15 : decode cX9_table 15 = .ok (.iload_n 2, 1) := by decide +kernel
theorem dX9_table_16 : decode cX9_table 16 = .ok (.iconst 4, 1) := by decide +kernel
theorem dX9_table_17 : decode cX9_table 17 = .ok (.if_icmp .le 5, 3) := by decide +kernel
theorem dX9_table_20 : decode cX9_table 20 = .ok (.iconst (-1), 1) := by decide +kernel
theorem dX9_table_21 : decode cX9_table 21 = .ok (.ireturn, 1) := by decide +kernel
theorem dX9_table_22 : decode cX9_table 22 = .ok (.aload_n 0, 1) := by decide +kernel
theorem dX9_table_23 : decode cX9_table 23 = .ok (.getfield 12, 3) := by decide +kernel
theorem dX9_table_26 : decode cX9_table 26 = .ok (.iload_n 1, 1) := by decide +kernel
theorem dX9_table_27 : decode cX9_table 27 = .ok (.iload_n 2, 1) := by decide +kernel
theorem dX9_table_28 : decode cX9_table 28 = .ok (.invokevirtual 76, 3) := by decide +kernel
theorem dX9_table_31 : decode cX9_table 31 = .ok (.aload_n 0, 1) := by decide +kernel
theorem dX9_table_32 : decode cX9_table 32 = .ok (.getfield 21, 3) := by decide +kernel
theorem dX9_table_35 : decode cX9_table 35 = .ok (.invokevirtual 80, 3) := by decide +kernel
theorem dX9_table_38 : decode cX9_table 38 = .ok (.iconst 1, 1) := by decide +kernel
theorem dX9_table_39 : decode cX9_table 39 = .ok (.ireturn, 1) := by decide +kernel
set_option maxHeartbeats 4000000 in
set_option maxRecDepth 100000 in
theorem f_X9_table (l : Launch) (dC : Nat → ClassId) (dI : Nat → Nat → Nat) (h : Nat → Nat) (cs : Nat → ClassId) (sz : Nat) (I : Nat → Int32) (L : Nat → Int64) (A : Nat → Nat → Int32) (Q : Nat → Nat → Int64) (G : Nat → Nat → Nat → Int32) (J : Nat → Nat → Nat → Int64) (x y : Int32) : Met l yX9_table wsX9_table ({ frames := 2, cells := 0, slots := 0, locals := 46 }) (va_Pc [.ref (h 100), .int x, .int y] (xPre (dC, dI) (wAll h cs fI fL fA fQ fG fJ) (tysA cs) sz)) (va_Qi (fun (r : Int32) (u : CS) => ∃ zi9 : Nat → Int32, (r = an_table x y) ∧ u = (zi9, fL, fA, fQ, fG, fJ)) (xB (dC, dI) (tysA cs) (va_A (wAll h cs fI fL fA fQ fG fJ) sz) (fun u : CS => wAll h cs u.1 u.2.1 u.2.2.1 u.2.2.2.1 u.2.2.2.2.1 u.2.2.2.2.2)) (va_A (wAll h cs fI fL fA fQ fG fJ) sz)) 0 0 (va_A (wAll h cs fI fL fA fQ fG fJ) sz) := by
  refine Met.ofW (cc := cX9_table) (maxL := 3) (ret := (some .int)) (by decide) rfl ?_
  intro p e s m args below meth c s₁ B hml hv
  obtain ⟨rfl, hsz, hP, hK, hD0, hN⟩ := hv
  have hx := B.exec
  have hb := B.bytes
  have hr := B.returns
  have hts := atoms_spec (ws := wsX9_table) B.pre
  have hown : s.vm.findClass RX9 = some m.cls := findClass_of_methodNamed B.named
  have hlocks := B.notSynchronized
  subst hsz
  have hD := hD0.self (sz := s.heap.size)
  generalize hAe : va_A (wAll h cs fI fL fA fQ fG fJ) s.heap.size = A0 at hD ⊢
  have hA : ∀ q : Nat, s.heap.size ≤ q → A0 q := fun q h => by rw [← hAe]; exact Or.inr h
  have hl := lv_entry ([.ref (h 100), .int x, .int y]) (n := 3) (Nat.le_of_ble_eq_true rfl)
  rw [lg_entry_eq]
  generalize (lg_sl ([.ref (h 100), .int x, .int y]) ++ List.replicate (3 - (lg_sl ([.ref (h 100), .int x, .int y])).length) Slot.unset).toArray = ls at hl ⊢
  have hl : lv_has ls 3 [(0, .ref (h 100)), (1, .int x), (2, .int y)] := hl
  generalize hH : s.heap = H at hP ⊢
  have hS : va_S A0 s.heap H [] := by rw [← hH]; exact va_S.rf
  have hinX9 : ∀ w ∈ wsX90, w ∈ wsX9_table := by decide +kernel
  refine lv_iload_n hx hb dX9_table_0 rfl (lv_at hl 1 rfl) ?_
  refine lv_iconst (v := nI 1) hx hb dX9_table_1 (by decide) ?_
  refine lv_icmp_lt (tgt := 20) hx hb dX9_table_2 (by decide) (fun c_2_0 => ?_) (fun c_2_0 => ?_)
  · skip
    have t_t_1 : x.toInt < 1 := zc_tlt (K := nI 1) (by decide +kernel) c_2_0
    refine lv_iconst (v := (-1)) hx hb dX9_table_20 (by decide) ?_
    exact xr_i (v := (-1)) hx hb hr hlocks hK hS dX9_table_21 (fI, fL, fA, fQ, fG, fJ) ⟨fI, (by unfold an_table; first | rw [if_neg (by omega)] | rw [if_pos (by omega)]), rfl⟩ hP hD
  · skip
    have t_f_2 : 1 ≤ x.toInt := zc_flt (K := nI 1) (by decide +kernel) c_2_0
    refine lv_iload_n hx hb dX9_table_5 rfl (lv_at hl 1 rfl) ?_
    refine lv_iconst (v := nI 5) hx hb dX9_table_6 (by decide) ?_
    refine lv_icmp_gt (tgt := 20) hx hb dX9_table_7 (by decide) (fun c_7_3 => ?_) (fun c_7_3 => ?_)
    · skip
      have t_t_4 : 5 < x.toInt := zc_tgt (K := nI 5) (by decide +kernel) c_7_3
      refine lv_iconst (v := (-1)) hx hb dX9_table_20 (by decide) ?_
      exact xr_i (v := (-1)) hx hb hr hlocks hK hS dX9_table_21 (fI, fL, fA, fQ, fG, fJ) ⟨fI, (by unfold an_table; first | rw [if_neg (by omega)] | rw [if_pos (by omega)]), rfl⟩ hP hD
    · skip
      have t_f_5 : x.toInt ≤ 5 := zc_fgt (K := nI 5) (by decide +kernel) c_7_3
      refine lv_iload_n hx hb dX9_table_10 rfl (lv_at hl 2 rfl) ?_
      refine lv_iconst (v := nI 1) hx hb dX9_table_11 (by decide) ?_
      refine lv_icmp_lt (tgt := 20) hx hb dX9_table_12 (by decide) (fun c_12_6 => ?_) (fun c_12_6 => ?_)
      · skip
        have t_t_7 : y.toInt < 1 := zc_tlt (K := nI 1) (by decide +kernel) c_12_6
        refine lv_iconst (v := (-1)) hx hb dX9_table_20 (by decide) ?_
        exact xr_i (v := (-1)) hx hb hr hlocks hK hS dX9_table_21 (fI, fL, fA, fQ, fG, fJ) ⟨fI, (by unfold an_table; first | rw [if_neg (by omega)] | rw [if_pos (by omega)]), rfl⟩ hP hD
      · skip
        have t_f_8 : 1 ≤ y.toInt := zc_flt (K := nI 1) (by decide +kernel) c_12_6
        refine lv_iload_n hx hb dX9_table_15 rfl (lv_at hl 2 rfl) ?_
        refine lv_iconst (v := nI 4) hx hb dX9_table_16 (by decide) ?_
        refine lv_icmp_le (tgt := 22) hx hb dX9_table_17 (by decide) (fun c_17_9 => ?_) (fun c_17_9 => ?_)
        · skip
          have t_t_10 : y.toInt ≤ 4 := zc_tle (K := nI 4) (by decide +kernel) c_17_9
          refine lv_aload_n hx hb dX9_table_22 rfl (lv_at hl 0 rfl) ?_
          refine va_get (D := (dC, dI)) (ci := 9) (v := .ref (h 101)) (C := RX9) (T := TX9) (N := 9) hx hb hts hinX9 hown hK hP 0 rfl rfl 0 (by decide) (hts (.fieldLink RX9 12 "MixedWords" "mix" "LMixedWords$Mix;") (by decide +kernel)) (fun _ h9 => h9) rfl dX9_table_23 ?_
          refine lv_iload_n hx hb dX9_table_26 rfl (lv_at hl 1 rfl) ?_
          refine lv_iload_n hx hb dX9_table_27 rfl (lv_at hl 2 rfl) ?_
          refine xj_v (wc := (wMix h cs fI fL fA fQ fG fJ)) (wr := [(h 100, .inr (9, [.ref (h 101), .ref (h 102), .ref (h 103), .ref (h 104), .ref (h 105), .ref (h 106), .ref (h 107), .ref (h 108), .ref (h 109)])), (h 102, .inr (0, [.ref (h 101), .ref (h 140), .ref (h 141), .ref (h 142), .ref (h 143), .int (fI 144), .int (fI 145), .int (fI 146)])), (h 140, .inl (cs 0, 40, .inl (fA 140))), (h 141, .inl (cs 0, 40, .inl (fA 141))), (h 142, .inl (cs 0, 40, .inl (fA 142))), (h 143, .inl (cs 0, 40, .inl (fA 143))), (h 103, .inr (7, [.ref (h 150), .int (fI 151)])), (h 150, .inl (cs 2, 90, .inl (fA 150))), (h 104, .inr (4, [.ref (h 103), .ref (h 160), .int (fI 166), .int (fI 167), .int (fI 168), .int (fI 169)])), (h 160, .inl (cs 3, 5, .inr (.inr (.inr (.inr (fun i => if i < 5 then some (h (i + 161)) else none)))))), (h 161, .inl (cs 0, 4, .inl ((fG 1) 0))), (h 162, .inl (cs 0, 4, .inl ((fG 1) 1))), (h 163, .inl (cs 0, 4, .inl ((fG 1) 2))), (h 164, .inl (cs 0, 4, .inl ((fG 1) 3))), (h 165, .inl (cs 0, 4, .inl ((fG 1) 4))), (h 105, .inr (8, [.ref (h 101), .ref (h 170), .ref (h 171), .ref (h 172), .int (fI 173), .int (fI 174)])), (h 170, .inl (cs 0, 256, .inl (fA 170))), (h 171, .inl (cs 0, 256, .inl (fA 171))), (h 172, .inl (cs 0, 256, .inl (fA 172))), (h 106, .inr (2, [.ref (h 180), .ref (h 185), .ref (h 186), .ref (h 187), .long (fL 188)])), (h 180, .inl (cs 4, 4, .inr (.inr (.inr (.inr (fun i => if i < 4 then some (h (i + 181)) else none)))))), (h 181, .inl (cs 1, 4, .inr (.inl ((fJ 0) 0)))), (h 182, .inl (cs 1, 4, .inr (.inl ((fJ 0) 1)))), (h 183, .inl (cs 1, 4, .inr (.inl ((fJ 0) 2)))), (h 184, .inl (cs 1, 4, .inr (.inl ((fJ 0) 3)))), (h 185, .inl (cs 1, 4, .inr (.inl (fQ 185)))), (h 186, .inl (cs 0, 4, .inl (fA 186))), (h 187, .inl (cs 1, 4, .inr (.inl (fQ 187)))), (h 107, .inr (6, [.ref (h 101), .ref (h 190), .ref (h 191), .ref (h 192)])), (h 190, .inl (cs 0, 5, .inl (fA 190))), (h 191, .inl (cs 0, 4, .inl (fA 191))), (h 192, .inl (cs 0, 4, .inl (fA 192))), (h 108, .inr (1, [.ref (h 101), .ref (h 200), .ref (h 206), .ref (h 211), .int (fI 212), .int (fI 213)])), (h 200, .inl (cs 3, 5, .inr (.inr (.inr (.inr (fun i => if i < 5 then some (h (i + 201)) else none)))))), (h 201, .inl (cs 0, 4, .inl ((fG 2) 0))), (h 202, .inl (cs 0, 4, .inl ((fG 2) 1))), (h 203, .inl (cs 0, 4, .inl ((fG 2) 2))), (h 204, .inl (cs 0, 4, .inl ((fG 2) 3))), (h 205, .inl (cs 0, 4, .inl ((fG 2) 4))), (h 206, .inl (cs 3, 4, .inr (.inr (.inr (.inr (fun i => if i < 4 then some (h (i + 207)) else none)))))), (h 207, .inl (cs 0, 4, .inl ((fG 3) 0))), (h 208, .inl (cs 0, 4, .inl ((fG 3) 1))), (h 209, .inl (cs 0, 4, .inl ((fG 3) 2))), (h 210, .inl (cs 0, 4, .inl ((fG 3) 3))), (h 211, .inl (cs 0, 5, .inl (fA 211))), (h 109, .inl (cs 5, 4, .inr (.inr (.inr (.inr (fun i => if i < 4 then some (h (i + 110)) else none)))))), (h 110, .inr (5, [.int (fI 220), .int (fI 224), .ref (h 228)])), (h 228, .inl (cs 1, 25, .inr (.inl (fQ 228)))), (h 111, .inr (5, [.int (fI 221), .int (fI 225), .ref (h 229)])), (h 229, .inl (cs 1, 25, .inr (.inl (fQ 229)))), (h 112, .inr (5, [.int (fI 222), .int (fI 226), .ref (h 230)])), (h 230, .inl (cs 1, 25, .inr (.inl (fQ 230)))), (h 113, .inr (5, [.int (fI 223), .int (fI 227), .ref (h 231)])), (h 231, .inl (cs 1, 25, .inr (.inl (fQ 231))))]) hP hD hS hA [1, 2, 3, 4, 5, 6, 7, 8] [0, 9, 10, 11, 12, 13, 14, 15, 16, 17, 18, 19, 20, 21, 22, 23, 24, 25, 26, 27, 28, 29, 30, 31, 32, 33, 34, 35, 36, 37, 38, 39, 40, 41, 42, 43, 44, 45, 46, 47, 48, 49, 50, 51, 52, 53, 54, 55, 56, 57, 58, 59, 60, 61] rfl rfl (by decide) (by decide) (va_runV (As := [.int x, .int y]) (rest := []) ⟨hx, hb, hml, hown, hts⟩ (f_X3_reshape l dC dI h cs H.size fI fL fA fQ fG fJ x y) (cwV 2 hts gX9_table_X3_reshape rfl rfl rfl (by decide +kernel) ⟨Nat.le_of_ble_eq_true rfl, Nat.le_of_ble_eq_true rfl⟩) (xpV (wc := (wMix h cs fI fL fA fQ fG fJ)) hP hD hK hN [1, 2, 3, 4, 5, 6, 7, 8] rfl (by decide) 1 (ci := 3) rfl rfl _) rfl rfl hl.1 rfl (lv_room (Nat.le_of_ble_eq_true rfl)) dX9_table_28 ⟨Nat.zero_le _, Nat.zero_le _⟩) (fun u_12 H locs hw hP hD hS => ?_)
          obtain ⟨i120_14, i121_15, i123_16, hf_17, rfl⟩ := hw
          have hP : va_P (dC, dI) vwCl (wAll h cs (va_up (va_up (va_up fI 120 i120_14) 121 i121_15) 123 i123_16) fL fA fQ fG fJ) H := xP_sub hP [0, 54, 55, 56, 57, 58, 59, 60, 61, 1, 2, 3, 4, 5, 6, 7, 8, 9, 10, 11, 12, 13, 14, 15, 16, 17, 18, 19, 20, 21, 22, 23, 24, 25, 26, 27, 28, 29, 30, 31, 32, 33, 34, 35, 36, 37, 38, 39, 40, 41, 42, 43, 44, 45, 46, 47, 48, 49, 50, 51, 52, 53] rfl
          have hD : va_D A0 (wAll h cs (va_up (va_up (va_up fI 120 i120_14) 121 i121_15) 123 i123_16) fL fA fQ fG fJ) := hD.sub [0, 54, 55, 56, 57, 58, 59, 60, 61, 1, 2, 3, 4, 5, 6, 7, 8, 9, 10, 11, 12, 13, 14, 15, 16, 17, 18, 19, 20, 21, 22, 23, 24, 25, 26, 27, 28, 29, 30, 31, 32, 33, 34, 35, 36, 37, 38, 39, 40, 41, 42, 43, 44, 45, 46, 47, 48, 49, 50, 51, 52, 53] (by decide) rfl
          refine lv_aload_n hx hb dX9_table_31 rfl (lv_at hl 0 rfl) ?_
          refine va_get (D := (dC, dI)) (ci := 9) (v := .ref (h 102)) (C := RX9) (T := TX9) (N := 9) hx hb hts hinX9 hown hK hP 0 rfl rfl 1 (by decide) (hts (.fieldLink RX9 21 "MixedWords" "acts" "LMixedWords$Acts;") (by decide +kernel)) (fun _ h9 => h9) rfl dX9_table_32 ?_
          refine xj_v (wc := (wAct0 h cs (va_up (va_up (va_up fI 120 i120_14) 121 i121_15) 123 i123_16) fL fA fQ fG fJ)) (wr := [(h 100, .inr (9, [.ref (h 101), .ref (h 102), .ref (h 103), .ref (h 104), .ref (h 105), .ref (h 106), .ref (h 107), .ref (h 108), .ref (h 109)])), (h 101, .inr (3, [.int (i120_14), .int (i121_15), .int (fI 122), .int (i123_16), .ref (h 130), .ref (h 136)])), (h 130, .inl (cs 3, 5, .inr (.inr (.inr (.inr (fun i => if i < 5 then some (h (i + 131)) else none)))))), (h 131, .inl (cs 0, 4, .inl ((fG 0) 0))), (h 132, .inl (cs 0, 4, .inl ((fG 0) 1))), (h 133, .inl (cs 0, 4, .inl ((fG 0) 2))), (h 134, .inl (cs 0, 4, .inl ((fG 0) 3))), (h 135, .inl (cs 0, 4, .inl ((fG 0) 4))), (h 136, .inl (cs 0, 5, .inl (fA 136))), (h 103, .inr (7, [.ref (h 150), .int (fI 151)])), (h 150, .inl (cs 2, 90, .inl (fA 150))), (h 104, .inr (4, [.ref (h 103), .ref (h 160), .int (fI 166), .int (fI 167), .int (fI 168), .int (fI 169)])), (h 160, .inl (cs 3, 5, .inr (.inr (.inr (.inr (fun i => if i < 5 then some (h (i + 161)) else none)))))), (h 161, .inl (cs 0, 4, .inl ((fG 1) 0))), (h 162, .inl (cs 0, 4, .inl ((fG 1) 1))), (h 163, .inl (cs 0, 4, .inl ((fG 1) 2))), (h 164, .inl (cs 0, 4, .inl ((fG 1) 3))), (h 165, .inl (cs 0, 4, .inl ((fG 1) 4))), (h 105, .inr (8, [.ref (h 101), .ref (h 170), .ref (h 171), .ref (h 172), .int (fI 173), .int (fI 174)])), (h 170, .inl (cs 0, 256, .inl (fA 170))), (h 171, .inl (cs 0, 256, .inl (fA 171))), (h 172, .inl (cs 0, 256, .inl (fA 172))), (h 106, .inr (2, [.ref (h 180), .ref (h 185), .ref (h 186), .ref (h 187), .long (fL 188)])), (h 180, .inl (cs 4, 4, .inr (.inr (.inr (.inr (fun i => if i < 4 then some (h (i + 181)) else none)))))), (h 181, .inl (cs 1, 4, .inr (.inl ((fJ 0) 0)))), (h 182, .inl (cs 1, 4, .inr (.inl ((fJ 0) 1)))), (h 183, .inl (cs 1, 4, .inr (.inl ((fJ 0) 2)))), (h 184, .inl (cs 1, 4, .inr (.inl ((fJ 0) 3)))), (h 185, .inl (cs 1, 4, .inr (.inl (fQ 185)))), (h 186, .inl (cs 0, 4, .inl (fA 186))), (h 187, .inl (cs 1, 4, .inr (.inl (fQ 187)))), (h 107, .inr (6, [.ref (h 101), .ref (h 190), .ref (h 191), .ref (h 192)])), (h 190, .inl (cs 0, 5, .inl (fA 190))), (h 191, .inl (cs 0, 4, .inl (fA 191))), (h 192, .inl (cs 0, 4, .inl (fA 192))), (h 108, .inr (1, [.ref (h 101), .ref (h 200), .ref (h 206), .ref (h 211), .int (fI 212), .int (fI 213)])), (h 200, .inl (cs 3, 5, .inr (.inr (.inr (.inr (fun i => if i < 5 then some (h (i + 201)) else none)))))), (h 201, .inl (cs 0, 4, .inl ((fG 2) 0))), (h 202, .inl (cs 0, 4, .inl ((fG 2) 1))), (h 203, .inl (cs 0, 4, .inl ((fG 2) 2))), (h 204, .inl (cs 0, 4, .inl ((fG 2) 3))), (h 205, .inl (cs 0, 4, .inl ((fG 2) 4))), (h 206, .inl (cs 3, 4, .inr (.inr (.inr (.inr (fun i => if i < 4 then some (h (i + 207)) else none)))))), (h 207, .inl (cs 0, 4, .inl ((fG 3) 0))), (h 208, .inl (cs 0, 4, .inl ((fG 3) 1))), (h 209, .inl (cs 0, 4, .inl ((fG 3) 2))), (h 210, .inl (cs 0, 4, .inl ((fG 3) 3))), (h 211, .inl (cs 0, 5, .inl (fA 211))), (h 109, .inl (cs 5, 4, .inr (.inr (.inr (.inr (fun i => if i < 4 then some (h (i + 110)) else none)))))), (h 110, .inr (5, [.int (fI 220), .int (fI 224), .ref (h 228)])), (h 228, .inl (cs 1, 25, .inr (.inl (fQ 228)))), (h 111, .inr (5, [.int (fI 221), .int (fI 225), .ref (h 229)])), (h 229, .inl (cs 1, 25, .inr (.inl (fQ 229)))), (h 112, .inr (5, [.int (fI 222), .int (fI 226), .ref (h 230)])), (h 230, .inl (cs 1, 25, .inr (.inl (fQ 230)))), (h 113, .inr (5, [.int (fI 223), .int (fI 227), .ref (h 231)])), (h 231, .inl (cs 1, 25, .inr (.inl (fQ 231))))]) hP hD hS hA [9, 10, 11, 12, 13] [0, 1, 2, 3, 4, 5, 6, 7, 8, 14, 15, 16, 17, 18, 19, 20, 21, 22, 23, 24, 25, 26, 27, 28, 29, 30, 31, 32, 33, 34, 35, 36, 37, 38, 39, 40, 41, 42, 43, 44, 45, 46, 47, 48, 49, 50, 51, 52, 53, 54, 55, 56, 57, 58, 59, 60, 61] rfl rfl (by decide) (by decide) (va_runV (As := []) (rest := []) ⟨hx, hb, hml, hown, hts⟩ (k_X0_forget l dC dI h cs H.size (va_up (va_up (va_up fI 120 i120_14) 121 i121_15) 123 i123_16) fL fA fQ fG fJ ) (cwV 0 hts gX9_table_X0_forget rfl rfl rfl (by decide +kernel) ⟨Nat.le_of_ble_eq_true rfl, Nat.le_of_ble_eq_true rfl⟩) (xpV (wc := (wAct0 h cs (va_up (va_up (va_up fI 120 i120_14) 121 i121_15) 123 i123_16) fL fA fQ fG fJ)) hP hD hK hN [9, 10, 11, 12, 13] rfl (by decide) 9 (ci := 0) rfl rfl _) rfl rfl hl.1 rfl (lv_room (Nat.le_of_ble_eq_true rfl)) dX9_table_35 ⟨Nat.zero_le _, Nat.zero_le _⟩) (fun u_18 H locs hw hP hD hS => ?_)
          obtain ⟨x144_20, x145_21, x146_22, hf_23, rfl⟩ := hw
          have hP : va_P (dC, dI) vwCl (wAll h cs (va_up (va_up (va_up (va_up (va_up (va_up fI 120 i120_14) 121 i121_15) 123 i123_16) 144 x144_20) 145 x145_21) 146 x146_22) fL fA fQ fG fJ) H := xP_sub hP [0, 1, 2, 3, 4, 5, 6, 7, 8, 57, 58, 59, 60, 61, 9, 10, 11, 12, 13, 14, 15, 16, 17, 18, 19, 20, 21, 22, 23, 24, 25, 26, 27, 28, 29, 30, 31, 32, 33, 34, 35, 36, 37, 38, 39, 40, 41, 42, 43, 44, 45, 46, 47, 48, 49, 50, 51, 52, 53, 54, 55, 56] rfl
          have hD : va_D A0 (wAll h cs (va_up (va_up (va_up (va_up (va_up (va_up fI 120 i120_14) 121 i121_15) 123 i123_16) 144 x144_20) 145 x145_21) 146 x146_22) fL fA fQ fG fJ) := hD.sub [0, 1, 2, 3, 4, 5, 6, 7, 8, 57, 58, 59, 60, 61, 9, 10, 11, 12, 13, 14, 15, 16, 17, 18, 19, 20, 21, 22, 23, 24, 25, 26, 27, 28, 29, 30, 31, 32, 33, 34, 35, 36, 37, 38, 39, 40, 41, 42, 43, 44, 45, 46, 47, 48, 49, 50, 51, 52, 53, 54, 55, 56] (by decide) rfl
          obtain ⟨rfl, rfl, rfl⟩ := hf_23
          refine lv_iconst (v := nI 1) hx hb dX9_table_38 (by decide) ?_
          exact xr_i (v := (nI 1)) hx hb hr hlocks hK hS dX9_table_39 ((va_up (va_up (va_up (va_up (va_up (va_up fI 120 i120_14) 121 i121_15) 123 i123_16) 144 (nI 0)) 145 (nI 0)) 146 (nI 0)), fL, fA, fQ, fG, fJ) ⟨(va_up (va_up (va_up (va_up (va_up (va_up fI 120 i120_14) 121 i121_15) 123 i123_16) 144 (nI 0)) 145 (nI 0)) 146 (nI 0)), (by unfold an_table; first | rw [if_neg (by omega)] | rw [if_pos (by omega)]), rfl⟩ hP hD
        · skip
          have t_f_23 : 4 < y.toInt := zc_fle (K := nI 4) (by decide +kernel) c_17_9
          refine lv_iconst (v := (-1)) hx hb dX9_table_20 (by decide) ?_
          exact xr_i (v := (-1)) hx hb hr hlocks hK hS dX9_table_21 (fI, fL, fA, fQ, fG, fJ) ⟨fI, (by unfold an_table; first | rw [if_neg (by omega)] | rw [if_pos (by omega)]), rfl⟩ hP hD
