def wSh0 (h : Nat → Nat) (cs : Nat → ClassId) (I : Nat → Int32) (L : Nat → Int64) (A : Nat → Nat → Int32) (Q : Nat → Nat → Int64) (G : Nat → Nat → Nat → Int32) (J : Nat → Nat → Nat → Int64) : va_W := [(h 110, .inr (5, [.int (I 220), .int (I 224), .ref (h 228)])), (h 228, .inl (cs 1, 25, .inr (.inl (Q 228))))]
def wD_166 (h : Nat → Nat) (cs : Nat → ClassId) (I : Nat → Int32) (L : Nat → Int64) (A : Nat → Nat → Int32) (Q : Nat → Nat → Int64) (G : Nat → Nat → Nat → Int32) (J : Nat → Nat → Nat → Int64) : va_W := [(h 228, .inl (cs 1, 25, .inr (.inl (Q 228))))]
theorem dJ7_fill_d0a16_0 : decode cJ7_fill_d0a16 0 = .ok (.iconst 0, 1) := by decide +kernel
theorem dJ7_fill_d0a16_1 : decode cJ7_fill_d0a16 1 = .ok (.istore_n 3, 1) := by decide +kernel
theorem dJ7_fill_d0a16_2 : decode cJ7_fill_d0a16 2 = .ok (.aload_n 0, 1) := by decide +kernel
theorem dJ7_fill_d0a16_3 : decode cJ7_fill_d0a16 3 = .ok (.arraylength, 1) := by decide +kernel
theorem dJ7_fill_d0a16_4 : decode cJ7_fill_d0a16 4 = .ok (.istore 4, 2) := by decide +kernel
theorem dJ7_fill_d0a16_6 : decode cJ7_fill_d0a16 6 = .ok (.iload_n 3, 1) := by decide +kernel
theorem dJ7_fill_d0a16_7 : decode cJ7_fill_d0a16 7 = .ok (.iload 4, 2) := by decide +kernel
theorem dJ7_fill_d0a16_9 : decode cJ7_fill_d0a16 9 = .ok (.if_icmp .ge 13, 3) := by decide +kernel
theorem dJ7_fill_d0a16_12 : decode cJ7_fill_d0a16 12 = .ok (.aload_n 0, 1) := by decide +kernel
theorem dJ7_fill_d0a16_13 : decode cJ7_fill_d0a16 13 = .ok (.iload_n 3, 1) := by decide +kernel
theorem dJ7_fill_d0a16_14 : decode cJ7_fill_d0a16 14 = .ok (.lload_n 1, 1) := by decide +kernel
theorem dJ7_fill_d0a16_15 : decode cJ7_fill_d0a16 15 = .ok (.lastore, 1) := by decide +kernel
theorem dJ7_fill_d0a16_16 : decode cJ7_fill_d0a16 16 = .ok (.iinc 3 1, 3) := by decide +kernel
theorem dJ7_fill_d0a16_19 : decode cJ7_fill_d0a16 19 = .ok (.goto (-13), 3) := by decide +kernel
theorem dJ7_fill_d0a16_22 : decode cJ7_fill_d0a16 22 = .ok (.return_, 1) := by decide +kernel
set_option maxHeartbeats 4000000 in
set_option maxRecDepth 100000 in
theorem a_J7_fill_d0a16_167 (l : Launch) (dC : Nat → ClassId) (dI : Nat → Nat → Nat) (h : Nat → Nat) (cs : Nat → ClassId) (sz : Nat) (I : Nat → Int32) (L : Nat → Int64) (A : Nat → Nat → Int32) (Q : Nat → Nat → Int64) (G : Nat → Nat → Nat → Int32) (J : Nat → Nat → Nat → Int64) : Met l yJ7_fill_d0a16 wsJ7_fill_d0a16 ({ frames := 0, cells := 0, slots := 0, locals := 0 }) (va_Pc [.ref (h 228), .long (0 : Int64)] (xPre (dC, dI) (wD_166 h cs fI fL fA fQ fG fJ) (tysA cs) sz)) (va_Qv (fun (u : CS) => (True) ∧ u = (fI, fL, fA, fQ, fG, fJ)) (xB (dC, dI) (tysA cs) (va_A (wD_166 h cs fI fL fA fQ fG fJ) sz) (fun u : CS => wD_166 h cs u.1 u.2.1 u.2.2.1 u.2.2.2.1 u.2.2.2.2.1 u.2.2.2.2.2)) (va_A (wD_166 h cs fI fL fA fQ fG fJ) sz)) 0 0 (va_A (wD_166 h cs fI fL fA fQ fG fJ) sz) := by
  refine Met.ofW (cc := cJ7_fill_d0a16) (maxL := 5) (ret := none) (by decide) rfl ?_
  intro p e s m args below meth c s₁ B hml hv
  obtain ⟨rfl, hsz, hP, hK, hD0, hN⟩ := hv
  have hx := B.exec
  have hb := B.bytes
  have hr := B.returns
  have hts := atoms_spec (ws := wsJ7_fill_d0a16) B.pre
  have hown : s.vm.findClass RJ7 = some m.cls := findClass_of_methodNamed B.named
  have hlocks := B.notSynchronized
  subst hsz
  have hD := hD0.self (sz := s.heap.size)
  generalize hAe : va_A (wD_166 h cs fI fL fA fQ fG fJ) s.heap.size = A0 at hD ⊢
  have hA : ∀ q : Nat, s.heap.size ≤ q → A0 q := fun q h => by rw [← hAe]; exact Or.inr h
  have hl := lv_entry ([.ref (h 228), .long (0 : Int64)]) (n := 5) (Nat.le_of_ble_eq_true rfl)
  rw [lg_entry_eq]
  generalize (lg_sl ([.ref (h 228), .long (0 : Int64)]) ++ List.replicate (5 - (lg_sl ([.ref (h 228), .long (0 : Int64)])).length) Slot.unset).toArray = ls at hl ⊢
  have hl : lv_has ls 5 [(0, .ref (h 228)), (1, .long (0 : Int64))] := hl
  generalize hH : s.heap = H at hP ⊢
  have hS : va_S A0 s.heap H [] := by rw [← hH]; exact va_S.rf
  refine lv_iconst (v := nI 0) hx hb dJ7_fill_d0a16_0 (by decide) ?_
  refine lv_istore_n (lv' := [(3, .int (nI 0)), (0, .ref (h 228)), (1, .long (0 : Int64))]) hx hb dJ7_fill_d0a16_1 rfl hl (by decide) rfl (fun ls hl => ?_)
  refine lv_aload_n hx hb dJ7_fill_d0a16_2 rfl (lv_at hl 1 rfl) ?_
  refine xa_alen hx hb hK hP 0 1 rfl rfl (n := 25) rfl dJ7_fill_d0a16_3 ?_
  refine lv_istore (lv' := [(4, .int (nI 25)), (3, .int (nI 0)), (0, .ref (h 228)), (1, .long (0 : Int64))]) hx hb dJ7_fill_d0a16_4 hl (by decide) rfl (fun ls hl => ?_)
  refine lv_iload_n hx hb dJ7_fill_d0a16_6 rfl (lv_at hl 1 rfl) ?_
  refine lv_iload hx hb dJ7_fill_d0a16_7 (lv_at hl 0 rfl) ?_
  refine lv_icmp_ge (tgt := 22) hx hb dJ7_fill_d0a16_9 (by decide) (fun c9 => False.elim (by revert c9; decide +kernel)) (fun _ => ?_)
  refine lv_aload_n hx hb dJ7_fill_d0a16_12 rfl (lv_at hl 2 rfl) ?_
  refine lv_iload_n hx hb dJ7_fill_d0a16_13 rfl (lv_at hl 1 rfl) ?_
  refine lv_lload_n hx hb dJ7_fill_d0a16_14 rfl (lv_at hl 3 rfl) ?_
  refine xa_lastS hx hb hK hP hD hS 0 1 rfl rfl (by omega) (by decide) (by decide +kernel) dJ7_fill_d0a16_15 (fun H locs hP hD hS => ?_)
  refine lv_iinc (v := nI 1) (lv' := [(3, .int (nI 1)), (4, .int (nI 25)), (0, .ref (h 228)), (1, .long (0 : Int64))]) hx hb dJ7_fill_d0a16_16 hl (k := 1) rfl (by decide +kernel) (by decide) rfl (fun ls hl => ?_)
  refine lv_goto (tgt := 6) hx hb dJ7_fill_d0a16_19 (by decide) ?_
  refine lv_iload_n hx hb dJ7_fill_d0a16_6 rfl (lv_at hl 0 rfl) ?_
  refine lv_iload hx hb dJ7_fill_d0a16_7 (lv_at hl 1 rfl) ?_
  refine lv_icmp_ge (tgt := 22) hx hb dJ7_fill_d0a16_9 (by decide) (fun c9 => False.elim (by revert c9; decide +kernel)) (fun _ => ?_)
  refine lv_aload_n hx hb dJ7_fill_d0a16_12 rfl (lv_at hl 2 rfl) ?_
  refine lv_iload_n hx hb dJ7_fill_d0a16_13 rfl (lv_at hl 0 rfl) ?_
  refine lv_lload_n hx hb dJ7_fill_d0a16_14 rfl (lv_at hl 3 rfl) ?_
  refine xa_lastS hx hb hK hP hD hS 0 1 rfl rfl (by omega) (by decide) (by decide +kernel) dJ7_fill_d0a16_15 (fun H locs hP hD hS => ?_)
  refine lv_iinc (v := nI 2) (lv' := [(3, .int (nI 2)), (4, .int (nI 25)), (0, .ref (h 228)), (1, .long (0 : Int64))]) hx hb dJ7_fill_d0a16_16 hl (k := 0) rfl (by decide +kernel) (by decide) rfl (fun ls hl => ?_)
  refine lv_goto (tgt := 6) hx hb dJ7_fill_d0a16_19 (by decide) ?_
  refine lv_iload_n hx hb dJ7_fill_d0a16_6 rfl (lv_at hl 0 rfl) ?_
  refine lv_iload hx hb dJ7_fill_d0a16_7 (lv_at hl 1 rfl) ?_
  refine lv_icmp_ge (tgt := 22) hx hb dJ7_fill_d0a16_9 (by decide) (fun c9 => False.elim (by revert c9; decide +kernel)) (fun _ => ?_)
  refine lv_aload_n hx hb dJ7_fill_d0a16_12 rfl (lv_at hl 2 rfl) ?_
  refine lv_iload_n hx hb dJ7_fill_d0a16_13 rfl (lv_at hl 0 rfl) ?_
  refine lv_lload_n hx hb dJ7_fill_d0a16_14 rfl (lv_at hl 3 rfl) ?_
  refine xa_lastS hx hb hK hP hD hS 0 1 rfl rfl (by omega) (by decide) (by decide +kernel) dJ7_fill_d0a16_15 (fun H locs hP hD hS => ?_)
  refine lv_iinc (v := nI 3) (lv' := [(3, .int (nI 3)), (4, .int (nI 25)), (0, .ref (h 228)), (1, .long (0 : Int64))]) hx hb dJ7_fill_d0a16_16 hl (k := 0) rfl (by decide +kernel) (by decide) rfl (fun ls hl => ?_)
  refine lv_goto (tgt := 6) hx hb dJ7_fill_d0a16_19 (by decide) ?_
  refine lv_iload_n hx hb dJ7_fill_d0a16_6 rfl (lv_at hl 0 rfl) ?_
  refine lv_iload hx hb dJ7_fill_d0a16_7 (lv_at hl 1 rfl) ?_
  refine lv_icmp_ge (tgt := 22) hx hb dJ7_fill_d0a16_9 (by decide) (fun c9 => False.elim (by revert c9; decide +kernel)) (fun _ => ?_)
  refine lv_aload_n hx hb dJ7_fill_d0a16_12 rfl (lv_at hl 2 rfl) ?_
  refine lv_iload_n hx hb dJ7_fill_d0a16_13 rfl (lv_at hl 0 rfl) ?_
  refine lv_lload_n hx hb dJ7_fill_d0a16_14 rfl (lv_at hl 3 rfl) ?_
  refine xa_lastS hx hb hK hP hD hS 0 1 rfl rfl (by omega) (by decide) (by decide +kernel) dJ7_fill_d0a16_15 (fun H locs hP hD hS => ?_)
  refine lv_iinc (v := nI 4) (lv' := [(3, .int (nI 4)), (4, .int (nI 25)), (0, .ref (h 228)), (1, .long (0 : Int64))]) hx hb dJ7_fill_d0a16_16 hl (k := 0) rfl (by decide +kernel) (by decide) rfl (fun ls hl => ?_)
  refine lv_goto (tgt := 6) hx hb dJ7_fill_d0a16_19 (by decide) ?_
  refine lv_iload_n hx hb dJ7_fill_d0a16_6 rfl (lv_at hl 0 rfl) ?_
  refine lv_iload hx hb dJ7_fill_d0a16_7 (lv_at hl 1 rfl) ?_
  refine lv_icmp_ge (tgt := 22) hx hb dJ7_fill_d0a16_9 (by decide) (fun c9 => False.elim (by revert c9; decide +kernel)) (fun _ => ?_)
  refine lv_aload_n hx hb dJ7_fill_d0a16_12 rfl (lv_at hl 2 rfl) ?_
  refine lv_iload_n hx hb dJ7_fill_d0a16_13 rfl (lv_at hl 0 rfl) ?_
  refine lv_lload_n hx hb dJ7_fill_d0a16_14 rfl (lv_at hl 3 rfl) ?_
  refine xa_lastS hx hb hK hP hD hS 0 1 rfl rfl (by omega) (by decide) (by decide +kernel) dJ7_fill_d0a16_15 (fun H locs hP hD hS => ?_)
  refine lv_iinc (v := nI 5) (lv' := [(3, .int (nI 5)), (4, .int (nI 25)), (0, .ref (h 228)), (1, .long (0 : Int64))]) hx hb dJ7_fill_d0a16_16 hl (k := 0) rfl (by decide +kernel) (by decide) rfl (fun ls hl => ?_)
  refine lv_goto (tgt := 6) hx hb dJ7_fill_d0a16_19 (by decide) ?_
  refine lv_iload_n hx hb dJ7_fill_d0a16_6 rfl (lv_at hl 0 rfl) ?_
  refine lv_iload hx hb dJ7_fill_d0a16_7 (lv_at hl 1 rfl) ?_
  refine lv_icmp_ge (tgt := 22) hx hb dJ7_fill_d0a16_9 (by decide) (fun c9 => False.elim (by revert c9; decide +kernel)) (fun _ => ?_)
  refine lv_aload_n hx hb dJ7_fill_d0a16_12 rfl (lv_at hl 2 rfl) ?_
  refine lv_iload_n hx hb dJ7_fill_d0a16_13 rfl (lv_at hl 0 rfl) ?_
  refine lv_lload_n hx hb dJ7_fill_d0a16_14 rfl (lv_at hl 3 rfl) ?_
  refine xa_lastS hx hb hK hP hD hS 0 1 rfl rfl (by omega) (by decide) (by decide +kernel) dJ7_fill_d0a16_15 (fun H locs hP hD hS => ?_)
  refine lv_iinc (v := nI 6) (lv' := [(3, .int (nI 6)), (4, .int (nI 25)), (0, .ref (h 228)), (1, .long (0 : Int64))]) hx hb dJ7_fill_d0a16_16 hl (k := 0) rfl (by decide +kernel) (by decide) rfl (fun ls hl => ?_)
  refine lv_goto (tgt := 6) hx hb dJ7_fill_d0a16_19 (by decide) ?_
  refine lv_iload_n hx hb dJ7_fill_d0a16_6 rfl (lv_at hl 0 rfl) ?_
  refine lv_iload hx hb dJ7_fill_d0a16_7 (lv_at hl 1 rfl) ?_
  refine lv_icmp_ge (tgt := 22) hx hb dJ7_fill_d0a16_9 (by decide) (fun c9 => False.elim (by revert c9; decide +kernel)) (fun _ => ?_)
  refine lv_aload_n hx hb dJ7_fill_d0a16_12 rfl (lv_at hl 2 rfl) ?_
  refine lv_iload_n hx hb dJ7_fill_d0a16_13 rfl (lv_at hl 0 rfl) ?_
  refine lv_lload_n hx hb dJ7_fill_d0a16_14 rfl (lv_at hl 3 rfl) ?_
  refine xa_lastS hx hb hK hP hD hS 0 1 rfl rfl (by omega) (by decide) (by decide +kernel) dJ7_fill_d0a16_15 (fun H locs hP hD hS => ?_)
  refine lv_iinc (v := nI 7) (lv' := [(3, .int (nI 7)), (4, .int (nI 25)), (0, .ref (h 228)), (1, .long (0 : Int64))]) hx hb dJ7_fill_d0a16_16 hl (k := 0) rfl (by decide +kernel) (by decide) rfl (fun ls hl => ?_)
  refine lv_goto (tgt := 6) hx hb dJ7_fill_d0a16_19 (by decide) ?_
  refine lv_iload_n hx hb dJ7_fill_d0a16_6 rfl (lv_at hl 0 rfl) ?_
  refine lv_iload hx hb dJ7_fill_d0a16_7 (lv_at hl 1 rfl) ?_
  refine lv_icmp_ge (tgt := 22) hx hb dJ7_fill_d0a16_9 (by decide) (fun c9 => False.elim (by revert c9; decide +kernel)) (fun _ => ?_)
  refine lv_aload_n hx hb dJ7_fill_d0a16_12 rfl (lv_at hl 2 rfl) ?_
  refine lv_iload_n hx hb dJ7_fill_d0a16_13 rfl (lv_at hl 0 rfl) ?_
  refine lv_lload_n hx hb dJ7_fill_d0a16_14 rfl (lv_at hl 3 rfl) ?_
  refine xa_lastS hx hb hK hP hD hS 0 1 rfl rfl (by omega) (by decide) (by decide +kernel) dJ7_fill_d0a16_15 (fun H locs hP hD hS => ?_)
  refine lv_iinc (v := nI 8) (lv' := [(3, .int (nI 8)), (4, .int (nI 25)), (0, .ref (h 228)), (1, .long (0 : Int64))]) hx hb dJ7_fill_d0a16_16 hl (k := 0) rfl (by decide +kernel) (by decide) rfl (fun ls hl => ?_)
  refine lv_goto (tgt := 6) hx hb dJ7_fill_d0a16_19 (by decide) ?_
  refine lv_iload_n hx hb dJ7_fill_d0a16_6 rfl (lv_at hl 0 rfl) ?_
  refine lv_iload hx hb dJ7_fill_d0a16_7 (lv_at hl 1 rfl) ?_
  refine lv_icmp_ge (tgt := 22) hx hb dJ7_fill_d0a16_9 (by decide) (fun c9 => False.elim (by revert c9; decide +kernel)) (fun _ => ?_)
  refine lv_aload_n hx hb dJ7_fill_d0a16_12 rfl (lv_at hl 2 rfl) ?_
  refine lv_iload_n hx hb dJ7_fill_d0a16_13 rfl (lv_at hl 0 rfl) ?_
  refine lv_lload_n hx hb dJ7_fill_d0a16_14 rfl (lv_at hl 3 rfl) ?_
  refine xa_lastS hx hb hK hP hD hS 0 1 rfl rfl (by omega) (by decide) (by decide +kernel) dJ7_fill_d0a16_15 (fun H locs hP hD hS => ?_)
  refine lv_iinc (v := nI 9) (lv' := [(3, .int (nI 9)), (4, .int (nI 25)), (0, .ref (h 228)), (1, .long (0 : Int64))]) hx hb dJ7_fill_d0a16_16 hl (k := 0) rfl (by decide +kernel) (by decide) rfl (fun ls hl => ?_)
  refine lv_goto (tgt := 6) hx hb dJ7_fill_d0a16_19 (by decide) ?_
  refine lv_iload_n hx hb dJ7_fill_d0a16_6 rfl (lv_at hl 0 rfl) ?_
  refine lv_iload hx hb dJ7_fill_d0a16_7 (lv_at hl 1 rfl) ?_
  refine lv_icmp_ge (tgt := 22) hx hb dJ7_fill_d0a16_9 (by decide) (fun c9 => False.elim (by revert c9; decide +kernel)) (fun _ => ?_)
  refine lv_aload_n hx hb dJ7_fill_d0a16_12 rfl (lv_at hl 2 rfl) ?_
  refine lv_iload_n hx hb dJ7_fill_d0a16_13 rfl (lv_at hl 0 rfl) ?_
  refine lv_lload_n hx hb dJ7_fill_d0a16_14 rfl (lv_at hl 3 rfl) ?_
  refine xa_lastS hx hb hK hP hD hS 0 1 rfl rfl (by omega) (by decide) (by decide +kernel) dJ7_fill_d0a16_15 (fun H locs hP hD hS => ?_)
  refine lv_iinc (v := nI 10) (lv' := [(3, .int (nI 10)), (4, .int (nI 25)), (0, .ref (h 228)), (1, .long (0 : Int64))]) hx hb dJ7_fill_d0a16_16 hl (k := 0) rfl (by decide +kernel) (by decide) rfl (fun ls hl => ?_)
  refine lv_goto (tgt := 6) hx hb dJ7_fill_d0a16_19 (by decide) ?_
  refine lv_iload_n hx hb dJ7_fill_d0a16_6 rfl (lv_at hl 0 rfl) ?_
  refine lv_iload hx hb dJ7_fill_d0a16_7 (lv_at hl 1 rfl) ?_
  refine lv_icmp_ge (tgt := 22) hx hb dJ7_fill_d0a16_9 (by decide) (fun c9 => False.elim (by revert c9; decide +kernel)) (fun _ => ?_)
  refine lv_aload_n hx hb dJ7_fill_d0a16_12 rfl (lv_at hl 2 rfl) ?_
  refine lv_iload_n hx hb dJ7_fill_d0a16_13 rfl (lv_at hl 0 rfl) ?_
  refine lv_lload_n hx hb dJ7_fill_d0a16_14 rfl (lv_at hl 3 rfl) ?_
  refine xa_lastS hx hb hK hP hD hS 0 1 rfl rfl (by omega) (by decide) (by decide +kernel) dJ7_fill_d0a16_15 (fun H locs hP hD hS => ?_)
  refine lv_iinc (v := nI 11) (lv' := [(3, .int (nI 11)), (4, .int (nI 25)), (0, .ref (h 228)), (1, .long (0 : Int64))]) hx hb dJ7_fill_d0a16_16 hl (k := 0) rfl (by decide +kernel) (by decide) rfl (fun ls hl => ?_)
  refine lv_goto (tgt := 6) hx hb dJ7_fill_d0a16_19 (by decide) ?_
  refine lv_iload_n hx hb dJ7_fill_d0a16_6 rfl (lv_at hl 0 rfl) ?_
  refine lv_iload hx hb dJ7_fill_d0a16_7 (lv_at hl 1 rfl) ?_
  refine lv_icmp_ge (tgt := 22) hx hb dJ7_fill_d0a16_9 (by decide) (fun c9 => False.elim (by revert c9; decide +kernel)) (fun _ => ?_)
  refine lv_aload_n hx hb dJ7_fill_d0a16_12 rfl (lv_at hl 2 rfl) ?_
  refine lv_iload_n hx hb dJ7_fill_d0a16_13 rfl (lv_at hl 0 rfl) ?_
  refine lv_lload_n hx hb dJ7_fill_d0a16_14 rfl (lv_at hl 3 rfl) ?_
  refine xa_lastS hx hb hK hP hD hS 0 1 rfl rfl (by omega) (by decide) (by decide +kernel) dJ7_fill_d0a16_15 (fun H locs hP hD hS => ?_)
  refine lv_iinc (v := nI 12) (lv' := [(3, .int (nI 12)), (4, .int (nI 25)), (0, .ref (h 228)), (1, .long (0 : Int64))]) hx hb dJ7_fill_d0a16_16 hl (k := 0) rfl (by decide +kernel) (by decide) rfl (fun ls hl => ?_)
  refine lv_goto (tgt := 6) hx hb dJ7_fill_d0a16_19 (by decide) ?_
  refine lv_iload_n hx hb dJ7_fill_d0a16_6 rfl (lv_at hl 0 rfl) ?_
  refine lv_iload hx hb dJ7_fill_d0a16_7 (lv_at hl 1 rfl) ?_
  refine lv_icmp_ge (tgt := 22) hx hb dJ7_fill_d0a16_9 (by decide) (fun c9 => False.elim (by revert c9; decide +kernel)) (fun _ => ?_)
  refine lv_aload_n hx hb dJ7_fill_d0a16_12 rfl (lv_at hl 2 rfl) ?_
  refine lv_iload_n hx hb dJ7_fill_d0a16_13 rfl (lv_at hl 0 rfl) ?_
  refine lv_lload_n hx hb dJ7_fill_d0a16_14 rfl (lv_at hl 3 rfl) ?_
  refine xa_lastS hx hb hK hP hD hS 0 1 rfl rfl (by omega) (by decide) (by decide +kernel) dJ7_fill_d0a16_15 (fun H locs hP hD hS => ?_)
  refine lv_iinc (v := nI 13) (lv' := [(3, .int (nI 13)), (4, .int (nI 25)), (0, .ref (h 228)), (1, .long (0 : Int64))]) hx hb dJ7_fill_d0a16_16 hl (k := 0) rfl (by decide +kernel) (by decide) rfl (fun ls hl => ?_)
  refine lv_goto (tgt := 6) hx hb dJ7_fill_d0a16_19 (by decide) ?_
  refine lv_iload_n hx hb dJ7_fill_d0a16_6 rfl (lv_at hl 0 rfl) ?_
  refine lv_iload hx hb dJ7_fill_d0a16_7 (lv_at hl 1 rfl) ?_
  refine lv_icmp_ge (tgt := 22) hx hb dJ7_fill_d0a16_9 (by decide) (fun c9 => False.elim (by revert c9; decide +kernel)) (fun _ => ?_)
  refine lv_aload_n hx hb dJ7_fill_d0a16_12 rfl (lv_at hl 2 rfl) ?_
  refine lv_iload_n hx hb dJ7_fill_d0a16_13 rfl (lv_at hl 0 rfl) ?_
  refine lv_lload_n hx hb dJ7_fill_d0a16_14 rfl (lv_at hl 3 rfl) ?_
  refine xa_lastS hx hb hK hP hD hS 0 1 rfl rfl (by omega) (by decide) (by decide +kernel) dJ7_fill_d0a16_15 (fun H locs hP hD hS => ?_)
  refine lv_iinc (v := nI 14) (lv' := [(3, .int (nI 14)), (4, .int (nI 25)), (0, .ref (h 228)), (1, .long (0 : Int64))]) hx hb dJ7_fill_d0a16_16 hl (k := 0) rfl (by decide +kernel) (by decide) rfl (fun ls hl => ?_)
  refine lv_goto (tgt := 6) hx hb dJ7_fill_d0a16_19 (by decide) ?_
  refine lv_iload_n hx hb dJ7_fill_d0a16_6 rfl (lv_at hl 0 rfl) ?_
  refine lv_iload hx hb dJ7_fill_d0a16_7 (lv_at hl 1 rfl) ?_
  refine lv_icmp_ge (tgt := 22) hx hb dJ7_fill_d0a16_9 (by decide) (fun c9 => False.elim (by revert c9; decide +kernel)) (fun _ => ?_)
  refine lv_aload_n hx hb dJ7_fill_d0a16_12 rfl (lv_at hl 2 rfl) ?_
  refine lv_iload_n hx hb dJ7_fill_d0a16_13 rfl (lv_at hl 0 rfl) ?_
  refine lv_lload_n hx hb dJ7_fill_d0a16_14 rfl (lv_at hl 3 rfl) ?_
  refine xa_lastS hx hb hK hP hD hS 0 1 rfl rfl (by omega) (by decide) (by decide +kernel) dJ7_fill_d0a16_15 (fun H locs hP hD hS => ?_)
  refine lv_iinc (v := nI 15) (lv' := [(3, .int (nI 15)), (4, .int (nI 25)), (0, .ref (h 228)), (1, .long (0 : Int64))]) hx hb dJ7_fill_d0a16_16 hl (k := 0) rfl (by decide +kernel) (by decide) rfl (fun ls hl => ?_)
  refine lv_goto (tgt := 6) hx hb dJ7_fill_d0a16_19 (by decide) ?_
  refine lv_iload_n hx hb dJ7_fill_d0a16_6 rfl (lv_at hl 0 rfl) ?_
  refine lv_iload hx hb dJ7_fill_d0a16_7 (lv_at hl 1 rfl) ?_
  refine lv_icmp_ge (tgt := 22) hx hb dJ7_fill_d0a16_9 (by decide) (fun c9 => False.elim (by revert c9; decide +kernel)) (fun _ => ?_)
  refine lv_aload_n hx hb dJ7_fill_d0a16_12 rfl (lv_at hl 2 rfl) ?_
  refine lv_iload_n hx hb dJ7_fill_d0a16_13 rfl (lv_at hl 0 rfl) ?_
  refine lv_lload_n hx hb dJ7_fill_d0a16_14 rfl (lv_at hl 3 rfl) ?_
  refine xa_lastS hx hb hK hP hD hS 0 1 rfl rfl (by omega) (by decide) (by decide +kernel) dJ7_fill_d0a16_15 (fun H locs hP hD hS => ?_)
  refine lv_iinc (v := nI 16) (lv' := [(3, .int (nI 16)), (4, .int (nI 25)), (0, .ref (h 228)), (1, .long (0 : Int64))]) hx hb dJ7_fill_d0a16_16 hl (k := 0) rfl (by decide +kernel) (by decide) rfl (fun ls hl => ?_)
  refine lv_goto (tgt := 6) hx hb dJ7_fill_d0a16_19 (by decide) ?_
  refine lv_iload_n hx hb dJ7_fill_d0a16_6 rfl (lv_at hl 0 rfl) ?_
  refine lv_iload hx hb dJ7_fill_d0a16_7 (lv_at hl 1 rfl) ?_
  refine lv_icmp_ge (tgt := 22) hx hb dJ7_fill_d0a16_9 (by decide) (fun c9 => False.elim (by revert c9; decide +kernel)) (fun _ => ?_)
  refine lv_aload_n hx hb dJ7_fill_d0a16_12 rfl (lv_at hl 2 rfl) ?_
  refine lv_iload_n hx hb dJ7_fill_d0a16_13 rfl (lv_at hl 0 rfl) ?_
  refine lv_lload_n hx hb dJ7_fill_d0a16_14 rfl (lv_at hl 3 rfl) ?_
  refine xa_lastS hx hb hK hP hD hS 0 1 rfl rfl (by omega) (by decide) (by decide +kernel) dJ7_fill_d0a16_15 (fun H locs hP hD hS => ?_)
  refine lv_iinc (v := nI 17) (lv' := [(3, .int (nI 17)), (4, .int (nI 25)), (0, .ref (h 228)), (1, .long (0 : Int64))]) hx hb dJ7_fill_d0a16_16 hl (k := 0) rfl (by decide +kernel) (by decide) rfl (fun ls hl => ?_)
  refine lv_goto (tgt := 6) hx hb dJ7_fill_d0a16_19 (by decide) ?_
  refine lv_iload_n hx hb dJ7_fill_d0a16_6 rfl (lv_at hl 0 rfl) ?_
  refine lv_iload hx hb dJ7_fill_d0a16_7 (lv_at hl 1 rfl) ?_
  refine lv_icmp_ge (tgt := 22) hx hb dJ7_fill_d0a16_9 (by decide) (fun c9 => False.elim (by revert c9; decide +kernel)) (fun _ => ?_)
  refine lv_aload_n hx hb dJ7_fill_d0a16_12 rfl (lv_at hl 2 rfl) ?_
  refine lv_iload_n hx hb dJ7_fill_d0a16_13 rfl (lv_at hl 0 rfl) ?_
  refine lv_lload_n hx hb dJ7_fill_d0a16_14 rfl (lv_at hl 3 rfl) ?_
  refine xa_lastS hx hb hK hP hD hS 0 1 rfl rfl (by omega) (by decide) (by decide +kernel) dJ7_fill_d0a16_15 (fun H locs hP hD hS => ?_)
  refine lv_iinc (v := nI 18) (lv' := [(3, .int (nI 18)), (4, .int (nI 25)), (0, .ref (h 228)), (1, .long (0 : Int64))]) hx hb dJ7_fill_d0a16_16 hl (k := 0) rfl (by decide +kernel) (by decide) rfl (fun ls hl => ?_)
  refine lv_goto (tgt := 6) hx hb dJ7_fill_d0a16_19 (by decide) ?_
  refine lv_iload_n hx hb dJ7_fill_d0a16_6 rfl (lv_at hl 0 rfl) ?_
  refine lv_iload hx hb dJ7_fill_d0a16_7 (lv_at hl 1 rfl) ?_
  refine lv_icmp_ge (tgt := 22) hx hb dJ7_fill_d0a16_9 (by decide) (fun c9 => False.elim (by revert c9; decide +kernel)) (fun _ => ?_)
  refine lv_aload_n hx hb dJ7_fill_d0a16_12 rfl (lv_at hl 2 rfl) ?_
  refine lv_iload_n hx hb dJ7_fill_d0a16_13 rfl (lv_at hl 0 rfl) ?_
  refine lv_lload_n hx hb dJ7_fill_d0a16_14 rfl (lv_at hl 3 rfl) ?_
  refine xa_lastS hx hb hK hP hD hS 0 1 rfl rfl (by omega) (by decide) (by decide +kernel) dJ7_fill_d0a16_15 (fun H locs hP hD hS => ?_)
  refine lv_iinc (v := nI 19) (lv' := [(3, .int (nI 19)), (4, .int (nI 25)), (0, .ref (h 228)), (1, .long (0 : Int64))]) hx hb dJ7_fill_d0a16_16 hl (k := 0) rfl (by decide +kernel) (by decide) rfl (fun ls hl => ?_)
  refine lv_goto (tgt := 6) hx hb dJ7_fill_d0a16_19 (by decide) ?_
  refine lv_iload_n hx hb dJ7_fill_d0a16_6 rfl (lv_at hl 0 rfl) ?_
  refine lv_iload hx hb dJ7_fill_d0a16_7 (lv_at hl 1 rfl) ?_
  refine lv_icmp_ge (tgt := 22) hx hb dJ7_fill_d0a16_9 (by decide) (fun c9 => False.elim (by revert c9; decide +kernel)) (fun _ => ?_)
  refine lv_aload_n hx hb dJ7_fill_d0a16_12 rfl (lv_at hl 2 rfl) ?_
  refine lv_iload_n hx hb dJ7_fill_d0a16_13 rfl (lv_at hl 0 rfl) ?_
  refine lv_lload_n hx hb dJ7_fill_d0a16_14 rfl (lv_at hl 3 rfl) ?_
  refine xa_lastS hx hb hK hP hD hS 0 1 rfl rfl (by omega) (by decide) (by decide +kernel) dJ7_fill_d0a16_15 (fun H locs hP hD hS => ?_)
  refine lv_iinc (v := nI 20) (lv' := [(3, .int (nI 20)), (4, .int (nI 25)), (0, .ref (h 228)), (1, .long (0 : Int64))]) hx hb dJ7_fill_d0a16_16 hl (k := 0) rfl (by decide +kernel) (by decide) rfl (fun ls hl => ?_)
  refine lv_goto (tgt := 6) hx hb dJ7_fill_d0a16_19 (by decide) ?_
  refine lv_iload_n hx hb dJ7_fill_d0a16_6 rfl (lv_at hl 0 rfl) ?_
  refine lv_iload hx hb dJ7_fill_d0a16_7 (lv_at hl 1 rfl) ?_
  refine lv_icmp_ge (tgt := 22) hx hb dJ7_fill_d0a16_9 (by decide) (fun c9 => False.elim (by revert c9; decide +kernel)) (fun _ => ?_)
  refine lv_aload_n hx hb dJ7_fill_d0a16_12 rfl (lv_at hl 2 rfl) ?_
  refine lv_iload_n hx hb dJ7_fill_d0a16_13 rfl (lv_at hl 0 rfl) ?_
  refine lv_lload_n hx hb dJ7_fill_d0a16_14 rfl (lv_at hl 3 rfl) ?_
  refine xa_lastS hx hb hK hP hD hS 0 1 rfl rfl (by omega) (by decide) (by decide +kernel) dJ7_fill_d0a16_15 (fun H locs hP hD hS => ?_)
  refine lv_iinc (v := nI 21) (lv' := [(3, .int (nI 21)), (4, .int (nI 25)), (0, .ref (h 228)), (1, .long (0 : Int64))]) hx hb dJ7_fill_d0a16_16 hl (k := 0) rfl (by decide +kernel) (by decide) rfl (fun ls hl => ?_)
  refine lv_goto (tgt := 6) hx hb dJ7_fill_d0a16_19 (by decide) ?_
  refine lv_iload_n hx hb dJ7_fill_d0a16_6 rfl (lv_at hl 0 rfl) ?_
  refine lv_iload hx hb dJ7_fill_d0a16_7 (lv_at hl 1 rfl) ?_
  refine lv_icmp_ge (tgt := 22) hx hb dJ7_fill_d0a16_9 (by decide) (fun c9 => False.elim (by revert c9; decide +kernel)) (fun _ => ?_)
  refine lv_aload_n hx hb dJ7_fill_d0a16_12 rfl (lv_at hl 2 rfl) ?_
  refine lv_iload_n hx hb dJ7_fill_d0a16_13 rfl (lv_at hl 0 rfl) ?_
  refine lv_lload_n hx hb dJ7_fill_d0a16_14 rfl (lv_at hl 3 rfl) ?_
  refine xa_lastS hx hb hK hP hD hS 0 1 rfl rfl (by omega) (by decide) (by decide +kernel) dJ7_fill_d0a16_15 (fun H locs hP hD hS => ?_)
  refine lv_iinc (v := nI 22) (lv' := [(3, .int (nI 22)), (4, .int (nI 25)), (0, .ref (h 228)), (1, .long (0 : Int64))]) hx hb dJ7_fill_d0a16_16 hl (k := 0) rfl (by decide +kernel) (by decide) rfl (fun ls hl => ?_)
  refine lv_goto (tgt := 6) hx hb dJ7_fill_d0a16_19 (by decide) ?_
  refine lv_iload_n hx hb dJ7_fill_d0a16_6 rfl (lv_at hl 0 rfl) ?_
  refine lv_iload hx hb dJ7_fill_d0a16_7 (lv_at hl 1 rfl) ?_
  refine lv_icmp_ge (tgt := 22) hx hb dJ7_fill_d0a16_9 (by decide) (fun c9 => False.elim (by revert c9; decide +kernel)) (fun _ => ?_)
  refine lv_aload_n hx hb dJ7_fill_d0a16_12 rfl (lv_at hl 2 rfl) ?_
  refine lv_iload_n hx hb dJ7_fill_d0a16_13 rfl (lv_at hl 0 rfl) ?_
  refine lv_lload_n hx hb dJ7_fill_d0a16_14 rfl (lv_at hl 3 rfl) ?_
  refine xa_lastS hx hb hK hP hD hS 0 1 rfl rfl (by omega) (by decide) (by decide +kernel) dJ7_fill_d0a16_15 (fun H locs hP hD hS => ?_)
  refine lv_iinc (v := nI 23) (lv' := [(3, .int (nI 23)), (4, .int (nI 25)), (0, .ref (h 228)), (1, .long (0 : Int64))]) hx hb dJ7_fill_d0a16_16 hl (k := 0) rfl (by decide +kernel) (by decide) rfl (fun ls hl => ?_)
  refine lv_goto (tgt := 6) hx hb dJ7_fill_d0a16_19 (by decide) ?_
  refine lv_iload_n hx hb dJ7_fill_d0a16_6 rfl (lv_at hl 0 rfl) ?_
  refine lv_iload hx hb dJ7_fill_d0a16_7 (lv_at hl 1 rfl) ?_
  refine lv_icmp_ge (tgt := 22) hx hb dJ7_fill_d0a16_9 (by decide) (fun c9 => False.elim (by revert c9; decide +kernel)) (fun _ => ?_)
  refine lv_aload_n hx hb dJ7_fill_d0a16_12 rfl (lv_at hl 2 rfl) ?_
  refine lv_iload_n hx hb dJ7_fill_d0a16_13 rfl (lv_at hl 0 rfl) ?_
  refine lv_lload_n hx hb dJ7_fill_d0a16_14 rfl (lv_at hl 3 rfl) ?_
  refine xa_lastS hx hb hK hP hD hS 0 1 rfl rfl (by omega) (by decide) (by decide +kernel) dJ7_fill_d0a16_15 (fun H locs hP hD hS => ?_)
  refine lv_iinc (v := nI 24) (lv' := [(3, .int (nI 24)), (4, .int (nI 25)), (0, .ref (h 228)), (1, .long (0 : Int64))]) hx hb dJ7_fill_d0a16_16 hl (k := 0) rfl (by decide +kernel) (by decide) rfl (fun ls hl => ?_)
  refine lv_goto (tgt := 6) hx hb dJ7_fill_d0a16_19 (by decide) ?_
  refine lv_iload_n hx hb dJ7_fill_d0a16_6 rfl (lv_at hl 0 rfl) ?_
  refine lv_iload hx hb dJ7_fill_d0a16_7 (lv_at hl 1 rfl) ?_
  refine lv_icmp_ge (tgt := 22) hx hb dJ7_fill_d0a16_9 (by decide) (fun c9 => False.elim (by revert c9; decide +kernel)) (fun _ => ?_)
  refine lv_aload_n hx hb dJ7_fill_d0a16_12 rfl (lv_at hl 2 rfl) ?_
  refine lv_iload_n hx hb dJ7_fill_d0a16_13 rfl (lv_at hl 0 rfl) ?_
  refine lv_lload_n hx hb dJ7_fill_d0a16_14 rfl (lv_at hl 3 rfl) ?_
  refine xa_lastS hx hb hK hP hD hS 0 1 rfl rfl (by omega) (by decide) (by decide +kernel) dJ7_fill_d0a16_15 (fun H locs hP hD hS => ?_)
  refine lv_iinc (v := nI 25) (lv' := [(3, .int (nI 25)), (4, .int (nI 25)), (0, .ref (h 228)), (1, .long (0 : Int64))]) hx hb dJ7_fill_d0a16_16 hl (k := 0) rfl (by decide +kernel) (by decide) rfl (fun ls hl => ?_)
  refine lv_goto (tgt := 6) hx hb dJ7_fill_d0a16_19 (by decide) ?_
  refine lv_iload_n hx hb dJ7_fill_d0a16_6 rfl (lv_at hl 0 rfl) ?_
  refine lv_iload hx hb dJ7_fill_d0a16_7 (lv_at hl 1 rfl) ?_
  refine lv_icmp_ge (tgt := 22) hx hb dJ7_fill_d0a16_9 (by decide) (fun _ => ?_) (fun c9 => False.elim (by revert c9; decide +kernel))
  exact xr_v hx hb hr hlocks hK hS dJ7_fill_d0a16_22 (fI, fL, fA, fQ, fG, fJ) ⟨trivial, rfl⟩ hP hD
set_option maxRecDepth 20000 in
theorem ggX5_renew_J7_fill_d0a16 : GoodIn wsX5_renew wsJ7_fill_d0a16 := goodIn_r _ [7] (by decide +kernel) (by decide +kernel)
set_option maxRecDepth 20000 in
theorem gX5_renew_J7_fill_d0a16 : GoodIn wsX5_renew (va_wsS RX5 22 yJ7_fill_d0a16 wsJ7_fill_d0a16) := goodIn_app (goodIn_of _ (by decide +kernel)) ggX5_renew_J7_fill_d0a16
theorem dX5_renew_0 : decode cX5_renew 0 = .ok (.aload_n 0, 1) := by decide +kernel
theorem dX5_renew_1 : decode cX5_renew 1 = .ok (.iload_n 1, 1) := by decide +kernel
theorem dX5_renew_2 : decode cX5_renew 2 = .ok (.putfield 11, 3) := by decide +kernel
theorem dX5_renew_5 : decode cX5_renew 5 = .ok (.aload_n 0, 1) := by decide +kernel
theorem dX5_renew_6 : decode cX5_renew 6 = .ok (.iload_n 2, 1) := by decide +kernel
theorem dX5_renew_7 : decode cX5_renew 7 = .ok (.putfield 15, 3) := by decide +kernel
theorem dX5_renew_10 : decode cX5_renew 10 = .ok (.aload_n 0, 1) := by decide +kernel
theorem dX5_renew_11 : decode cX5_renew 11 = .ok (.getfield 18, 3) := by decide +kernel
theorem dX5_renew_14 : decode cX5_renew 14 = .ok (.lconst 0, 1) := by decide +kernel
theorem dX5_renew_15 : decode cX5_renew 15 = .ok (.invokestatic 22, 3) := by decide +kernel
theorem dX5_renew_18 : decode cX5_renew 18 = .ok (.return_, 1) := by decide +kernel
set_option maxHeartbeats 4000000 in
set_option maxRecDepth 100000 in
theorem f_X5_renew0 (l : Launch) (dC : Nat → ClassId) (dI : Nat → Nat → Nat) (h : Nat → Nat) (cs : Nat → ClassId) (sz : Nat) (I : Nat → Int32) (L : Nat → Int64) (A : Nat → Nat → Int32) (Q : Nat → Nat → Int64) (G : Nat → Nat → Nat → Int32) (J : Nat → Nat → Nat → Int64) (y z : Int32) : Met l yX5_renew wsX5_renew ({ frames := 1, cells := 0, slots := 0, locals := 24 }) (va_Pc [.ref (h 110), .int y, .int z] (xPre (dC, dI) (wSh0 h cs fI fL fA fQ fG fJ) (tysA cs) sz)) (va_Qv (fun (u : CS) => ∃ i220 : Int32, ∃ i224 : Int32, (True) ∧ u = ((va_up (va_up fI 220 i220) 224 i224), fL, fA, fQ, fG, fJ)) (xB (dC, dI) (tysA cs) (va_A (wSh0 h cs fI fL fA fQ fG fJ) sz) (fun u : CS => wSh0 h cs u.1 u.2.1 u.2.2.1 u.2.2.2.1 u.2.2.2.2.1 u.2.2.2.2.2)) (va_A (wSh0 h cs fI fL fA fQ fG fJ) sz)) 0 0 (va_A (wSh0 h cs fI fL fA fQ fG fJ) sz) := by
  refine Met.ofW (cc := cX5_renew) (maxL := 3) (ret := none) (by decide) rfl ?_
  intro p e s m args below meth c s₁ B hml hv
  obtain ⟨rfl, hsz, hP, hK, hD0, hN⟩ := hv
  have hx := B.exec
  have hb := B.bytes
  have hr := B.returns
  have hts := atoms_spec (ws := wsX5_renew) B.pre
  have hown : s.vm.findClass RX5 = some m.cls := findClass_of_methodNamed B.named
  have hlocks := B.notSynchronized
  subst hsz
  have hD := hD0.self (sz := s.heap.size)
  generalize hAe : va_A (wSh0 h cs fI fL fA fQ fG fJ) s.heap.size = A0 at hD ⊢
  have hA : ∀ q : Nat, s.heap.size ≤ q → A0 q := fun q h => by rw [← hAe]; exact Or.inr h
  have hl := lv_entry ([.ref (h 110), .int y, .int z]) (n := 3) (Nat.le_of_ble_eq_true rfl)
  rw [lg_entry_eq]
  generalize (lg_sl ([.ref (h 110), .int y, .int z]) ++ List.replicate (3 - (lg_sl ([.ref (h 110), .int y, .int z])).length) Slot.unset).toArray = ls at hl ⊢
  have hl : lv_has ls 3 [(0, .ref (h 110)), (1, .int y), (2, .int z)] := hl
  generalize hH : s.heap = H at hP ⊢
  have hS : va_S A0 s.heap H [] := by rw [← hH]; exact va_S.rf
  have hinX5 : ∀ w ∈ wsX50, w ∈ wsX5_renew := by decide +kernel
  refine lv_aload_n hx hb dX5_renew_0 rfl (lv_at hl 0 rfl) ?_
  refine lv_iload_n hx hb dX5_renew_1 rfl (lv_at hl 1 rfl) ?_
  refine va_put (D := (dC, dI)) (ci := 5) (v := .int y) (ty := .int) (C := RX5) (T := TX5) (N := 3) hx hb hts hinX5 tyX5 tyX5_ok nmX5 hown hK hP hD hS 0 rfl rfl 0 (by decide) (hts (.fieldLink RX5 11 "MixedWords$Sheet" "lane" "I") (by decide +kernel)) (fun _ h9 => h9) rfl (by decide +kernel) rfl rfl (Nat.le_of_ble_eq_true rfl) dX5_renew_2 (fun H locs hP hD hS => ?_)
  have hP : va_P (dC, dI) vwCl (wSh0 h cs (va_up fI 220 y) fL fA fQ fG fJ) H := hP
  have hD : va_D A0 (wSh0 h cs (va_up fI 220 y) fL fA fQ fG fJ) := hD
  refine lv_aload_n hx hb dX5_renew_5 rfl (lv_at hl 0 rfl) ?_
  refine lv_iload_n hx hb dX5_renew_6 rfl (lv_at hl 2 rfl) ?_
  refine va_put (D := (dC, dI)) (ci := 5) (v := .int z) (ty := .int) (C := RX5) (T := TX5) (N := 3) hx hb hts hinX5 tyX5 tyX5_ok nmX5 hown hK hP hD hS 0 rfl rfl 1 (by decide) (hts (.fieldLink RX5 15 "MixedWords$Sheet" "length" "I") (by decide +kernel)) (fun _ h9 => h9) rfl (by decide +kernel) rfl rfl (Nat.le_of_ble_eq_true rfl) dX5_renew_7 (fun H locs hP hD hS => ?_)
  have hP : va_P (dC, dI) vwCl (wSh0 h cs (va_up (va_up fI 220 y) 224 z) fL fA fQ fG fJ) H := hP
  have hD : va_D A0 (wSh0 h cs (va_up (va_up fI 220 y) 224 z) fL fA fQ fG fJ) := hD
  refine lv_aload_n hx hb dX5_renew_10 rfl (lv_at hl 0 rfl) ?_
  refine va_get (D := (dC, dI)) (ci := 5) (v := .ref (h 228)) (C := RX5) (T := TX5) (N := 3) hx hb hts hinX5 hown hK hP 0 rfl rfl 2 (by decide) (hts (.fieldLink RX5 18 "MixedWords$Sheet" "items" "[J") (by decide +kernel)) (fun _ h9 => h9) rfl dX5_renew_11 ?_
  refine lv_lconst (v := 0) hx hb dX5_renew_14 rfl ?_
  refine xj_v (wc := (wD_166 h cs fI fL fA fQ fG fJ)) (wr := [(h 110, .inr (5, [.int (y), .int (z), .ref (h 228)]))]) hP hD hS hA [1] [0] rfl rfl (by decide) (by decide) (va_runS (As := [.ref (h 228), .long (0 : Int64)]) (rest := []) ⟨hx, hb, hml, hown, hts⟩ (a_J7_fill_d0a16_167 l dC dI h cs H.size fI fL fA fQ fG fJ ) (va_cwS 2 hts gX5_renew_J7_fill_d0a16 rfl rfl rfl (by decide +kernel) ⟨Nat.le_of_ble_eq_true rfl, Nat.le_of_ble_eq_true rfl⟩) (xpS (wc := (wD_166 h cs fI fL fA fQ fG fJ)) hP hD hK hN [1] rfl (by decide) _) rfl rfl hl.1 rfl (lv_room (Nat.le_of_ble_eq_true rfl)) dX5_renew_15 ⟨Nat.zero_le _, Nat.zero_le _⟩) (fun u_1 H locs hw hP hD hS => ?_)
  obtain ⟨hf_3, rfl⟩ := hw
  have hP : va_P (dC, dI) vwCl (wSh0 h cs (va_up (va_up fI 220 y) 224 z) fL fA fQ fG fJ) H := hP
  have hD : va_D A0 (wSh0 h cs (va_up (va_up fI 220 y) 224 z) fL fA fQ fG fJ) := hD
  exact xr_v hx hb hr hlocks hK hS dX5_renew_18 ((va_up (va_up fI 220 y) 224 z), fL, fA, fQ, fG, fJ) ⟨y, z, trivial, rfl⟩ hP hD
def wSh1 (h : Nat → Nat) (cs : Nat → ClassId) (I : Nat → Int32) (L : Nat → Int64) (A : Nat → Nat → Int32) (Q : Nat → Nat → Int64) (G : Nat → Nat → Nat → Int32) (J : Nat → Nat → Nat → Int64) : va_W := [(h 111, .inr (5, [.int (I 221), .int (I 225), .ref (h 229)])), (h 229, .inl (cs 1, 25, .inr (.inl (Q 229))))]
def wD_168 (h : Nat → Nat) (cs : Nat → ClassId) (I : Nat → Int32) (L : Nat → Int64) (A : Nat → Nat → Int32) (Q : Nat → Nat → Int64) (G : Nat → Nat → Nat → Int32) (J : Nat → Nat → Nat → Int64) : va_W := [(h 229, .inl (cs 1, 25, .inr (.inl (Q 229))))]
set_option maxHeartbeats 4000000 in
set_option maxRecDepth 100000 in
theorem a_J7_fill_d0a16_169 (l : Launch) (dC : Nat → ClassId) (dI : Nat → Nat → Nat) (h : Nat → Nat) (cs : Nat → ClassId) (sz : Nat) (I : Nat → Int32) (L : Nat → Int64) (A : Nat → Nat → Int32) (Q : Nat → Nat → Int64) (G : Nat → Nat → Nat → Int32) (J : Nat → Nat → Nat → Int64) : Met l yJ7_fill_d0a16 wsJ7_fill_d0a16 ({ frames := 0, cells := 0, slots := 0, locals := 0 }) (va_Pc [.ref (h 229), .long (0 : Int64)] (xPre (dC, dI) (wD_168 h cs fI fL fA fQ fG fJ) (tysA cs) sz)) (va_Qv (fun (u : CS) => (True) ∧ u = (fI, fL, fA, fQ, fG, fJ)) (xB (dC, dI) (tysA cs) (va_A (wD_168 h cs fI fL fA fQ fG fJ) sz) (fun u : CS => wD_168 h cs u.1 u.2.1 u.2.2.1 u.2.2.2.1 u.2.2.2.2.1 u.2.2.2.2.2)) (va_A (wD_168 h cs fI fL fA fQ fG fJ) sz)) 0 0 (va_A (wD_168 h cs fI fL fA fQ fG fJ) sz) := by
  refine Met.ofW (cc := cJ7_fill_d0a16) (maxL := 5) (ret := none) (by decide) rfl ?_
  intro p e s m args below meth c s₁ B hml hv
  obtain ⟨rfl, hsz, hP, hK, hD0, hN⟩ := hv
  have hx := B.exec
  have hb := B.bytes
  have hr := B.returns
  have hts := atoms_spec (ws := wsJ7_fill_d0a16) B.pre
  have hown : s.vm.findClass RJ7 = some m.cls := findClass_of_methodNamed B.named
  have hlocks := B.notSynchronized
  subst hsz
  have hD := hD0.self (sz := s.heap.size)
  generalize hAe : va_A (wD_168 h cs fI fL fA fQ fG fJ) s.heap.size = A0 at hD ⊢
  have hA : ∀ q : Nat, s.heap.size ≤ q → A0 q := fun q h => by rw [← hAe]; exact Or.inr h
  have hl := lv_entry ([.ref (h 229), .long (0 : Int64)]) (n := 5) (Nat.le_of_ble_eq_true rfl)
  rw [lg_entry_eq]
  generalize (lg_sl ([.ref (h 229), .long (0 : Int64)]) ++ List.replicate (5 - (lg_sl ([.ref (h 229), .long (0 : Int64)])).length) Slot.unset).toArray = ls at hl ⊢
  have hl : lv_has ls 5 [(0, .ref (h 229)), (1, .long (0 : Int64))] := hl
  generalize hH : s.heap = H at hP ⊢
  have hS : va_S A0 s.heap H [] := by rw [← hH]; exact va_S.rf
  refine lv_iconst (v := nI 0) hx hb dJ7_fill_d0a16_0 (by decide) ?_
  refine lv_istore_n (lv' := [(3, .int (nI 0)), (0, .ref (h 229)), (1, .long (0 : Int64))]) hx hb dJ7_fill_d0a16_1 rfl hl (by decide) rfl (fun ls hl => ?_)
  refine lv_aload_n hx hb dJ7_fill_d0a16_2 rfl (lv_at hl 1 rfl) ?_
  refine xa_alen hx hb hK hP 0 1 rfl rfl (n := 25) rfl dJ7_fill_d0a16_3 ?_
  refine lv_istore (lv' := [(4, .int (nI 25)), (3, .int (nI 0)), (0, .ref (h 229)), (1, .long (0 : Int64))]) hx hb dJ7_fill_d0a16_4 hl (by decide) rfl (fun ls hl => ?_)
  refine lv_iload_n hx hb dJ7_fill_d0a16_6 rfl (lv_at hl 1 rfl) ?_
  refine lv_iload hx hb dJ7_fill_d0a16_7 (lv_at hl 0 rfl) ?_
  refine lv_icmp_ge (tgt := 22) hx hb dJ7_fill_d0a16_9 (by decide) (fun c9 => False.elim (by revert c9; decide +kernel)) (fun _ => ?_)
  refine lv_aload_n hx hb dJ7_fill_d0a16_12 rfl (lv_at hl 2 rfl) ?_
  refine lv_iload_n hx hb dJ7_fill_d0a16_13 rfl (lv_at hl 1 rfl) ?_
  refine lv_lload_n hx hb dJ7_fill_d0a16_14 rfl (lv_at hl 3 rfl) ?_
  refine xa_lastS hx hb hK hP hD hS 0 1 rfl rfl (by omega) (by decide) (by decide +kernel) dJ7_fill_d0a16_15 (fun H locs hP hD hS => ?_)
  refine lv_iinc (v := nI 1) (lv' := [(3, .int (nI 1)), (4, .int (nI 25)), (0, .ref (h 229)), (1, .long (0 : Int64))]) hx hb dJ7_fill_d0a16_16 hl (k := 1) rfl (by decide +kernel) (by decide) rfl (fun ls hl => ?_)
  refine lv_goto (tgt := 6) hx hb dJ7_fill_d0a16_19 (by decide) ?_
  refine lv_iload_n hx hb dJ7_fill_d0a16_6 rfl (lv_at hl 0 rfl) ?_
  refine lv_iload hx hb dJ7_fill_d0a16_7 (lv_at hl 1 rfl) ?_
  refine lv_icmp_ge (tgt := 22) hx hb dJ7_fill_d0a16_9 (by decide) (fun c9 => False.elim (by revert c9; decide +kernel)) (fun _ => ?_)
  refine lv_aload_n hx hb dJ7_fill_d0a16_12 rfl (lv_at hl 2 rfl) ?_
  refine lv_iload_n hx hb dJ7_fill_d0a16_13 rfl (lv_at hl 0 rfl) ?_
  refine lv_lload_n hx hb dJ7_fill_d0a16_14 rfl (lv_at hl 3 rfl) ?_
  refine xa_lastS hx hb hK hP hD hS 0 1 rfl rfl (by omega) (by decide) (by decide +kernel) dJ7_fill_d0a16_15 (fun H locs hP hD hS => ?_)
  refine lv_iinc (v := nI 2) (lv' := [(3, .int (nI 2)), (4, .int (nI 25)), (0, .ref (h 229)), (1, .long (0 : Int64))]) hx hb dJ7_fill_d0a16_16 hl (k := 0) rfl (by decide +kernel) (by decide) rfl (fun ls hl => ?_)
  refine lv_goto (tgt := 6) hx hb dJ7_fill_d0a16_19 (by decide) ?_
  refine lv_iload_n hx hb dJ7_fill_d0a16_6 rfl (lv_at hl 0 rfl) ?_
  refine lv_iload hx hb dJ7_fill_d0a16_7 (lv_at hl 1 rfl) ?_
  refine lv_icmp_ge (tgt := 22) hx hb dJ7_fill_d0a16_9 (by decide) (fun c9 => False.elim (by revert c9; decide +kernel)) (fun _ => ?_)
  refine lv_aload_n hx hb dJ7_fill_d0a16_12 rfl (lv_at hl 2 rfl) ?_
  refine lv_iload_n hx hb dJ7_fill_d0a16_13 rfl (lv_at hl 0 rfl) ?_
  refine lv_lload_n hx hb dJ7_fill_d0a16_14 rfl (lv_at hl 3 rfl) ?_
  refine xa_lastS hx hb hK hP hD hS 0 1 rfl rfl (by omega) (by decide) (by decide +kernel) dJ7_fill_d0a16_15 (fun H locs hP hD hS => ?_)
  refine lv_iinc (v := nI 3) (lv' := [(3, .int (nI 3)), (4, .int (nI 25)), (0, .ref (h 229)), (1, .long (0 : Int64))]) hx hb dJ7_fill_d0a16_16 hl (k := 0) rfl (by decide +kernel) (by decide) rfl (fun ls hl => ?_)
  refine lv_goto (tgt := 6) hx hb dJ7_fill_d0a16_19 (by decide) ?_
  refine lv_iload_n hx hb dJ7_fill_d0a16_6 rfl (lv_at hl 0 rfl) ?_
  refine lv_iload hx hb dJ7_fill_d0a16_7 (lv_at hl 1 rfl) ?_
  refine lv_icmp_ge (tgt := 22) hx hb dJ7_fill_d0a16_9 (by decide) (fun c9 => False.elim (by revert c9; decide +kernel)) (fun _ => ?_)
  refine lv_aload_n hx hb dJ7_fill_d0a16_12 rfl (lv_at hl 2 rfl) ?_
  refine lv_iload_n hx hb dJ7_fill_d0a16_13 rfl (lv_at hl 0 rfl) ?_
  refine lv_lload_n hx hb dJ7_fill_d0a16_14 rfl (lv_at hl 3 rfl) ?_
  refine xa_lastS hx hb hK hP hD hS 0 1 rfl rfl (by omega) (by decide) (by decide +kernel) dJ7_fill_d0a16_15 (fun H locs hP hD hS => ?_)
  refine lv_iinc (v := nI 4) (lv' := [(3, .int (nI 4)), (4, .int (nI 25)), (0, .ref (h 229)), (1, .long (0 : Int64))]) hx hb dJ7_fill_d0a16_16 hl (k := 0) rfl (by decide +kernel) (by decide) rfl (fun ls hl => ?_)
  refine lv_goto (tgt := 6) hx hb dJ7_fill_d0a16_19 (by decide) ?_
  refine lv_iload_n hx hb dJ7_fill_d0a16_6 rfl (lv_at hl 0 rfl) ?_
  refine lv_iload hx hb dJ7_fill_d0a16_7 (lv_at hl 1 rfl) ?_
  refine lv_icmp_ge (tgt := 22) hx hb dJ7_fill_d0a16_9 (by decide) (fun c9 => False.elim (by revert c9; decide +kernel)) (fun _ => ?_)
  refine lv_aload_n hx hb dJ7_fill_d0a16_12 rfl (lv_at hl 2 rfl) ?_
  refine lv_iload_n hx hb dJ7_fill_d0a16_13 rfl (lv_at hl 0 rfl) ?_
  refine lv_lload_n hx hb dJ7_fill_d0a16_14 rfl (lv_at hl 3 rfl) ?_
  refine xa_lastS hx hb hK hP hD hS 0 1 rfl rfl (by omega) (by decide) (by decide +kernel) dJ7_fill_d0a16_15 (fun H locs hP hD hS => ?_)
  refine lv_iinc (v := nI 5) (lv' := [(3, .int (nI 5)), (4, .int (nI 25)), (0, .ref (h 229)), (1, .long (0 : Int64))]) hx hb dJ7_fill_d0a16_16 hl (k := 0) rfl (by decide +kernel) (by decide) rfl (fun ls hl => ?_)
  refine lv_goto (tgt := 6) hx hb dJ7_fill_d0a16_19 (by decide) ?_
  refine lv_iload_n hx hb dJ7_fill_d0a16_6 rfl (lv_at hl 0 rfl) ?_
  refine lv_iload hx hb dJ7_fill_d0a16_7 (lv_at hl 1 rfl) ?_
  refine lv_icmp_ge (tgt := 22) hx hb dJ7_fill_d0a16_9 (by decide) (fun c9 => False.elim (by revert c9; decide +kernel)) (fun _ => ?_)
  refine lv_aload_n hx hb dJ7_fill_d0a16_12 rfl (lv_at hl 2 rfl) ?_
  refine lv_iload_n hx hb dJ7_fill_d0a16_13 rfl (lv_at hl 0 rfl) ?_
  refine lv_lload_n hx hb dJ7_fill_d0a16_14 rfl (lv_at hl 3 rfl) ?_
  refine xa_lastS hx hb hK hP hD hS 0 1 rfl rfl (by omega) (by decide) (by decide +kernel) dJ7_fill_d0a16_15 (fun H locs hP hD hS => ?_)
  refine lv_iinc (v := nI 6) (lv' := [(3, .int (nI 6)), (4, .int (nI 25)), (0, .ref (h 229)), (1, .long (0 : Int64))]) hx hb dJ7_fill_d0a16_16 hl (k := 0) rfl (by decide +kernel) (by decide) rfl (fun ls hl => ?_)
  refine lv_goto (tgt := 6) hx hb dJ7_fill_d0a16_19 (by decide) ?_
  refine lv_iload_n hx hb dJ7_fill_d0a16_6 rfl (lv_at hl 0 rfl) ?_
  refine lv_iload hx hb dJ7_fill_d0a16_7 (lv_at hl 1 rfl) ?_
  refine lv_icmp_ge (tgt := 22) hx hb dJ7_fill_d0a16_9 (by decide) (fun c9 => False.elim (by revert c9; decide +kernel)) (fun _ => ?_)
  refine lv_aload_n hx hb dJ7_fill_d0a16_12 rfl (lv_at hl 2 rfl) ?_
  refine lv_iload_n hx hb dJ7_fill_d0a16_13 rfl (lv_at hl 0 rfl) ?_
  refine lv_lload_n hx hb dJ7_fill_d0a16_14 rfl (lv_at hl 3 rfl) ?_
  refine xa_lastS hx hb hK hP hD hS 0 1 rfl rfl (by omega) (by decide) (by decide +kernel) dJ7_fill_d0a16_15 (fun H locs hP hD hS => ?_)
  refine lv_iinc (v := nI 7) (lv' := [(3, .int (nI 7)), (4, .int (nI 25)), (0, .ref (h 229)), (1, .long (0 : Int64))]) hx hb dJ7_fill_d0a16_16 hl (k := 0) rfl (by decide +kernel) (by decide) rfl (fun ls hl => ?_)
  refine lv_goto (tgt := 6) hx hb dJ7_fill_d0a16_19 (by decide) ?_
  refine lv_iload_n hx hb dJ7_fill_d0a16_6 rfl (lv_at hl 0 rfl) ?_
  refine lv_iload hx hb dJ7_fill_d0a16_7 (lv_at hl 1 rfl) ?_
  refine lv_icmp_ge (tgt := 22) hx hb dJ7_fill_d0a16_9 (by decide) (fun c9 => False.elim (by revert c9; decide +kernel)) (fun _ => ?_)
  refine lv_aload_n hx hb dJ7_fill_d0a16_12 rfl (lv_at hl 2 rfl) ?_
  refine lv_iload_n hx hb dJ7_fill_d0a16_13 rfl (lv_at hl 0 rfl) ?_
  refine lv_lload_n hx hb dJ7_fill_d0a16_14 rfl (lv_at hl 3 rfl) ?_
  refine xa_lastS hx hb hK hP hD hS 0 1 rfl rfl (by omega) (by decide) (by decide +kernel) dJ7_fill_d0a16_15 (fun H locs hP hD hS => ?_)
  refine lv_iinc (v := nI 8) (lv' := [(3, .int (nI 8)), (4, .int (nI 25)), (0, .ref (h 229)), (1, .long (0 : Int64))]) hx hb dJ7_fill_d0a16_16 hl (k := 0) rfl (by decide +kernel) (by decide) rfl (fun ls hl => ?_)
  refine lv_goto (tgt := 6) hx hb dJ7_fill_d0a16_19 (by decide) ?_
  refine lv_iload_n hx hb dJ7_fill_d0a16_6 rfl (lv_at hl 0 rfl) ?_
  refine lv_iload hx hb dJ7_fill_d0a16_7 (lv_at hl 1 rfl) ?_
  refine lv_icmp_ge (tgt := 22) hx hb dJ7_fill_d0a16_9 (by decide) (fun c9 => False.elim (by revert c9; decide +kernel)) (fun _ => ?_)
  refine lv_aload_n hx hb dJ7_fill_d0a16_12 rfl (lv_at hl 2 rfl) ?_
  refine lv_iload_n hx hb dJ7_fill_d0a16_13 rfl (lv_at hl 0 rfl) ?_
  refine lv_lload_n hx hb dJ7_fill_d0a16_14 rfl (lv_at hl 3 rfl) ?_
  refine xa_lastS hx hb hK hP hD hS 0 1 rfl rfl (by omega) (by decide) (by decide +kernel) dJ7_fill_d0a16_15 (fun H locs hP hD hS => ?_)
  refine lv_iinc (v := nI 9) (lv' := [(3, .int (nI 9)), (4, .int (nI 25)), (0, .ref (h 229)), (1, .long (0 : Int64))]) hx hb dJ7_fill_d0a16_16 hl (k := 0) rfl (by decide +kernel) (by decide) rfl (fun ls hl => ?_)
  refine lv_goto (tgt := 6) hx hb dJ7_fill_d0a16_19 (by decide) ?_
  refine lv_iload_n hx hb dJ7_fill_d0a16_6 rfl (lv_at hl 0 rfl) ?_
  refine lv_iload hx hb dJ7_fill_d0a16_7 (lv_at hl 1 rfl) ?_
  refine lv_icmp_ge (tgt := 22) hx hb dJ7_fill_d0a16_9 (by decide) (fun c9 => False.elim (by revert c9; decide +kernel)) (fun _ => ?_)
  refine lv_aload_n hx hb dJ7_fill_d0a16_12 rfl (lv_at hl 2 rfl) ?_
  refine lv_iload_n hx hb dJ7_fill_d0a16_13 rfl (lv_at hl 0 rfl) ?_
  refine lv_lload_n hx hb dJ7_fill_d0a16_14 rfl (lv_at hl 3 rfl) ?_
  refine xa_lastS hx hb hK hP hD hS 0 1 rfl rfl (by omega) (by decide) (by decide +kernel) dJ7_fill_d0a16_15 (fun H locs hP hD hS => ?_)
  refine lv_iinc (v := nI 10) (lv' := [(3, .int (nI 10)), (4, .int (nI 25)), (0, .ref (h 229)), (1, .long (0 : Int64))]) hx hb dJ7_fill_d0a16_16 hl (k := 0) rfl (by decide +kernel) (by decide) rfl (fun ls hl => ?_)
  refine lv_goto (tgt := 6) hx hb dJ7_fill_d0a16_19 (by decide) ?_
  refine lv_iload_n hx hb dJ7_fill_d0a16_6 rfl (lv_at hl 0 rfl) ?_
  refine lv_iload hx hb dJ7_fill_d0a16_7 (lv_at hl 1 rfl) ?_
  refine lv_icmp_ge (tgt := 22) hx hb dJ7_fill_d0a16_9 (by decide) (fun c9 => False.elim (by revert c9; decide +kernel)) (fun _ => ?_)
  refine lv_aload_n hx hb dJ7_fill_d0a16_12 rfl (lv_at hl 2 rfl) ?_
  refine lv_iload_n hx hb dJ7_fill_d0a16_13 rfl (lv_at hl 0 rfl) ?_
  refine lv_lload_n hx hb dJ7_fill_d0a16_14 rfl (lv_at hl 3 rfl) ?_
  refine xa_lastS hx hb hK hP hD hS 0 1 rfl rfl (by omega) (by decide) (by decide +kernel) dJ7_fill_d0a16_15 (fun H locs hP hD hS => ?_)
  refine lv_iinc (v := nI 11) (lv' := [(3, .int (nI 11)), (4, .int (nI 25)), (0, .ref (h 229)), (1, .long (0 : Int64))]) hx hb dJ7_fill_d0a16_16 hl (k := 0) rfl (by decide +kernel) (by decide) rfl (fun ls hl => ?_)
  refine lv_goto (tgt := 6) hx hb dJ7_fill_d0a16_19 (by decide) ?_
  refine lv_iload_n hx hb dJ7_fill_d0a16_6 rfl (lv_at hl 0 rfl) ?_
  refine lv_iload hx hb dJ7_fill_d0a16_7 (lv_at hl 1 rfl) ?_
  refine lv_icmp_ge (tgt := 22) hx hb dJ7_fill_d0a16_9 (by decide) (fun c9 => False.elim (by revert c9; decide +kernel)) (fun _ => ?_)
  refine lv_aload_n hx hb dJ7_fill_d0a16_12 rfl (lv_at hl 2 rfl) ?_
  refine lv_iload_n hx hb dJ7_fill_d0a16_13 rfl (lv_at hl 0 rfl) ?_
  refine lv_lload_n hx hb dJ7_fill_d0a16_14 rfl (lv_at hl 3 rfl) ?_
  refine xa_lastS hx hb hK hP hD hS 0 1 rfl rfl (by omega) (by decide) (by decide +kernel) dJ7_fill_d0a16_15 (fun H locs hP hD hS => ?_)
  refine lv_iinc (v := nI 12) (lv' := [(3, .int (nI 12)), (4, .int (nI 25)), (0, .ref (h 229)), (1, .long (0 : Int64))]) hx hb dJ7_fill_d0a16_16 hl (k := 0) rfl (by decide +kernel) (by decide) rfl (fun ls hl => ?_)
  refine lv_goto (tgt := 6) hx hb dJ7_fill_d0a16_19 (by decide) ?_
  refine lv_iload_n hx hb dJ7_fill_d0a16_6 rfl (lv_at hl 0 rfl) ?_
  refine lv_iload hx hb dJ7_fill_d0a16_7 (lv_at hl 1 rfl) ?_
  refine lv_icmp_ge (tgt := 22) hx hb dJ7_fill_d0a16_9 (by decide) (fun c9 => False.elim (by revert c9; decide +kernel)) (fun _ => ?_)
  refine lv_aload_n hx hb dJ7_fill_d0a16_12 rfl (lv_at hl 2 rfl) ?_
  refine lv_iload_n hx hb dJ7_fill_d0a16_13 rfl (lv_at hl 0 rfl) ?_
  refine lv_lload_n hx hb dJ7_fill_d0a16_14 rfl (lv_at hl 3 rfl) ?_
  refine xa_lastS hx hb hK hP hD hS 0 1 rfl rfl (by omega) (by decide) (by decide +kernel) dJ7_fill_d0a16_15 (fun H locs hP hD hS => ?_)
  refine lv_iinc (v := nI 13) (lv' := [(3, .int (nI 13)), (4, .int (nI 25)), (0, .ref (h 229)), (1, .long (0 : Int64))]) hx hb dJ7_fill_d0a16_16 hl (k := 0) rfl (by decide +kernel) (by decide) rfl (fun ls hl => ?_)
  refine lv_goto (tgt := 6) hx hb dJ7_fill_d0a16_19 (by decide) ?_
  refine lv_iload_n hx hb dJ7_fill_d0a16_6 rfl (lv_at hl 0 rfl) ?_
  refine lv_iload hx hb dJ7_fill_d0a16_7 (lv_at hl 1 rfl) ?_
  refine lv_icmp_ge (tgt := 22) hx hb dJ7_fill_d0a16_9 (by decide) (fun c9 => False.elim (by revert c9; decide +kernel)) (fun _ => ?_)
  refine lv_aload_n hx hb dJ7_fill_d0a16_12 rfl (lv_at hl 2 rfl) ?_
  refine lv_iload_n hx hb dJ7_fill_d0a16_13 rfl (lv_at hl 0 rfl) ?_
  refine lv_lload_n hx hb dJ7_fill_d0a16_14 rfl (lv_at hl 3 rfl) ?_
  refine xa_lastS hx hb hK hP hD hS 0 1 rfl rfl (by omega) (by decide) (by decide +kernel) dJ7_fill_d0a16_15 (fun H locs hP hD hS => ?_)
  refine lv_iinc (v := nI 14) (lv' := [(3, .int (nI 14)), (4, .int (nI 25)), (0, .ref (h 229)), (1, .long (0 : Int64))]) hx hb dJ7_fill_d0a16_16 hl (k := 0) rfl (by decide +kernel) (by decide) rfl (fun ls hl => ?_)
  refine lv_goto (tgt := 6) hx hb dJ7_fill_d0a16_19 (by decide) ?_
  refine lv_iload_n hx hb dJ7_fill_d0a16_6 rfl (lv_at hl 0 rfl) ?_
  refine lv_iload hx hb dJ7_fill_d0a16_7 (lv_at hl 1 rfl) ?_
  refine lv_icmp_ge (tgt := 22) hx hb dJ7_fill_d0a16_9 (by decide) (fun c9 => False.elim (by revert c9; decide +kernel)) (fun _ => ?_)
  refine lv_aload_n hx hb dJ7_fill_d0a16_12 rfl (lv_at hl 2 rfl) ?_
  refine lv_iload_n hx hb dJ7_fill_d0a16_13 rfl (lv_at hl 0 rfl) ?_
  refine lv_lload_n hx hb dJ7_fill_d0a16_14 rfl (lv_at hl 3 rfl) ?_
  refine xa_lastS hx hb hK hP hD hS 0 1 rfl rfl (by omega) (by decide) (by decide +kernel) dJ7_fill_d0a16_15 (fun H locs hP hD hS => ?_)
  refine lv_iinc (v := nI 15) (lv' := [(3, .int (nI 15)), (4, .int (nI 25)), (0, .ref (h 229)), (1, .long (0 : Int64))]) hx hb dJ7_fill_d0a16_16 hl (k := 0) rfl (by decide +kernel) (by decide) rfl (fun ls hl => ?_)
  refine lv_goto (tgt := 6) hx hb dJ7_fill_d0a16_19 (by decide) ?_
  refine lv_iload_n hx hb dJ7_fill_d0a16_6 rfl (lv_at hl 0 rfl) ?_
  refine lv_iload hx hb dJ7_fill_d0a16_7 (lv_at hl 1 rfl) ?_
  refine lv_icmp_ge (tgt := 22) hx hb dJ7_fill_d0a16_9 (by decide) (fun c9 => False.elim (by revert c9; decide +kernel)) (fun _ => ?_)
  refine lv_aload_n hx hb dJ7_fill_d0a16_12 rfl (lv_at hl 2 rfl) ?_
  refine lv_iload_n hx hb dJ7_fill_d0a16_13 rfl (lv_at hl 0 rfl) ?_
  refine lv_lload_n hx hb dJ7_fill_d0a16_14 rfl (lv_at hl 3 rfl) ?_
  refine xa_lastS hx hb hK hP hD hS 0 1 rfl rfl (by omega) (by decide) (by decide +kernel) dJ7_fill_d0a16_15 (fun H locs hP hD hS => ?_)
  refine lv_iinc (v := nI 16) (lv' := [(3, .int (nI 16)), (4, .int (nI 25)), (0, .ref (h 229)), (1, .long (0 : Int64))]) hx hb dJ7_fill_d0a16_16 hl (k := 0) rfl (by decide +kernel) (by decide) rfl (fun ls hl => ?_)
  refine lv_goto (tgt := 6) hx hb dJ7_fill_d0a16_19 (by decide) ?_
  refine lv_iload_n hx hb dJ7_fill_d0a16_6 rfl (lv_at hl 0 rfl) ?_
  refine lv_iload hx hb dJ7_fill_d0a16_7 (lv_at hl 1 rfl) ?_
  refine lv_icmp_ge (tgt := 22) hx hb dJ7_fill_d0a16_9 (by decide) (fun c9 => False.elim (by revert c9; decide +kernel)) (fun _ => ?_)
  refine lv_aload_n hx hb dJ7_fill_d0a16_12 rfl (lv_at hl 2 rfl) ?_
  refine lv_iload_n hx hb dJ7_fill_d0a16_13 rfl (lv_at hl 0 rfl) ?_
  refine lv_lload_n hx hb dJ7_fill_d0a16_14 rfl (lv_at hl 3 rfl) ?_
  refine xa_lastS hx hb hK hP hD hS 0 1 rfl rfl (by omega) (by decide) (by decide +kernel) dJ7_fill_d0a16_15 (fun H locs hP hD hS => ?_)
  refine lv_iinc (v := nI 17) (lv' := [(3, .int (nI 17)), (4, .int (nI 25)), (0, .ref (h 229)), (1, .long (0 : Int64))]) hx hb dJ7_fill_d0a16_16 hl (k := 0) rfl (by decide +kernel) (by decide) rfl (fun ls hl => ?_)
  refine lv_goto (tgt := 6) hx hb dJ7_fill_d0a16_19 (by decide) ?_
  refine lv_iload_n hx hb dJ7_fill_d0a16_6 rfl (lv_at hl 0 rfl) ?_
  refine lv_iload hx hb dJ7_fill_d0a16_7 (lv_at hl 1 rfl) ?_
  refine lv_icmp_ge (tgt := 22) hx hb dJ7_fill_d0a16_9 (by decide) (fun c9 => False.elim (by revert c9; decide +kernel)) (fun _ => ?_)
  refine lv_aload_n hx hb dJ7_fill_d0a16_12 rfl (lv_at hl 2 rfl) ?_
  refine lv_iload_n hx hb dJ7_fill_d0a16_13 rfl (lv_at hl 0 rfl) ?_
  refine lv_lload_n hx hb dJ7_fill_d0a16_14 rfl (lv_at hl 3 rfl) ?_
  refine xa_lastS hx hb hK hP hD hS 0 1 rfl rfl (by omega) (by decide) (by decide +kernel) dJ7_fill_d0a16_15 (fun H locs hP hD hS => ?_)
  refine lv_iinc (v := nI 18) (lv' := [(3, .int (nI 18)), (4, .int (nI 25)), (0, .ref (h 229)), (1, .long (0 : Int64))]) hx hb dJ7_fill_d0a16_16 hl (k := 0) rfl (by decide +kernel) (by decide) rfl (fun ls hl => ?_)
  refine lv_goto (tgt := 6) hx hb dJ7_fill_d0a16_19 (by decide) ?_
  refine lv_iload_n hx hb dJ7_fill_d0a16_6 rfl (lv_at hl 0 rfl) ?_
  refine lv_iload hx hb dJ7_fill_d0a16_7 (lv_at hl 1 rfl) ?_
  refine lv_icmp_ge (tgt := 22) hx hb dJ7_fill_d0a16_9 (by decide) (fun c9 => False.elim (by revert c9; decide +kernel)) (fun _ => ?_)
  refine lv_aload_n hx hb dJ7_fill_d0a16_12 rfl (lv_at hl 2 rfl) ?_
  refine lv_iload_n hx hb dJ7_fill_d0a16_13 rfl (lv_at hl 0 rfl) ?_
  refine lv_lload_n hx hb dJ7_fill_d0a16_14 rfl (lv_at hl 3 rfl) ?_
  refine xa_lastS hx hb hK hP hD hS 0 1 rfl rfl (by omega) (by decide) (by decide +kernel) dJ7_fill_d0a16_15 (fun H locs hP hD hS => ?_)
  refine lv_iinc (v := nI 19) (lv' := [(3, .int (nI 19)), (4, .int (nI 25)), (0, .ref (h 229)), (1, .long (0 : Int64))]) hx hb dJ7_fill_d0a16_16 hl (k := 0) rfl (by decide +kernel) (by decide) rfl (fun ls hl => ?_)
  refine lv_goto (tgt := 6) hx hb dJ7_fill_d0a16_19 (by decide) ?_
  refine lv_iload_n hx hb dJ7_fill_d0a16_6 rfl (lv_at hl 0 rfl) ?_
  refine lv_iload hx hb dJ7_fill_d0a16_7 (lv_at hl 1 rfl) ?_
  refine lv_icmp_ge (tgt := 22) hx hb dJ7_fill_d0a16_9 (by decide) (fun c9 => False.elim (by revert c9; decide +kernel)) (fun _ => ?_)
  refine lv_aload_n hx hb dJ7_fill_d0a16_12 rfl (lv_at hl 2 rfl) ?_
  refine lv_iload_n hx hb dJ7_fill_d0a16_13 rfl (lv_at hl 0 rfl) ?_
  refine lv_lload_n hx hb dJ7_fill_d0a16_14 rfl (lv_at hl 3 rfl) ?_
  refine xa_lastS hx hb hK hP hD hS 0 1 rfl rfl (by omega) (by decide) (by decide +kernel) dJ7_fill_d0a16_15 (fun H locs hP hD hS => ?_)
  refine lv_iinc (v := nI 20) (lv' := [(3, .int (nI 20)), (4, .int (nI 25)), (0, .ref (h 229)), (1, .long (0 : Int64))]) hx hb dJ7_fill_d0a16_16 hl (k := 0) rfl (by decide +kernel) (by decide) rfl (fun ls hl => ?_)
  refine lv_goto (tgt := 6) hx hb dJ7_fill_d0a16_19 (by decide) ?_
  refine lv_iload_n hx hb dJ7_fill_d0a16_6 rfl (lv_at hl 0 rfl) ?_
  refine lv_iload hx hb dJ7_fill_d0a16_7 (lv_at hl 1 rfl) ?_
  refine lv_icmp_ge (tgt := 22) hx hb dJ7_fill_d0a16_9 (by decide) (fun c9 => False.elim (by revert c9; decide +kernel)) (fun _ => ?_)
  refine lv_aload_n hx hb dJ7_fill_d0a16_12 rfl (lv_at hl 2 rfl) ?_
  refine lv_iload_n hx hb dJ7_fill_d0a16_13 rfl (lv_at hl 0 rfl) ?_
  refine lv_lload_n hx hb dJ7_fill_d0a16_14 rfl (lv_at hl 3 rfl) ?_
  refine xa_lastS hx hb hK hP hD hS 0 1 rfl rfl (by omega) (by decide) (by decide +kernel) dJ7_fill_d0a16_15 (fun H locs hP hD hS => ?_)
  refine lv_iinc (v := nI 21) (lv' := [(3, .int (nI 21)), (4, .int (nI 25)), (0, .ref (h 229)), (1, .long (0 : Int64))]) hx hb dJ7_fill_d0a16_16 hl (k := 0) rfl (by decide +kernel) (by decide) rfl (fun ls hl => ?_)
  refine lv_goto (tgt := 6) hx hb dJ7_fill_d0a16_19 (by decide) ?_
  refine lv_iload_n hx hb dJ7_fill_d0a16_6 rfl (lv_at hl 0 rfl) ?_
  refine lv_iload hx hb dJ7_fill_d0a16_7 (lv_at hl 1 rfl) ?_
  refine lv_icmp_ge (tgt := 22) hx hb dJ7_fill_d0a16_9 (by decide) (fun c9 => False.elim (by revert c9; decide +kernel)) (fun _ => ?_)
  refine lv_aload_n hx hb dJ7_fill_d0a16_12 rfl (lv_at hl 2 rfl) ?_
  refine lv_iload_n hx hb dJ7_fill_d0a16_13 rfl (lv_at hl 0 rfl) ?_
  refine lv_lload_n hx hb dJ7_fill_d0a16_14 rfl (lv_at hl 3 rfl) ?_
  refine xa_lastS hx hb hK hP hD hS 0 1 rfl rfl (by omega) (by decide) (by decide +kernel) dJ7_fill_d0a16_15 (fun H locs hP hD hS => ?_)
  refine lv_iinc (v := nI 22) (lv' := [(3, .int (nI 22)), (4, .int (nI 25)), (0, .ref (h 229)), (1, .long (0 : Int64))]) hx hb dJ7_fill_d0a16_16 hl (k := 0) rfl (by decide +kernel) (by decide) rfl (fun ls hl => ?_)
  refine lv_goto (tgt := 6) hx hb dJ7_fill_d0a16_19 (by decide) ?_
  refine lv_iload_n hx hb dJ7_fill_d0a16_6 rfl (lv_at hl 0 rfl) ?_
  refine lv_iload hx hb dJ7_fill_d0a16_7 (lv_at hl 1 rfl) ?_
  refine lv_icmp_ge (tgt := 22) hx hb dJ7_fill_d0a16_9 (by decide) (fun c9 => False.elim (by revert c9; decide +kernel)) (fun _ => ?_)
  refine lv_aload_n hx hb dJ7_fill_d0a16_12 rfl (lv_at hl 2 rfl) ?_
  refine lv_iload_n hx hb dJ7_fill_d0a16_13 rfl (lv_at hl 0 rfl) ?_
  refine lv_lload_n hx hb dJ7_fill_d0a16_14 rfl (lv_at hl 3 rfl) ?_
  refine xa_lastS hx hb hK hP hD hS 0 1 rfl rfl (by omega) (by decide) (by decide +kernel) dJ7_fill_d0a16_15 (fun H locs hP hD hS => ?_)
  refine lv_iinc (v := nI 23) (lv' := [(3, .int (nI 23)), (4, .int (nI 25)), (0, .ref (h 229)), (1, .long (0 : Int64))]) hx hb dJ7_fill_d0a16_16 hl (k := 0) rfl (by decide +kernel) (by decide) rfl (fun ls hl => ?_)
  refine lv_goto (tgt := 6) hx hb dJ7_fill_d0a16_19 (by decide) ?_
  refine lv_iload_n hx hb dJ7_fill_d0a16_6 rfl (lv_at hl 0 rfl) ?_
  refine lv_iload hx hb dJ7_fill_d0a16_7 (lv_at hl 1 rfl) ?_
  refine lv_icmp_ge (tgt := 22) hx hb dJ7_fill_d0a16_9 (by decide) (fun c9 => False.elim (by revert c9; decide +kernel)) (fun _ => ?_)
  refine lv_aload_n hx hb dJ7_fill_d0a16_12 rfl (lv_at hl 2 rfl) ?_
  refine lv_iload_n hx hb dJ7_fill_d0a16_13 rfl (lv_at hl 0 rfl) ?_
  refine lv_lload_n hx hb dJ7_fill_d0a16_14 rfl (lv_at hl 3 rfl) ?_
  refine xa_lastS hx hb hK hP hD hS 0 1 rfl rfl (by omega) (by decide) (by decide +kernel) dJ7_fill_d0a16_15 (fun H locs hP hD hS => ?_)
  refine lv_iinc (v := nI 24) (lv' := [(3, .int (nI 24)), (4, .int (nI 25)), (0, .ref (h 229)), (1, .long (0 : Int64))]) hx hb dJ7_fill_d0a16_16 hl (k := 0) rfl (by decide +kernel) (by decide) rfl (fun ls hl => ?_)
  refine lv_goto (tgt := 6) hx hb dJ7_fill_d0a16_19 (by decide) ?_
  refine lv_iload_n hx hb dJ7_fill_d0a16_6 rfl (lv_at hl 0 rfl) ?_
  refine lv_iload hx hb dJ7_fill_d0a16_7 (lv_at hl 1 rfl) ?_
  refine lv_icmp_ge (tgt := 22) hx hb dJ7_fill_d0a16_9 (by decide) (fun c9 => False.elim (by revert c9; decide +kernel)) (fun _ => ?_)
  refine lv_aload_n hx hb dJ7_fill_d0a16_12 rfl (lv_at hl 2 rfl) ?_
  refine lv_iload_n hx hb dJ7_fill_d0a16_13 rfl (lv_at hl 0 rfl) ?_
  refine lv_lload_n hx hb dJ7_fill_d0a16_14 rfl (lv_at hl 3 rfl) ?_
  refine xa_lastS hx hb hK hP hD hS 0 1 rfl rfl (by omega) (by decide) (by decide +kernel) dJ7_fill_d0a16_15 (fun H locs hP hD hS => ?_)
  refine lv_iinc (v := nI 25) (lv' := [(3, .int (nI 25)), (4, .int (nI 25)), (0, .ref (h 229)), (1, .long (0 : Int64))]) hx hb dJ7_fill_d0a16_16 hl (k := 0) rfl (by decide +kernel) (by decide) rfl (fun ls hl => ?_)
  refine lv_goto (tgt := 6) hx hb dJ7_fill_d0a16_19 (by decide) ?_
  refine lv_iload_n hx hb dJ7_fill_d0a16_6 rfl (lv_at hl 0 rfl) ?_
  refine lv_iload hx hb dJ7_fill_d0a16_7 (lv_at hl 1 rfl) ?_
  refine lv_icmp_ge (tgt := 22) hx hb dJ7_fill_d0a16_9 (by decide) (fun _ => ?_) (fun c9 => False.elim (by revert c9; decide +kernel))
  exact xr_v hx hb hr hlocks hK hS dJ7_fill_d0a16_22 (fI, fL, fA, fQ, fG, fJ) ⟨trivial, rfl⟩ hP hD
set_option maxHeartbeats 4000000 in
set_option maxRecDepth 100000 in
theorem f_X5_renew1 (l : Launch) (dC : Nat → ClassId) (dI : Nat → Nat → Nat) (h : Nat → Nat) (cs : Nat → ClassId) (sz : Nat) (I : Nat → Int32) (L : Nat → Int64) (A : Nat → Nat → Int32) (Q : Nat → Nat → Int64) (G : Nat → Nat → Nat → Int32) (J : Nat → Nat → Nat → Int64) (y z : Int32) : Met l yX5_renew wsX5_renew ({ frames := 1, cells := 0, slots := 0, locals := 24 }) (va_Pc [.ref (h 111), .int y, .int z] (xPre (dC, dI) (wSh1 h cs fI fL fA fQ fG fJ) (tysA cs) sz)) (va_Qv (fun (u : CS) => ∃ i221 : Int32, ∃ i225 : Int32, (True) ∧ u = ((va_up (va_up fI 221 i221) 225 i225), fL, fA, fQ, fG, fJ)) (xB (dC, dI) (tysA cs) (va_A (wSh1 h cs fI fL fA fQ fG fJ) sz) (fun u : CS => wSh1 h cs u.1 u.2.1 u.2.2.1 u.2.2.2.1 u.2.2.2.2.1 u.2.2.2.2.2)) (va_A (wSh1 h cs fI fL fA fQ fG fJ) sz)) 0 0 (va_A (wSh1 h cs fI fL fA fQ fG fJ) sz) := by
  refine Met.ofW (cc := cX5_renew) (maxL := 3) (ret := none) (by decide) rfl ?_
  intro p e s m args below meth c s₁ B hml hv
  obtain ⟨rfl, hsz, hP, hK, hD0, hN⟩ := hv
  have hx := B.exec
  have hb := B.bytes
  have hr := B.returns
  have hts := atoms_spec (ws := wsX5_renew) B.pre
  have hown : s.vm.findClass RX5 = some m.cls := findClass_of_methodNamed B.named
  have hlocks := B.notSynchronized
  subst hsz
  have hD := hD0.self (sz := s.heap.size)
  generalize hAe : va_A (wSh1 h cs fI fL fA fQ fG fJ) s.heap.size = A0 at hD ⊢
  have hA : ∀ q : Nat, s.heap.size ≤ q → A0 q := fun q h => by rw [← hAe]; exact Or.inr h
  have hl := lv_entry ([.ref (h 111), .int y, .int z]) (n := 3) (Nat.le_of_ble_eq_true rfl)
  rw [lg_entry_eq]
  generalize (lg_sl ([.ref (h 111), .int y, .int z]) ++ List.replicate (3 - (lg_sl ([.ref (h 111), .int y, .int z])).length) Slot.unset).toArray = ls at hl ⊢
  have hl : lv_has ls 3 [(0, .ref (h 111)), (1, .int y), (2, .int z)] := hl
  generalize hH : s.heap = H at hP ⊢
  have hS : va_S A0 s.heap H [] := by rw [← hH]; exact va_S.rf
  have hinX5 : ∀ w ∈ wsX50, w ∈ wsX5_renew := by decide +kernel
  refine lv_aload_n hx hb dX5_renew_0 rfl (lv_at hl 0 rfl) ?_
  refine lv_iload_n hx hb dX5_renew_1 rfl (lv_at hl 1 rfl) ?_
  refine va_put (D := (dC, dI)) (ci := 5) (v := .int y) (ty := .int) (C := RX5) (T := TX5) (N := 3) hx hb hts hinX5 tyX5 tyX5_ok nmX5 hown hK hP hD hS 0 rfl rfl 0 (by decide) (hts (.fieldLink RX5 11 "MixedWords$Sheet" "lane" "I") (by decide +kernel)) (fun _ h9 => h9) rfl (by decide +kernel) rfl rfl (Nat.le_of_ble_eq_true rfl) dX5_renew_2 (fun H locs hP hD hS => ?_)
  have hP : va_P (dC, dI) vwCl (wSh1 h cs (va_up fI 221 y) fL fA fQ fG fJ) H := hP
  have hD : va_D A0 (wSh1 h cs (va_up fI 221 y) fL fA fQ fG fJ) := hD
  refine lv_aload_n hx hb dX5_renew_5 rfl (lv_at hl 0 rfl) ?_
  refine lv_iload_n hx hb dX5_renew_6 rfl (lv_at hl 2 rfl) ?_
  refine va_put (D := (dC, dI)) (ci := 5) (v := .int z) (ty := .int) (C := RX5) (T := TX5) (N := 3) hx hb hts hinX5 tyX5 tyX5_ok nmX5 hown hK hP hD hS 0 rfl rfl 1 (by decide) (hts (.fieldLink RX5 15 "MixedWords$Sheet" "length" "I") (by decide +kernel)) (fun _ h9 => h9) rfl (by decide +kernel) rfl rfl (Nat.le_of_ble_eq_true rfl) dX5_renew_7 (fun H locs hP hD hS => ?_)
  have hP : va_P (dC, dI) vwCl (wSh1 h cs (va_up (va_up fI 221 y) 225 z) fL fA fQ fG fJ) H := hP
  have hD : va_D A0 (wSh1 h cs (va_up (va_up fI 221 y) 225 z) fL fA fQ fG fJ) := hD
  refine lv_aload_n hx hb dX5_renew_10 rfl (lv_at hl 0 rfl) ?_
  refine va_get (D := (dC, dI)) (ci := 5) (v := .ref (h 229)) (C := RX5) (T := TX5) (N := 3) hx hb hts hinX5 hown hK hP 0 rfl rfl 2 (by decide) (hts (.fieldLink RX5 18 "MixedWords$Sheet" "items" "[J") (by decide +kernel)) (fun _ h9 => h9) rfl dX5_renew_11 ?_
  refine lv_lconst (v := 0) hx hb dX5_renew_14 rfl ?_
  refine xj_v (wc := (wD_168 h cs fI fL fA fQ fG fJ)) (wr := [(h 111, .inr (5, [.int (y), .int (z), .ref (h 229)]))]) hP hD hS hA [1] [0] rfl rfl (by decide) (by decide) (va_runS (As := [.ref (h 229), .long (0 : Int64)]) (rest := []) ⟨hx, hb, hml, hown, hts⟩ (a_J7_fill_d0a16_169 l dC dI h cs H.size fI fL fA fQ fG fJ ) (va_cwS 2 hts gX5_renew_J7_fill_d0a16 rfl rfl rfl (by decide +kernel) ⟨Nat.le_of_ble_eq_true rfl, Nat.le_of_ble_eq_true rfl⟩) (xpS (wc := (wD_168 h cs fI fL fA fQ fG fJ)) hP hD hK hN [1] rfl (by decide) _) rfl rfl hl.1 rfl (lv_room (Nat.le_of_ble_eq_true rfl)) dX5_renew_15 ⟨Nat.zero_le _, Nat.zero_le _⟩) (fun u_1 H locs hw hP hD hS => ?_)
  obtain ⟨hf_3, rfl⟩ := hw
  have hP : va_P (dC, dI) vwCl (wSh1 h cs (va_up (va_up fI 221 y) 225 z) fL fA fQ fG fJ) H := hP
  have hD : va_D A0 (wSh1 h cs (va_up (va_up fI 221 y) 225 z) fL fA fQ fG fJ) := hD
  exact xr_v hx hb hr hlocks hK hS dX5_renew_18 ((va_up (va_up fI 221 y) 225 z), fL, fA, fQ, fG, fJ) ⟨y, z, trivial, rfl⟩ hP hD
def wSh2 (h : Nat → Nat) (cs : Nat → ClassId) (I : Nat → Int32) (L : Nat → Int64) (A : Nat → Nat → Int32) (Q : Nat → Nat → Int64) (G : Nat → Nat → Nat → Int32) (J : Nat → Nat → Nat → Int64) : va_W := [(h 112, .inr (5, [.int (I 222), .int (I 226), .ref (h 230)])), (h 230, .inl (cs 1, 25, .inr (.inl (Q 230))))]
def wD_170 (h : Nat → Nat) (cs : Nat → ClassId) (I : Nat → Int32) (L : Nat → Int64) (A : Nat → Nat → Int32) (Q : Nat → Nat → Int64) (G : Nat → Nat → Nat → Int32) (J : Nat → Nat → Nat → Int64) : va_W := [(h 230, .inl (cs 1, 25, .inr (.inl (Q 230))))]
set_option maxHeartbeats 4000000 in
set_option maxRecDepth 100000 in
theorem a_J7_fill_d0a16_171 (l : Launch) (dC : Nat → ClassId) (dI : Nat → Nat → Nat) (h : Nat → Nat) (cs : Nat → ClassId) (sz : Nat) (I : Nat → Int32) (L : Nat → Int64) (A : Nat → Nat → Int32) (Q : Nat → Nat → Int64) (G : Nat → Nat → Nat → Int32) (J : Nat → Nat → Nat → Int64) : Met l yJ7_fill_d0a16 wsJ7_fill_d0a16 ({ frames := 0, cells := 0, slots := 0, locals := 0 }) (va_Pc [.ref (h 230), .long (0 : Int64)] (xPre (dC, dI) (wD_170 h cs fI fL fA fQ fG fJ) (tysA cs) sz)) (va_Qv (fun (u : CS) => (True) ∧ u = (fI, fL, fA, fQ, fG, fJ)) (xB (dC, dI) (tysA cs) (va_A (wD_170 h cs fI fL fA fQ fG fJ) sz) (fun u : CS => wD_170 h cs u.1 u.2.1 u.2.2.1 u.2.2.2.1 u.2.2.2.2.1 u.2.2.2.2.2)) (va_A (wD_170 h cs fI fL fA fQ fG fJ) sz)) 0 0 (va_A (wD_170 h cs fI fL fA fQ fG fJ) sz) := by
  refine Met.ofW (cc := cJ7_fill_d0a16) (maxL := 5) (ret := none) (by decide) rfl ?_
  intro p e s m args below meth c s₁ B hml hv
  obtain ⟨rfl, hsz, hP, hK, hD0, hN⟩ := hv
  have hx := B.exec
  have hb := B.bytes
  have hr := B.returns
  have hts := atoms_spec (ws := wsJ7_fill_d0a16) B.pre
  have hown : s.vm.findClass RJ7 = some m.cls := findClass_of_methodNamed B.named
  have hlocks := B.notSynchronized
  subst hsz
  have hD := hD0.self (sz := s.heap.size)
  generalize hAe : va_A (wD_170 h cs fI fL fA fQ fG fJ) s.heap.size = A0 at hD ⊢
  have hA : ∀ q : Nat, s.heap.size ≤ q → A0 q := fun q h => by rw [← hAe]; exact Or.inr h
  have hl := lv_entry ([.ref (h 230), .long (0 : Int64)]) (n := 5) (Nat.le_of_ble_eq_true rfl)
  rw [lg_entry_eq]
  generalize (lg_sl ([.ref (h 230), .long (0 : Int64)]) ++ List.replicate (5 - (lg_sl ([.ref (h 230), .long (0 : Int64)])).length) Slot.unset).toArray = ls at hl ⊢
  have hl : lv_has ls 5 [(0, .ref (h 230)), (1, .long (0 : Int64))] := hl
  generalize hH : s.heap = H at hP ⊢
  have hS : va_S A0 s.heap H [] := by rw [← hH]; exact va_S.rf
  refine lv_iconst (v := nI 0) hx hb dJ7_fill_d0a16_0 (by decide) ?_
  refine lv_istore_n (lv' := [(3, .int (nI 0)), (0, .ref (h 230)), (1, .long (0 : Int64))]) hx hb dJ7_fill_d0a16_1 rfl hl (by decide) rfl (fun ls hl => ?_)
  refine lv_aload_n hx hb dJ7_fill_d0a16_2 rfl (lv_at hl 1 rfl) ?_
  refine xa_alen hx hb hK hP 0 1 rfl rfl (n := 25) rfl dJ7_fill_d0a16_3 ?_
  refine lv_istore (lv' := [(4, .int (nI 25)), (3, .int (nI 0)), (0, .ref (h 230)), (1, .long (0 : Int64))]) hx hb dJ7_fill_d0a16_4 hl (by decide) rfl (fun ls hl => ?_)
  refine lv_iload_n hx hb dJ7_fill_d0a16_6 rfl (lv_at hl 1 rfl) ?_
  refine lv_iload hx hb dJ7_fill_d0a16_7 (lv_at hl 0 rfl) ?_
  refine lv_icmp_ge (tgt := 22) hx hb dJ7_fill_d0a16_9 (by decide) (fun c9 => False.elim (by revert c9; decide +kernel)) (fun _ => ?_)
  refine lv_aload_n hx hb dJ7_fill_d0a16_12 rfl (lv_at hl 2 rfl) ?_
  refine lv_iload_n hx hb dJ7_fill_d0a16_13 rfl (lv_at hl 1 rfl) ?_
  refine lv_lload_n hx hb dJ7_fill_d0a16_14 rfl (lv_at hl 3 rfl) ?_
  refine xa_lastS hx hb hK hP hD hS 0 1 rfl rfl (by omega) (by decide) (by decide +kernel) dJ7_fill_d0a16_15 (fun H locs hP hD hS => ?_)
  refine lv_iinc (v := nI 1) (lv' := [(3, .int (nI 1)), (4, .int (nI 25)), (0, .ref (h 230)), (1, .long (0 : Int64))]) hx hb dJ7_fill_d0a16_16 hl (k := 1) rfl (by decide +kernel) (by decide) rfl (fun ls hl => ?_)
  refine lv_goto (tgt := 6) hx hb dJ7_fill_d0a16_19 (by decide) ?_
  refine lv_iload_n hx hb dJ7_fill_d0a16_6 rfl (lv_at hl 0 rfl) ?_
  refine lv_iload hx hb dJ7_fill_d0a16_7 (lv_at hl 1 rfl) ?_
  refine lv_icmp_ge (tgt := 22) hx hb dJ7_fill_d0a16_9 (by decide) (fun c9 => False.elim (by revert c9; decide +kernel)) (fun _ => ?_)
  refine lv_aload_n hx hb dJ7_fill_d0a16_12 rfl (lv_at hl 2 rfl) ?_
  refine lv_iload_n hx hb dJ7_fill_d0a16_13 rfl (lv_at hl 0 rfl) ?_
  refine lv_lload_n hx hb dJ7_fill_d0a16_14 rfl (lv_at hl 3 rfl) ?_
  refine xa_lastS hx hb hK hP hD hS 0 1 rfl rfl (by omega) (by decide) (by decide +kernel) dJ7_fill_d0a16_15 (fun H locs hP hD hS => ?_)
  refine lv_iinc (v := nI 2) (lv' := [(3, .int (nI 2)), (4, .int (nI 25)), (0, .ref (h 230)), (1, .long (0 : Int64))]) hx hb dJ7_fill_d0a16_16 hl (k := 0) rfl (by decide +kernel) (by decide) rfl (fun ls hl => ?_)
  refine lv_goto (tgt := 6) hx hb dJ7_fill_d0a16_19 (by decide) ?_
  refine lv_iload_n hx hb dJ7_fill_d0a16_6 rfl (lv_at hl 0 rfl) ?_
  refine lv_iload hx hb dJ7_fill_d0a16_7 (lv_at hl 1 rfl) ?_
  refine lv_icmp_ge (tgt := 22) hx hb dJ7_fill_d0a16_9 (by decide) (fun c9 => False.elim (by revert c9; decide +kernel)) (fun _ => ?_)
  refine lv_aload_n hx hb dJ7_fill_d0a16_12 rfl (lv_at hl 2 rfl) ?_
  refine lv_iload_n hx hb dJ7_fill_d0a16_13 rfl (lv_at hl 0 rfl) ?_
  refine lv_lload_n hx hb dJ7_fill_d0a16_14 rfl (lv_at hl 3 rfl) ?_
  refine xa_lastS hx hb hK hP hD hS 0 1 rfl rfl (by omega) (by decide) (by decide +kernel) dJ7_fill_d0a16_15 (fun H locs hP hD hS => ?_)
  refine lv_iinc (v := nI 3) (lv' := [(3, .int (nI 3)), (4, .int (nI 25)), (0, .ref (h 230)), (1, .long (0 : Int64))]) hx hb dJ7_fill_d0a16_16 hl (k := 0) rfl (by decide +kernel) (by decide) rfl (fun ls hl => ?_)
  refine lv_goto (tgt := 6) hx hb dJ7_fill_d0a16_19 (by decide) ?_
  refine lv_iload_n hx hb dJ7_fill_d0a16_6 rfl (lv_at hl 0 rfl) ?_
  refine lv_iload hx hb dJ7_fill_d0a16_7 (lv_at hl 1 rfl) ?_
  refine lv_icmp_ge (tgt := 22) hx hb dJ7_fill_d0a16_9 (by decide) (fun c9 => False.elim (by revert c9; decide +kernel)) (fun _ => ?_)
  refine lv_aload_n hx hb dJ7_fill_d0a16_12 rfl (lv_at hl 2 rfl) ?_
  refine lv_iload_n hx hb dJ7_fill_d0a16_13 rfl (lv_at hl 0 rfl) ?_
  refine lv_lload_n hx hb dJ7_fill_d0a16_14 rfl (lv_at hl 3 rfl) ?_
  refine xa_lastS hx hb hK hP hD hS 0 1 rfl rfl (by omega) (by decide) (by decide +kernel) dJ7_fill_d0a16_15 (fun H locs hP hD hS => ?_)
  refine lv_iinc (v := nI 4) (lv' := [(3, .int (nI 4)), (4, .int (nI 25)), (0, .ref (h 230)), (1, .long (0 : Int64))]) hx hb dJ7_fill_d0a16_16 hl (k := 0) rfl (by decide +kernel) (by decide) rfl (fun ls hl => ?_)
  refine lv_goto (tgt := 6) hx hb dJ7_fill_d0a16_19 (by decide) ?_
  refine lv_iload_n hx hb dJ7_fill_d0a16_6 rfl (lv_at hl 0 rfl) ?_
  refine lv_iload hx hb dJ7_fill_d0a16_7 (lv_at hl 1 rfl) ?_
  refine lv_icmp_ge (tgt := 22) hx hb dJ7_fill_d0a16_9 (by decide) (fun c9 => False.elim (by revert c9; decide +kernel)) (fun _ => ?_)
  refine lv_aload_n hx hb dJ7_fill_d0a16_12 rfl (lv_at hl 2 rfl) ?_
  refine lv_iload_n hx hb dJ7_fill_d0a16_13 rfl (lv_at hl 0 rfl) ?_
  refine lv_lload_n hx hb dJ7_fill_d0a16_14 rfl (lv_at hl 3 rfl) ?_
  refine xa_lastS hx hb hK hP hD hS 0 1 rfl rfl (by omega) (by decide) (by decide +kernel) dJ7_fill_d0a16_15 (fun H locs hP hD hS => ?_)
  refine lv_iinc (v := nI 5) (lv' := [(3, .int (nI 5)), (4, .int (nI 25)), (0, .ref (h 230)), (1, .long (0 : Int64))]) hx hb dJ7_fill_d0a16_16 hl (k := 0) rfl (by decide +kernel) (by decide) rfl (fun ls hl => ?_)
  refine lv_goto (tgt := 6) hx hb dJ7_fill_d0a16_19 (by decide) ?_
  refine lv_iload_n hx hb dJ7_fill_d0a16_6 rfl (lv_at hl 0 rfl) ?_
  refine lv_iload hx hb dJ7_fill_d0a16_7 (lv_at hl 1 rfl) ?_
  refine lv_icmp_ge (tgt := 22) hx hb dJ7_fill_d0a16_9 (by decide) (fun c9 => False.elim (by revert c9; decide +kernel)) (fun _ => ?_)
  refine lv_aload_n hx hb dJ7_fill_d0a16_12 rfl (lv_at hl 2 rfl) ?_
  refine lv_iload_n hx hb dJ7_fill_d0a16_13 rfl (lv_at hl 0 rfl) ?_
  refine lv_lload_n hx hb dJ7_fill_d0a16_14 rfl (lv_at hl 3 rfl) ?_
  refine xa_lastS hx hb hK hP hD hS 0 1 rfl rfl (by omega) (by decide) (by decide +kernel) dJ7_fill_d0a16_15 (fun H locs hP hD hS => ?_)
  refine lv_iinc (v := nI 6) (lv' := [(3, .int (nI 6)), (4, .int (nI 25)), (0, .ref (h 230)), (1, .long (0 : Int64))]) hx hb dJ7_fill_d0a16_16 hl (k := 0) rfl (by decide +kernel) (by decide) rfl (fun ls hl => ?_)
  refine lv_goto (tgt := 6) hx hb dJ7_fill_d0a16_19 (by decide) ?_
  refine lv_iload_n hx hb dJ7_fill_d0a16_6 rfl (lv_at hl 0 rfl) ?_
  refine lv_iload hx hb dJ7_fill_d0a16_7 (lv_at hl 1 rfl) ?_
  refine lv_icmp_ge (tgt := 22) hx hb dJ7_fill_d0a16_9 (by decide) (fun c9 => False.elim (by revert c9; decide +kernel)) (fun _ => ?_)
  refine lv_aload_n hx hb dJ7_fill_d0a16_12 rfl (lv_at hl 2 rfl) ?_
  refine lv_iload_n hx hb dJ7_fill_d0a16_13 rfl (lv_at hl 0 rfl) ?_
  refine lv_lload_n hx hb dJ7_fill_d0a16_14 rfl (lv_at hl 3 rfl) ?_
  refine xa_lastS hx hb hK hP hD hS 0 1 rfl rfl (by omega) (by decide) (by decide +kernel) dJ7_fill_d0a16_15 (fun H locs hP hD hS => ?_)
  refine lv_iinc (v := nI 7) (lv' := [(3, .int (nI 7)), (4, .int (nI 25)), (0, .ref (h 230)), (1, .long (0 : Int64))]) hx hb dJ7_fill_d0a16_16 hl (k := 0) rfl (by decide +kernel) (by decide) rfl (fun ls hl => ?_)
  refine lv_goto (tgt := 6) hx hb dJ7_fill_d0a16_19 (by decide) ?_
  refine lv_iload_n hx hb dJ7_fill_d0a16_6 rfl (lv_at hl 0 rfl) ?_
  refine lv_iload hx hb dJ7_fill_d0a16_7 (lv_at hl 1 rfl) ?_
  refine lv_icmp_ge (tgt := 22) hx hb dJ7_fill_d0a16_9 (by decide) (fun c9 => False.elim (by revert c9; decide +kernel)) (fun _ => ?_)
  refine lv_aload_n hx hb dJ7_fill_d0a16_12 rfl (lv_at hl 2 rfl) ?_
  refine lv_iload_n hx hb dJ7_fill_d0a16_13 rfl (lv_at hl 0 rfl) ?_
  refine lv_lload_n hx hb dJ7_fill_d0a16_14 rfl (lv_at hl 3 rfl) ?_
  refine xa_lastS hx hb hK hP hD hS 0 1 rfl rfl (by omega) (by decide) (by decide +kernel) dJ7_fill_d0a16_15 (fun H locs hP hD hS => ?_)
  refine lv_iinc (v := nI 8) (lv' := [(3, .int (nI 8)), (4, .int (nI 25)), (0, .ref (h 230)), (1, .long (0 : Int64))]) hx hb dJ7_fill_d0a16_16 hl (k := 0) rfl (by decide +kernel) (by decide) rfl (fun ls hl => ?_)
  refine lv_goto (tgt := 6) hx hb dJ7_fill_d0a16_19 (by decide) ?_
  refine lv_iload_n hx hb dJ7_fill_d0a16_6 rfl (lv_at hl 0 rfl) ?_
  refine lv_iload hx hb dJ7_fill_d0a16_7 (lv_at hl 1 rfl) ?_
  refine lv_icmp_ge (tgt := 22) hx hb dJ7_fill_d0a16_9 (by decide) (fun c9 => False.elim (by revert c9; decide +kernel)) (fun _ => ?_)
  refine lv_aload_n hx hb dJ7_fill_d0a16_12 rfl (lv_at hl 2 rfl) ?_
  refine lv_iload_n hx hb dJ7_fill_d0a16_13 rfl (lv_at hl 0 rfl) ?_
  refine lv_lload_n hx hb dJ7_fill_d0a16_14 rfl (lv_at hl 3 rfl) ?_
  refine xa_lastS hx hb hK hP hD hS 0 1 rfl rfl (by omega) (by decide) (by decide +kernel) dJ7_fill_d0a16_15 (fun H locs hP hD hS => ?_)
  refine lv_iinc (v := nI 9) (lv' := [(3, .int (nI 9)), (4, .int (nI 25)), (0, .ref (h 230)), (1, .long (0 : Int64))]) hx hb dJ7_fill_d0a16_16 hl (k := 0) rfl (by decide +kernel) (by decide) rfl (fun ls hl => ?_)
  refine lv_goto (tgt := 6) hx hb dJ7_fill_d0a16_19 (by decide) ?_
  refine lv_iload_n hx hb dJ7_fill_d0a16_6 rfl (lv_at hl 0 rfl) ?_
  refine lv_iload hx hb dJ7_fill_d0a16_7 (lv_at hl 1 rfl) ?_
  refine lv_icmp_ge (tgt := 22) hx hb dJ7_fill_d0a16_9 (by decide) (fun c9 => False.elim (by revert c9; decide +kernel)) (fun _ => ?_)
  refine lv_aload_n hx hb dJ7_fill_d0a16_12 rfl (lv_at hl 2 rfl) ?_
  refine lv_iload_n hx hb dJ7_fill_d0a16_13 rfl (lv_at hl 0 rfl) ?_
  refine lv_lload_n hx hb dJ7_fill_d0a16_14 rfl (lv_at hl 3 rfl) ?_
  refine xa_lastS hx hb hK hP hD hS 0 1 rfl rfl (by omega) (by decide) (by decide +kernel) dJ7_fill_d0a16_15 (fun H locs hP hD hS => ?_)
  refine lv_iinc (v := nI 10) (lv' := [(3, .int (nI 10)), (4, .int (nI 25)), (0, .ref (h 230)), (1, .long (0 : Int64))]) hx hb dJ7_fill_d0a16_16 hl (k := 0) rfl (by decide +kernel) (by decide) rfl (fun ls hl => ?_)
  refine lv_goto (tgt := 6) hx hb dJ7_fill_d0a16_19 (by decide) ?_
  refine lv_iload_n hx hb dJ7_fill_d0a16_6 rfl (lv_at hl 0 rfl) ?_
  refine lv_iload hx hb dJ7_fill_d0a16_7 (lv_at hl 1 rfl) ?_
  refine lv_icmp_ge (tgt := 22) hx hb dJ7_fill_d0a16_9 (by decide) (fun c9 => False.elim (by revert c9; decide +kernel)) (fun _ => ?_)
  refine lv_aload_n hx hb dJ7_fill_d0a16_12 rfl (lv_at hl 2 rfl) ?_
  refine lv_iload_n hx hb dJ7_fill_d0a16_13 rfl (lv_at hl 0 rfl) ?_
  refine lv_lload_n hx hb dJ7_fill_d0a16_14 rfl (lv_at hl 3 rfl) ?_
  refine xa_lastS hx hb hK hP hD hS 0 1 rfl rfl (by omega) (by decide) (by decide +kernel) dJ7_fill_d0a16_15 (fun H locs hP hD hS => ?_)
  refine lv_iinc (v := nI 11) (lv' := [(3, .int (nI 11)), (4, .int (nI 25)), (0, .ref (h 230)), (1, .long (0 : Int64))]) hx hb dJ7_fill_d0a16_16 hl (k := 0) rfl (by decide +kernel) (by decide) rfl (fun ls hl => ?_)
  refine lv_goto (tgt := 6) hx hb dJ7_fill_d0a16_19 (by decide) ?_
  refine lv_iload_n hx hb dJ7_fill_d0a16_6 rfl (lv_at hl 0 rfl) ?_
  refine lv_iload hx hb dJ7_fill_d0a16_7 (lv_at hl 1 rfl) ?_
  refine lv_icmp_ge (tgt := 22) hx hb dJ7_fill_d0a16_9 (by decide) (fun c9 => False.elim (by revert c9; decide +kernel)) (fun _ => ?_)
  refine lv_aload_n hx hb dJ7_fill_d0a16_12 rfl (lv_at hl 2 rfl) ?_
  refine lv_iload_n hx hb dJ7_fill_d0a16_13 rfl (lv_at hl 0 rfl) ?_
  refine lv_lload_n hx hb dJ7_fill_d0a16_14 rfl (lv_at hl 3 rfl) ?_
  refine xa_lastS hx hb hK hP hD hS 0 1 rfl rfl (by omega) (by decide) (by decide +kernel) dJ7_fill_d0a16_15 (fun H locs hP hD hS => ?_)
  refine lv_iinc (v := nI 12) (lv' := [(3, .int (nI 12)), (4, .int (nI 25)), (0, .ref (h 230)), (1, .long (0 : Int64))]) hx hb dJ7_fill_d0a16_16 hl (k := 0) rfl (by decide +kernel) (by decide) rfl (fun ls hl => ?_)
  refine lv_goto (tgt := 6) hx hb dJ7_fill_d0a16_19 (by decide) ?_
  refine lv_iload_n hx hb dJ7_fill_d0a16_6 rfl (lv_at hl 0 rfl) ?_
  refine lv_iload hx hb dJ7_fill_d0a16_7 (lv_at hl 1 rfl) ?_
  refine lv_icmp_ge (tgt := 22) hx hb dJ7_fill_d0a16_9 (by decide) (fun c9 => False.elim (by revert c9; decide +kernel)) (fun _ => ?_)
  refine lv_aload_n hx hb dJ7_fill_d0a16_12 rfl (lv_at hl 2 rfl) ?_
  refine lv_iload_n hx hb dJ7_fill_d0a16_13 rfl (lv_at hl 0 rfl) ?_
  refine lv_lload_n hx hb dJ7_fill_d0a16_14 rfl (lv_at hl 3 rfl) ?_
  refine xa_lastS hx hb hK hP hD hS 0 1 rfl rfl (by omega) (by decide) (by decide +kernel) dJ7_fill_d0a16_15 (fun H locs hP hD hS => ?_)
  refine lv_iinc (v := nI 13) (lv' := [(3, .int (nI 13)), (4, .int (nI 25)), (0, .ref (h 230)), (1, .long (0 : Int64))]) hx hb dJ7_fill_d0a16_16 hl (k := 0) rfl (by decide +kernel) (by decide) rfl (fun ls hl => ?_)
  refine lv_goto (tgt := 6) hx hb dJ7_fill_d0a16_19 (by decide) ?_
  refine lv_iload_n hx hb dJ7_fill_d0a16_6 rfl (lv_at hl 0 rfl) ?_
  refine lv_iload hx hb dJ7_fill_d0a16_7 (lv_at hl 1 rfl) ?_
  refine lv_icmp_ge (tgt := 22) hx hb dJ7_fill_d0a16_9 (by decide) (fun c9 => False.elim (by revert c9; decide +kernel)) (fun _ => ?_)
  refine lv_aload_n hx hb dJ7_fill_d0a16_12 rfl (lv_at hl 2 rfl) ?_
  refine lv_iload_n hx hb dJ7_fill_d0a16_13 rfl (lv_at hl 0 rfl) ?_
  refine lv_lload_n hx hb dJ7_fill_d0a16_14 rfl (lv_at hl 3 rfl) ?_
  refine xa_lastS hx hb hK hP hD hS 0 1 rfl rfl (by omega) (by decide) (by decide +kernel) dJ7_fill_d0a16_15 (fun H locs hP hD hS => ?_)
  refine lv_iinc (v := nI 14) (lv' := [(3, .int (nI 14)), (4, .int (nI 25)), (0, .ref (h 230)), (1, .long (0 : Int64))]) hx hb dJ7_fill_d0a16_16 hl (k := 0) rfl (by decide +kernel) (by decide) rfl (fun ls hl => ?_)
  refine lv_goto (tgt := 6) hx hb dJ7_fill_d0a16_19 (by decide) ?_
  refine lv_iload_n hx hb dJ7_fill_d0a16_6 rfl (lv_at hl 0 rfl) ?_
  refine lv_iload hx hb dJ7_fill_d0a16_7 (lv_at hl 1 rfl) ?_
  refine lv_icmp_ge (tgt := 22) hx hb dJ7_fill_d0a16_9 (by decide) (fun c9 => False.elim (by revert c9; decide +kernel)) (fun _ => ?_)
  refine lv_aload_n hx hb dJ7_fill_d0a16_12 rfl (lv_at hl 2 rfl) ?_
  refine lv_iload_n hx hb dJ7_fill_d0a16_13 rfl (lv_at hl 0 rfl) ?_
  refine lv_lload_n hx hb dJ7_fill_d0a16_14 rfl (lv_at hl 3 rfl) ?_
  refine xa_lastS hx hb hK hP hD hS 0 1 rfl rfl (by omega) (by decide) (by decide +kernel) dJ7_fill_d0a16_15 (fun H locs hP hD hS => ?_)
  refine lv_iinc (v := nI 15) (lv' := [(3, .int (nI 15)), (4, .int (nI 25)), (0, .ref (h 230)), (1, .long (0 : Int64))]) hx hb dJ7_fill_d0a16_16 hl (k := 0) rfl (by decide +kernel) (by decide) rfl (fun ls hl => ?_)
  refine lv_goto (tgt := 6) hx hb dJ7_fill_d0a16_19 (by decide) ?_
  refine lv_iload_n hx hb dJ7_fill_d0a16_6 rfl (lv_at hl 0 rfl) ?_
  refine lv_iload hx hb dJ7_fill_d0a16_7 (lv_at hl 1 rfl) ?_
  refine lv_icmp_ge (tgt := 22) hx hb dJ7_fill_d0a16_9 (by decide) (fun c9 => False.elim (by revert c9; decide +kernel)) (fun _ => ?_)
  refine lv_aload_n hx hb dJ7_fill_d0a16_12 rfl (lv_at hl 2 rfl) ?_
  refine lv_iload_n hx hb dJ7_fill_d0a16_13 rfl (lv_at hl 0 rfl) ?_
  refine lv_lload_n hx hb dJ7_fill_d0a16_14 rfl (lv_at hl 3 rfl) ?_
  refine xa_lastS hx hb hK hP hD hS 0 1 rfl rfl (by omega) (by decide) (by decide +kernel) dJ7_fill_d0a16_15 (fun H locs hP hD hS => ?_)
  refine lv_iinc (v := nI 16) (lv' := [(3, .int (nI 16)), (4, .int (nI 25)), (0, .ref (h 230)), (1, .long (0 : Int64))]) hx hb dJ7_fill_d0a16_16 hl (k := 0) rfl (by decide +kernel) (by decide) rfl (fun ls hl => ?_)
  refine lv_goto (tgt := 6) hx hb dJ7_fill_d0a16_19 (by decide) ?_
  refine lv_iload_n hx hb dJ7_fill_d0a16_6 rfl (lv_at hl 0 rfl) ?_
  refine lv_iload hx hb dJ7_fill_d0a16_7 (lv_at hl 1 rfl) ?_
  refine lv_icmp_ge (tgt := 22) hx hb dJ7_fill_d0a16_9 (by decide) (fun c9 => False.elim (by revert c9; decide +kernel)) (fun _ => ?_)
  refine lv_aload_n hx hb dJ7_fill_d0a16_12 rfl (lv_at hl 2 rfl) ?_
  refine lv_iload_n hx hb dJ7_fill_d0a16_13 rfl (lv_at hl 0 rfl) ?_
  refine lv_lload_n hx hb dJ7_fill_d0a16_14 rfl (lv_at hl 3 rfl) ?_
  refine xa_lastS hx hb hK hP hD hS 0 1 rfl rfl (by omega) (by decide) (by decide +kernel) dJ7_fill_d0a16_15 (fun H locs hP hD hS => ?_)
  refine lv_iinc (v := nI 17) (lv' := [(3, .int (nI 17)), (4, .int (nI 25)), (0, .ref (h 230)), (1, .long (0 : Int64))]) hx hb dJ7_fill_d0a16_16 hl (k := 0) rfl (by decide +kernel) (by decide) rfl (fun ls hl => ?_)
  refine lv_goto (tgt := 6) hx hb dJ7_fill_d0a16_19 (by decide) ?_
  refine lv_iload_n hx hb dJ7_fill_d0a16_6 rfl (lv_at hl 0 rfl) ?_
  refine lv_iload hx hb dJ7_fill_d0a16_7 (lv_at hl 1 rfl) ?_
  refine lv_icmp_ge (tgt := 22) hx hb dJ7_fill_d0a16_9 (by decide) (fun c9 => False.elim (by revert c9; decide +kernel)) (fun _ => ?_)
  refine lv_aload_n hx hb dJ7_fill_d0a16_12 rfl (lv_at hl 2 rfl) ?_
  refine lv_iload_n hx hb dJ7_fill_d0a16_13 rfl (lv_at hl 0 rfl) ?_
  refine lv_lload_n hx hb dJ7_fill_d0a16_14 rfl (lv_at hl 3 rfl) ?_
  refine xa_lastS hx hb hK hP hD hS 0 1 rfl rfl (by omega) (by decide) (by decide +kernel) dJ7_fill_d0a16_15 (fun H locs hP hD hS => ?_)
  refine lv_iinc (v := nI 18) (lv' := [(3, .int (nI 18)), (4, .int (nI 25)), (0, .ref (h 230)), (1, .long (0 : Int64))]) hx hb dJ7_fill_d0a16_16 hl (k := 0) rfl (by decide +kernel) (by decide) rfl (fun ls hl => ?_)
  refine lv_goto (tgt := 6) hx hb dJ7_fill_d0a16_19 (by decide) ?_
  refine lv_iload_n hx hb dJ7_fill_d0a16_6 rfl (lv_at hl 0 rfl) ?_
  refine lv_iload hx hb dJ7_fill_d0a16_7 (lv_at hl 1 rfl) ?_
  refine lv_icmp_ge (tgt := 22) hx hb dJ7_fill_d0a16_9 (by decide) (fun c9 => False.elim (by revert c9; decide +kernel)) (fun _ => ?_)
  refine lv_aload_n hx hb dJ7_fill_d0a16_12 rfl (lv_at hl 2 rfl) ?_
  refine lv_iload_n hx hb dJ7_fill_d0a16_13 rfl (lv_at hl 0 rfl) ?_
  refine lv_lload_n hx hb dJ7_fill_d0a16_14 rfl (lv_at hl 3 rfl) ?_
  refine xa_lastS hx hb hK hP hD hS 0 1 rfl rfl (by omega) (by decide) (by decide +kernel) dJ7_fill_d0a16_15 (fun H locs hP hD hS => ?_)
  refine lv_iinc (v := nI 19) (lv' := [(3, .int (nI 19)), (4, .int (nI 25)), (0, .ref (h 230)), (1, .long (0 : Int64))]) hx hb dJ7_fill_d0a16_16 hl (k := 0) rfl (by decide +kernel) (by decide) rfl (fun ls hl => ?_)
  refine lv_goto (tgt := 6) hx hb dJ7_fill_d0a16_19 (by decide) ?_
  refine lv_iload_n hx hb dJ7_fill_d0a16_6 rfl (lv_at hl 0 rfl) ?_
  refine lv_iload hx hb dJ7_fill_d0a16_7 (lv_at hl 1 rfl) ?_
  refine lv_icmp_ge (tgt := 22) hx hb dJ7_fill_d0a16_9 (by decide) (fun c9 => False.elim (by revert c9; decide +kernel)) (fun _ => ?_)
  refine lv_aload_n hx hb dJ7_fill_d0a16_12 rfl (lv_at hl 2 rfl) ?_
  refine lv_iload_n hx hb dJ7_fill_d0a16_13 rfl (lv_at hl 0 rfl) ?_
  refine lv_lload_n hx hb dJ7_fill_d0a16_14 rfl (lv_at hl 3 rfl) ?_
  refine xa_lastS hx hb hK hP hD hS 0 1 rfl rfl (by omega) (by decide) (by decide +kernel) dJ7_fill_d0a16_15 (fun H locs hP hD hS => ?_)
  refine lv_iinc (v := nI 20) (lv' := [(3, .int (nI 20)), (4, .int (nI 25)), (0, .ref (h 230)), (1, .long (0 : Int64))]) hx hb dJ7_fill_d0a16_16 hl (k := 0) rfl (by decide +kernel) (by decide) rfl (fun ls hl => ?_)
  refine lv_goto (tgt := 6) hx hb dJ7_fill_d0a16_19 (by decide) ?_
  refine lv_iload_n hx hb dJ7_fill_d0a16_6 rfl (lv_at hl 0 rfl) ?_
  refine lv_iload hx hb dJ7_fill_d0a16_7 (lv_at hl 1 rfl) ?_
  refine lv_icmp_ge (tgt := 22) hx hb dJ7_fill_d0a16_9 (by decide) (fun c9 => False.elim (by revert c9; decide +kernel)) (fun _ => ?_)
  refine lv_aload_n hx hb dJ7_fill_d0a16_12 rfl (lv_at hl 2 rfl) ?_
  refine lv_iload_n hx hb dJ7_fill_d0a16_13 rfl (lv_at hl 0 rfl) ?_
  refine lv_lload_n hx hb dJ7_fill_d0a16_14 rfl (lv_at hl 3 rfl) ?_
  refine xa_lastS hx hb hK hP hD hS 0 1 rfl rfl (by omega) (by decide) (by decide +kernel) dJ7_fill_d0a16_15 (fun H locs hP hD hS => ?_)
  refine lv_iinc (v := nI 21) (lv' := [(3, .int (nI 21)), (4, .int (nI 25)), (0, .ref (h 230)), (1, .long (0 : Int64))]) hx hb dJ7_fill_d0a16_16 hl (k := 0) rfl (by decide +kernel) (by decide) rfl (fun ls hl => ?_)
  refine lv_goto (tgt := 6) hx hb dJ7_fill_d0a16_19 (by decide) ?_
  refine lv_iload_n hx hb dJ7_fill_d0a16_6 rfl (lv_at hl 0 rfl) ?_
  refine lv_iload hx hb dJ7_fill_d0a16_7 (lv_at hl 1 rfl) ?_
  refine lv_icmp_ge (tgt := 22) hx hb dJ7_fill_d0a16_9 (by decide) (fun c9 => False.elim (by revert c9; decide +kernel)) (fun _ => ?_)
  refine lv_aload_n hx hb dJ7_fill_d0a16_12 rfl (lv_at hl 2 rfl) ?_
  refine lv_iload_n hx hb dJ7_fill_d0a16_13 rfl (lv_at hl 0 rfl) ?_
  refine lv_lload_n hx hb dJ7_fill_d0a16_14 rfl (lv_at hl 3 rfl) ?_
  refine xa_lastS hx hb hK hP hD hS 0 1 rfl rfl (by omega) (by decide) (by decide +kernel) dJ7_fill_d0a16_15 (fun H locs hP hD hS => ?_)
  refine lv_iinc (v := nI 22) (lv' := [(3, .int (nI 22)), (4, .int (nI 25)), (0, .ref (h 230)), (1, .long (0 : Int64))]) hx hb dJ7_fill_d0a16_16 hl (k := 0) rfl (by decide +kernel) (by decide) rfl (fun ls hl => ?_)
  refine lv_goto (tgt := 6) hx hb dJ7_fill_d0a16_19 (by decide) ?_
  refine lv_iload_n hx hb dJ7_fill_d0a16_6 rfl (lv_at hl 0 rfl) ?_
  refine lv_iload hx hb dJ7_fill_d0a16_7 (lv_at hl 1 rfl) ?_
  refine lv_icmp_ge (tgt := 22) hx hb dJ7_fill_d0a16_9 (by decide) (fun c9 => False.elim (by revert c9; decide +kernel)) (fun _ => ?_)
  refine lv_aload_n hx hb dJ7_fill_d0a16_12 rfl (lv_at hl 2 rfl) ?_
  refine lv_iload_n hx hb dJ7_fill_d0a16_13 rfl (lv_at hl 0 rfl) ?_
  refine lv_lload_n hx hb dJ7_fill_d0a16_14 rfl (lv_at hl 3 rfl) ?_
  refine xa_lastS hx hb hK hP hD hS 0 1 rfl rfl (by omega) (by decide) (by decide +kernel) dJ7_fill_d0a16_15 (fun H locs hP hD hS => ?_)
  refine lv_iinc (v := nI 23) (lv' := [(3, .int (nI 23)), (4, .int (nI 25)), (0, .ref (h 230)), (1, .long (0 : Int64))]) hx hb dJ7_fill_d0a16_16 hl (k := 0) rfl (by decide +kernel) (by decide) rfl (fun ls hl => ?_)
  refine lv_goto (tgt := 6) hx hb dJ7_fill_d0a16_19 (by decide) ?_
  refine lv_iload_n hx hb dJ7_fill_d0a16_6 rfl (lv_at hl 0 rfl) ?_
  refine lv_iload hx hb dJ7_fill_d0a16_7 (lv_at hl 1 rfl) ?_
  refine lv_icmp_ge (tgt := 22) hx hb dJ7_fill_d0a16_9 (by decide) (fun c9 => False.elim (by revert c9; decide +kernel)) (fun _ => ?_)
  refine lv_aload_n hx hb dJ7_fill_d0a16_12 rfl (lv_at hl 2 rfl) ?_
  refine lv_iload_n hx hb dJ7_fill_d0a16_13 rfl (lv_at hl 0 rfl) ?_
  refine lv_lload_n hx hb dJ7_fill_d0a16_14 rfl (lv_at hl 3 rfl) ?_
  refine xa_lastS hx hb hK hP hD hS 0 1 rfl rfl (by omega) (by decide) (by decide +kernel) dJ7_fill_d0a16_15 (fun H locs hP hD hS => ?_)
  refine lv_iinc (v := nI 24) (lv' := [(3, .int (nI 24)), (4, .int (nI 25)), (0, .ref (h 230)), (1, .long (0 : Int64))]) hx hb dJ7_fill_d0a16_16 hl (k := 0) rfl (by decide +kernel) (by decide) rfl (fun ls hl => ?_)
  refine lv_goto (tgt := 6) hx hb dJ7_fill_d0a16_19 (by decide) ?_
  refine lv_iload_n hx hb dJ7_fill_d0a16_6 rfl (lv_at hl 0 rfl) ?_
  refine lv_iload hx hb dJ7_fill_d0a16_7 (lv_at hl 1 rfl) ?_
  refine lv_icmp_ge (tgt := 22) hx hb dJ7_fill_d0a16_9 (by decide) (fun c9 => False.elim (by revert c9; decide +kernel)) (fun _ => ?_)
  refine lv_aload_n hx hb dJ7_fill_d0a16_12 rfl (lv_at hl 2 rfl) ?_
  refine lv_iload_n hx hb dJ7_fill_d0a16_13 rfl (lv_at hl 0 rfl) ?_
  refine lv_lload_n hx hb dJ7_fill_d0a16_14 rfl (lv_at hl 3 rfl) ?_
  refine xa_lastS hx hb hK hP hD hS 0 1 rfl rfl (by omega) (by decide) (by decide +kernel) dJ7_fill_d0a16_15 (fun H locs hP hD hS => ?_)
  refine lv_iinc (v := nI 25) (lv' := [(3, .int (nI 25)), (4, .int (nI 25)), (0, .ref (h 230)), (1, .long (0 : Int64))]) hx hb dJ7_fill_d0a16_16 hl (k := 0) rfl (by decide +kernel) (by decide) rfl (fun ls hl => ?_)
  refine lv_goto (tgt := 6) hx hb dJ7_fill_d0a16_19 (by decide) ?_
  refine lv_iload_n hx hb dJ7_fill_d0a16_6 rfl (lv_at hl 0 rfl) ?_
  refine lv_iload hx hb dJ7_fill_d0a16_7 (lv_at hl 1 rfl) ?_
  refine lv_icmp_ge (tgt := 22) hx hb dJ7_fill_d0a16_9 (by decide) (fun _ => ?_) (fun c9 => False.elim (by revert c9; decide +kernel))
  exact xr_v hx hb hr hlocks hK hS dJ7_fill_d0a16_22 (fI, fL, fA, fQ, fG, fJ) ⟨trivial, rfl⟩ hP hD
set_option maxHeartbeats 4000000 in
set_option maxRecDepth 100000 in
theorem f_X5_renew2 (l : Launch) (dC : Nat → ClassId) (dI : Nat → Nat → Nat) (h : Nat → Nat) (cs : Nat → ClassId) (sz : Nat) (I : Nat → Int32) (L : Nat → Int64) (A : Nat → Nat → Int32) (Q : Nat → Nat → Int64) (G : Nat → Nat → Nat → Int32) (J : Nat → Nat → Nat → Int64) (y z : Int32) : Met l yX5_renew wsX5_renew ({ frames := 1, cells := 0, slots := 0, locals := 24 }) (va_Pc [.ref (h 112), .int y, .int z] (xPre (dC, dI) (wSh2 h cs fI fL fA fQ fG fJ) (tysA cs) sz)) (va_Qv (fun (u : CS) => ∃ i222 : Int32, ∃ i226 : Int32, (True) ∧ u = ((va_up (va_up fI 222 i222) 226 i226), fL, fA, fQ, fG, fJ)) (xB (dC, dI) (tysA cs) (va_A (wSh2 h cs fI fL fA fQ fG fJ) sz) (fun u : CS => wSh2 h cs u.1 u.2.1 u.2.2.1 u.2.2.2.1 u.2.2.2.2.1 u.2.2.2.2.2)) (va_A (wSh2 h cs fI fL fA fQ fG fJ) sz)) 0 0 (va_A (wSh2 h cs fI fL fA fQ fG fJ) sz) := by
  refine Met.ofW (cc := cX5_renew) (maxL := 3) (ret := none) (by decide) rfl ?_
  intro p e s m args below meth c s₁ B hml hv
  obtain ⟨rfl, hsz, hP, hK, hD0, hN⟩ := hv
  have hx := B.exec
  have hb := B.bytes
  have hr := B.returns
  have hts := atoms_spec (ws := wsX5_renew) B.pre
  have hown : s.vm.findClass RX5 = some m.cls := findClass_of_methodNamed B.named
  have hlocks := B.notSynchronized
  subst hsz
  have hD := hD0.self (sz := s.heap.size)
  generalize hAe : va_A (wSh2 h cs fI fL fA fQ fG fJ) s.heap.size = A0 at hD ⊢
  have hA : ∀ q : Nat, s.heap.size ≤ q → A0 q := fun q h => by rw [← hAe]; exact Or.inr h
  have hl := lv_entry ([.ref (h 112), .int y, .int z]) (n := 3) (Nat.le_of_ble_eq_true rfl)
  rw [lg_entry_eq]
  generalize (lg_sl ([.ref (h 112), .int y, .int z]) ++ List.replicate (3 - (lg_sl ([.ref (h 112), .int y, .int z])).length) Slot.unset).toArray = ls at hl ⊢
  have hl : lv_has ls 3 [(0, .ref (h 112)), (1, .int y), (2, .int z)] := hl
  generalize hH : s.heap = H at hP ⊢
  have hS : va_S A0 s.heap H [] := by rw [← hH]; exact va_S.rf
  have hinX5 : ∀ w ∈ wsX50, w ∈ wsX5_renew := by decide +kernel
  refine lv_aload_n hx hb dX5_renew_0 rfl (lv_at hl 0 rfl) ?_
  refine lv_iload_n hx hb dX5_renew_1 rfl (lv_at hl 1 rfl) ?_
  refine va_put (D := (dC, dI)) (ci := 5) (v := .int y) (ty := .int) (C := RX5) (T := TX5) (N := 3) hx hb hts hinX5 tyX5 tyX5_ok nmX5 hown hK hP hD hS 0 rfl rfl 0 (by decide) (hts (.fieldLink RX5 11 "MixedWords$Sheet" "lane" "I") (by decide +kernel)) (fun _ h9 => h9) rfl (by decide +kernel) rfl rfl (Nat.le_of_ble_eq_true rfl) dX5_renew_2 (fun H locs hP hD hS => ?_)
  have hP : va_P (dC, dI) vwCl (wSh2 h cs (va_up fI 222 y) fL fA fQ fG fJ) H := hP
  have hD : va_D A0 (wSh2 h cs (va_up fI 222 y) fL fA fQ fG fJ) := hD
  refine lv_aload_n hx hb dX5_renew_5 rfl (lv_at hl 0 rfl) ?_
  refine lv_iload_n hx hb dX5_renew_6 rfl (lv_at hl 2 rfl) ?_
  refine va_put (D := (dC, dI)) (ci := 5) (v := .int z) (ty := .int) (C := RX5) (T := TX5) (N := 3) hx hb hts hinX5 tyX5 tyX5_ok nmX5 hown hK hP hD hS 0 rfl rfl 1 (by decide) (hts (.fieldLink RX5 15 "MixedWords$Sheet" "length" "I") (by decide +kernel)) (fun _ h9 => h9) rfl (by decide +kernel) rfl rfl (Nat.le_of_ble_eq_true rfl) dX5_renew_7 (fun H locs hP hD hS => ?_)
  have hP : va_P (dC, dI) vwCl (wSh2 h cs (va_up (va_up fI 222 y) 226 z) fL fA fQ fG fJ) H := hP
  have hD : va_D A0 (wSh2 h cs (va_up (va_up fI 222 y) 226 z) fL fA fQ fG fJ) := hD
  refine lv_aload_n hx hb dX5_renew_10 rfl (lv_at hl 0 rfl) ?_
  refine va_get (D := (dC, dI)) (ci := 5) (v := .ref (h 230)) (C := RX5) (T := TX5) (N := 3) hx hb hts hinX5 hown hK hP 0 rfl rfl 2 (by decide) (hts (.fieldLink RX5 18 "MixedWords$Sheet" "items" "[J") (by decide +kernel)) (fun _ h9 => h9) rfl dX5_renew_11 ?_
  refine lv_lconst (v := 0) hx hb dX5_renew_14 rfl ?_
  refine xj_v (wc := (wD_170 h cs fI fL fA fQ fG fJ)) (wr := [(h 112, .inr (5, [.int (y), .int (z), .ref (h 230)]))]) hP hD hS hA [1] [0] rfl rfl (by decide) (by decide) (va_runS (As := [.ref (h 230), .long (0 : Int64)]) (rest := []) ⟨hx, hb, hml, hown, hts⟩ (a_J7_fill_d0a16_171 l dC dI h cs H.size fI fL fA fQ fG fJ ) (va_cwS 2 hts gX5_renew_J7_fill_d0a16 rfl rfl rfl (by decide +kernel) ⟨Nat.le_of_ble_eq_true rfl, Nat.le_of_ble_eq_true rfl⟩) (xpS (wc := (wD_170 h cs fI fL fA fQ fG fJ)) hP hD hK hN [1] rfl (by decide) _) rfl rfl hl.1 rfl (lv_room (Nat.le_of_ble_eq_true rfl)) dX5_renew_15 ⟨Nat.zero_le _, Nat.zero_le _⟩) (fun u_1 H locs hw hP hD hS => ?_)
  obtain ⟨hf_3, rfl⟩ := hw
  have hP : va_P (dC, dI) vwCl (wSh2 h cs (va_up (va_up fI 222 y) 226 z) fL fA fQ fG fJ) H := hP
  have hD : va_D A0 (wSh2 h cs (va_up (va_up fI 222 y) 226 z) fL fA fQ fG fJ) := hD
  exact xr_v hx hb hr hlocks hK hS dX5_renew_18 ((va_up (va_up fI 222 y) 226 z), fL, fA, fQ, fG, fJ) ⟨y, z, trivial, rfl⟩ hP hD
def wSh3 (h : Nat → Nat) (cs : Nat → ClassId) (I : Nat → Int32) (L : Nat → Int64) (A : Nat → Nat → Int32) (Q : Nat → Nat → Int64) (G : Nat → Nat → Nat → Int32) (J : Nat → Nat → Nat → Int64) : va_W := [(h 113, .inr (5, [.int (I 223), .int (I 227), .ref (h 231)])), (h 231, .inl (cs 1, 25, .inr (.inl (Q 231))))]
def wD_172 (h : Nat → Nat) (cs : Nat → ClassId) (I : Nat → Int32) (L : Nat → Int64) (A : Nat → Nat → Int32) (Q : Nat → Nat → Int64) (G : Nat → Nat → Nat → Int32) (J : Nat → Nat → Nat → Int64) : va_W := [(h 231, .inl (cs 1, 25, .inr (.inl (Q 231))))]
set_option maxHeartbeats 4000000 in
set_option maxRecDepth 100000 in
theorem a_J7_fill_d0a16_173 (l : Launch) (dC : Nat → ClassId) (dI : Nat → Nat → Nat) (h : Nat → Nat) (cs : Nat → ClassId) (sz : Nat) (I : Nat → Int32) (L : Nat → Int64) (A : Nat → Nat → Int32) (Q : Nat → Nat → Int64) (G : Nat → Nat → Nat → Int32) (J : Nat → Nat → Nat → Int64) : Met l yJ7_fill_d0a16 wsJ7_fill_d0a16 ({ frames := 0, cells := 0, slots := 0, locals := 0 }) (va_Pc [.ref (h 231), .long (0 : Int64)] (xPre (dC, dI) (wD_172 h cs fI fL fA fQ fG fJ) (tysA cs) sz)) (va_Qv (fun (u : CS) => (True) ∧ u = (fI, fL, fA, fQ, fG, fJ)) (xB (dC, dI) (tysA cs) (va_A (wD_172 h cs fI fL fA fQ fG fJ) sz) (fun u : CS => wD_172 h cs u.1 u.2.1 u.2.2.1 u.2.2.2.1 u.2.2.2.2.1 u.2.2.2.2.2)) (va_A (wD_172 h cs fI fL fA fQ fG fJ) sz)) 0 0 (va_A (wD_172 h cs fI fL fA fQ fG fJ) sz) := by
  refine Met.ofW (cc := cJ7_fill_d0a16) (maxL := 5) (ret := none) (by decide) rfl ?_
  intro p e s m args below meth c s₁ B hml hv
  obtain ⟨rfl, hsz, hP, hK, hD0, hN⟩ := hv
  have hx := B.exec
  have hb := B.bytes
  have hr := B.returns
  have hts := atoms_spec (ws := wsJ7_fill_d0a16) B.pre
  have hown : s.vm.findClass RJ7 = some m.cls := findClass_of_methodNamed B.named
  have hlocks := B.notSynchronized
  subst hsz
  have hD := hD0.self (sz := s.heap.size)
  generalize hAe : va_A (wD_172 h cs fI fL fA fQ fG fJ) s.heap.size = A0 at hD ⊢
  have hA : ∀ q : Nat, s.heap.size ≤ q → A0 q := fun q h => by rw [← hAe]; exact Or.inr h
  have hl := lv_entry ([.ref (h 231), .long (0 : Int64)]) (n := 5) (Nat.le_of_ble_eq_true rfl)
  rw [lg_entry_eq]
  generalize (lg_sl ([.ref (h 231), .long (0 : Int64)]) ++ List.replicate (5 - (lg_sl ([.ref (h 231), .long (0 : Int64)])).length) Slot.unset).toArray = ls at hl ⊢
  have hl : lv_has ls 5 [(0, .ref (h 231)), (1, .long (0 : Int64))] := hl
  generalize hH : s.heap = H at hP ⊢
  have hS : va_S A0 s.heap H [] := by rw [← hH]; exact va_S.rf
  refine lv_iconst (v := nI 0) hx hb dJ7_fill_d0a16_0 (by decide) ?_
  refine lv_istore_n (lv' := [(3, .int (nI 0)), (0, .ref (h 231)), (1, .long (0 : Int64))]) hx hb dJ7_fill_d0a16_1 rfl hl (by decide) rfl (fun ls hl => ?_)
  refine lv_aload_n hx hb dJ7_fill_d0a16_2 rfl (lv_at hl 1 rfl) ?_
  refine xa_alen hx hb hK hP 0 1 rfl rfl (n := 25) rfl dJ7_fill_d0a16_3 ?_
  refine lv_istore (lv' := [(4, .int (nI 25)), (3, .int (nI 0)), (0, .ref (h 231)), (1, .long (0 : Int64))]) hx hb dJ7_fill_d0a16_4 hl (by decide) rfl (fun ls hl => ?_)
  refine lv_iload_n hx hb dJ7_fill_d0a16_6 rfl (lv_at hl 1 rfl) ?_
  refine lv_iload hx hb dJ7_fill_d0a16_7 (lv_at hl 0 rfl) ?_
  refine lv_icmp_ge (tgt := 22) hx hb dJ7_fill_d0a16_9 (by decide) (fun c9 => False.elim (by revert c9; decide +kernel)) (fun _ => ?_)
  refine lv_aload_n hx hb dJ7_fill_d0a16_12 rfl (lv_at hl 2 rfl) ?_
  refine lv_iload_n hx hb dJ7_fill_d0a16_13 rfl (lv_at hl 1 rfl) ?_
  refine lv_lload_n hx hb dJ7_fill_d0a16_14 rfl (lv_at hl 3 rfl) ?_
  refine xa_lastS hx hb hK hP hD hS 0 1 rfl rfl (by omega) (by decide) (by decide +kernel) dJ7_fill_d0a16_15 (fun H locs hP hD hS => ?_)
  refine lv_iinc (v := nI 1) (lv' := [(3, .int (nI 1)), (4, .int (nI 25)), (0, .ref (h 231)), (1, .long (0 : Int64))]) hx hb dJ7_fill_d0a16_16 hl (k := 1) rfl (by decide +kernel) (by decide) rfl (fun ls hl => ?_)
  refine lv_goto (tgt := 6) hx hb dJ7_fill_d0a16_19 (by decide) ?_
  refine lv_iload_n hx hb dJ7_fill_d0a16_6 rfl (lv_at hl 0 rfl) ?_
  refine lv_iload hx hb dJ7_fill_d0a16_7 (lv_at hl 1 rfl) ?_
  refine lv_icmp_ge (tgt := 22) hx hb dJ7_fill_d0a16_9 (by decide) (fun c9 => False.elim (by revert c9; decide +kernel)) (fun _ => ?_)
  refine lv_aload_n hx hb dJ7_fill_d0a16_12 rfl (lv_at hl 2 rfl) ?_
  refine lv_iload_n hx hb dJ7_fill_d0a16_13 rfl (lv_at hl 0 rfl) ?_
  refine lv_lload_n hx hb dJ7_fill_d0a16_14 rfl (lv_at hl 3 rfl) ?_
  refine xa_lastS hx hb hK hP hD hS 0 1 rfl rfl (by omega) (by decide) (by decide +kernel) dJ7_fill_d0a16_15 (fun H locs hP hD hS => ?_)
  refine lv_iinc (v := nI 2) (lv' := [(3, .int (nI 2)), (4, .int (nI 25)), (0, .ref (h 231)), (1, .long (0 : Int64))]) hx hb dJ7_fill_d0a16_16 hl (k := 0) rfl (by decide +kernel) (by decide) rfl (fun ls hl => ?_)
  refine lv_goto (tgt := 6) hx hb dJ7_fill_d0a16_19 (by decide) ?_
  refine lv_iload_n hx hb dJ7_fill_d0a16_6 rfl (lv_at hl 0 rfl) ?_
  refine lv_iload hx hb dJ7_fill_d0a16_7 (lv_at hl 1 rfl) ?_
  refine lv_icmp_ge (tgt := 22) hx hb dJ7_fill_d0a16_9 (by decide) (fun c9 => False.elim (by revert c9; decide +kernel)) (fun _ => ?_)
  refine lv_aload_n hx hb dJ7_fill_d0a16_12 rfl (lv_at hl 2 rfl) ?_
  refine lv_iload_n hx hb dJ7_fill_d0a16_13 rfl (lv_at hl 0 rfl) ?_
  refine lv_lload_n hx hb dJ7_fill_d0a16_14 rfl (lv_at hl 3 rfl) ?_
  refine xa_lastS hx hb hK hP hD hS 0 1 rfl rfl (by omega) (by decide) (by decide +kernel) dJ7_fill_d0a16_15 (fun H locs hP hD hS => ?_)
  refine lv_iinc (v := nI 3) (lv' := [(3, .int (nI 3)), (4, .int (nI 25)), (0, .ref (h 231)), (1, .long (0 : Int64))]) hx hb dJ7_fill_d0a16_16 hl (k := 0) rfl (by decide +kernel) (by decide) rfl (fun ls hl => ?_)
  refine lv_goto (tgt := 6) hx hb dJ7_fill_d0a16_19 (by decide) ?_
  refine lv_iload_n hx hb dJ7_fill_d0a16_6 rfl (lv_at hl 0 rfl) ?_
  refine lv_iload hx hb dJ7_fill_d0a16_7 (lv_at hl 1 rfl) ?_
  refine lv_icmp_ge (tgt := 22) hx hb dJ7_fill_d0a16_9 (by decide) (fun c9 => False.elim (by revert c9; decide +kernel)) (fun _ => ?_)
  refine lv_aload_n hx hb dJ7_fill_d0a16_12 rfl (lv_at hl 2 rfl) ?_
  refine lv_iload_n hx hb dJ7_fill_d0a16_13 rfl (lv_at hl 0 rfl) ?_
  refine lv_lload_n hx hb dJ7_fill_d0a16_14 rfl (lv_at hl 3 rfl) ?_
  refine xa_lastS hx hb hK hP hD hS 0 1 rfl rfl (by omega) (by decide) (by decide +kernel) dJ7_fill_d0a16_15 (fun H locs hP hD hS => ?_)
  refine lv_iinc (v := nI 4) (lv' := [(3, .int (nI 4)), (4, .int (nI 25)), (0, .ref (h 231)), (1, .long (0 : Int64))]) hx hb dJ7_fill_d0a16_16 hl (k := 0) rfl (by decide +kernel) (by decide) rfl (fun ls hl => ?_)
  refine lv_goto (tgt := 6) hx hb dJ7_fill_d0a16_19 (by decide) ?_
  refine lv_iload_n hx hb dJ7_fill_d0a16_6 rfl (lv_at hl 0 rfl) ?_
  refine lv_iload hx hb dJ7_fill_d0a16_7 (lv_at hl 1 rfl) ?_
  refine lv_icmp_ge (tgt := 22) hx hb dJ7_fill_d0a16_9 (by decide) (fun c9 => False.elim (by revert c9; decide +kernel)) (fun _ => ?_)
  refine lv_aload_n hx hb dJ7_fill_d0a16_12 rfl (lv_at hl 2 rfl) ?_
  refine lv_iload_n hx hb dJ7_fill_d0a16_13 rfl (lv_at hl 0 rfl) ?_
  refine lv_lload_n hx hb dJ7_fill_d0a16_14 rfl (lv_at hl 3 rfl) ?_
  refine xa_lastS hx hb hK hP hD hS 0 1 rfl rfl (by omega) (by decide) (by decide +kernel) dJ7_fill_d0a16_15 (fun H locs hP hD hS => ?_)
  refine lv_iinc (v := nI 5) (lv' := [(3, .int (nI 5)), (4, .int (nI 25)), (0, .ref (h 231)), (1, .long (0 : Int64))]) hx hb dJ7_fill_d0a16_16 hl (k := 0) rfl (by decide +kernel) (by decide) rfl (fun ls hl => ?_)
  refine lv_goto (tgt := 6) hx hb dJ7_fill_d0a16_19 (by decide) ?_
  refine lv_iload_n hx hb dJ7_fill_d0a16_6 rfl (lv_at hl 0 rfl) ?_
  refine lv_iload hx hb dJ7_fill_d0a16_7 (lv_at hl 1 rfl) ?_
  refine lv_icmp_ge (tgt := 22) hx hb dJ7_fill_d0a16_9 (by decide) (fun c9 => False.elim (by revert c9; decide +kernel)) (fun _ => ?_)
  refine lv_aload_n hx hb dJ7_fill_d0a16_12 rfl (lv_at hl 2 rfl) ?_
  refine lv_iload_n hx hb dJ7_fill_d0a16_13 rfl (lv_at hl 0 rfl) ?_
  refine lv_lload_n hx hb dJ7_fill_d0a16_14 rfl (lv_at hl 3 rfl) ?_
  refine xa_lastS hx hb hK hP hD hS 0 1 rfl rfl (by omega) (by decide) (by decide +kernel) dJ7_fill_d0a16_15 (fun H locs hP hD hS => ?_)
  refine lv_iinc (v := nI 6) (lv' := [(3, .int (nI 6)), (4, .int (nI 25)), (0, .ref (h 231)), (1, .long (0 : Int64))]) hx hb dJ7_fill_d0a16_16 hl (k := 0) rfl (by decide +kernel) (by decide) rfl (fun ls hl => ?_)
  refine lv_goto (tgt := 6) hx hb dJ7_fill_d0a16_19 (by decide) ?_
  refine lv_iload_n hx hb dJ7_fill_d0a16_6 rfl (lv_at hl 0 rfl) ?_
  refine lv_iload hx hb dJ7_fill_d0a16_7 (lv_at hl 1 rfl) ?_
  refine lv_icmp_ge (tgt := 22) hx hb dJ7_fill_d0a16_9 (by decide) (fun c9 => False.elim (by revert c9; decide +kernel)) (fun _ => ?_)
  refine lv_aload_n hx hb dJ7_fill_d0a16_12 rfl (lv_at hl 2 rfl) ?_
  refine lv_iload_n hx hb dJ7_fill_d0a16_13 rfl (lv_at hl 0 rfl) ?_
  refine lv_lload_n hx hb dJ7_fill_d0a16_14 rfl (lv_at hl 3 rfl) ?_
  refine xa_lastS hx hb hK hP hD hS 0 1 rfl rfl (by omega) (by decide) (by decide +kernel) dJ7_fill_d0a16_15 (fun H locs hP hD hS => ?_)
  refine lv_iinc (v := nI 7) (lv' := [(3, .int (nI 7)), (4, .int (nI 25)), (0, .ref (h 231)), (1, .long (0 : Int64))]) hx hb dJ7_fill_d0a16_16 hl (k := 0) rfl (by decide +kernel) (by decide) rfl (fun ls hl => ?_)
  refine lv_goto (tgt := 6) hx hb dJ7_fill_d0a16_19 (by decide) ?_
  refine lv_iload_n hx hb dJ7_fill_d0a16_6 rfl (lv_at hl 0 rfl) ?_
  refine lv_iload hx hb dJ7_fill_d0a16_7 (lv_at hl 1 rfl) ?_
  refine lv_icmp_ge (tgt := 22) hx hb dJ7_fill_d0a16_9 (by decide) (fun c9 => False.elim (by revert c9; decide +kernel)) (fun _ => ?_)
  refine lv_aload_n hx hb dJ7_fill_d0a16_12 rfl (lv_at hl 2 rfl) ?_
  refine lv_iload_n hx hb dJ7_fill_d0a16_13 rfl (lv_at hl 0 rfl) ?_
  refine lv_lload_n hx hb dJ7_fill_d0a16_14 rfl (lv_at hl 3 rfl) ?_
  refine xa_lastS hx hb hK hP hD hS 0 1 rfl rfl (by omega) (by decide) (by decide +kernel) dJ7_fill_d0a16_15 (fun H locs hP hD hS => ?_)
  refine lv_iinc (v := nI 8) (lv' := [(3, .int (nI 8)), (4, .int (nI 25)), (0, .ref (h 231)), (1, .long (0 : Int64))]) hx hb dJ7_fill_d0a16_16 hl (k := 0) rfl (by decide +kernel) (by decide) rfl (fun ls hl => ?_)
  refine lv_goto (tgt := 6) hx hb dJ7_fill_d0a16_19 (by decide) ?_
  refine lv_iload_n hx hb dJ7_fill_d0a16_6 rfl (lv_at hl 0 rfl) ?_
  refine lv_iload hx hb dJ7_fill_d0a16_7 (lv_at hl 1 rfl) ?_
  refine lv_icmp_ge (tgt := 22) hx hb dJ7_fill_d0a16_9 (by decide) (fun c9 => False.elim (by revert c9; decide +kernel)) (fun _ => ?_)
  refine lv_aload_n hx hb dJ7_fill_d0a16_12 rfl (lv_at hl 2 rfl) ?_
  refine lv_iload_n hx hb dJ7_fill_d0a16_13 rfl (lv_at hl 0 rfl) ?_
  refine lv_lload_n hx hb dJ7_fill_d0a16_14 rfl (lv_at hl 3 rfl) ?_
  refine xa_lastS hx hb hK hP hD hS 0 1 rfl rfl (by omega) (by decide) (by decide +kernel) dJ7_fill_d0a16_15 (fun H locs hP hD hS => ?_)
  refine lv_iinc (v := nI 9) (lv' := [(3, .int (nI 9)), (4, .int (nI 25)), (0, .ref (h 231)), (1, .long (0 : Int64))]) hx hb dJ7_fill_d0a16_16 hl (k := 0) rfl (by decide +kernel) (by decide) rfl (fun ls hl => ?_)
  refine lv_goto (tgt := 6) hx hb dJ7_fill_d0a16_19 (by decide) ?_
  refine lv_iload_n hx hb dJ7_fill_d0a16_6 rfl (lv_at hl 0 rfl) ?_
  refine lv_iload hx hb dJ7_fill_d0a16_7 (lv_at hl 1 rfl) ?_
  refine lv_icmp_ge (tgt := 22) hx hb dJ7_fill_d0a16_9 (by decide) (fun c9 => False.elim (by revert c9; decide +kernel)) (fun _ => ?_)
  refine lv_aload_n hx hb dJ7_fill_d0a16_12 rfl (lv_at hl 2 rfl) ?_
  refine lv_iload_n hx hb dJ7_fill_d0a16_13 rfl (lv_at hl 0 rfl) ?_
  refine lv_lload_n hx hb dJ7_fill_d0a16_14 rfl (lv_at hl 3 rfl) ?_
  refine xa_lastS hx hb hK hP hD hS 0 1 rfl rfl (by omega) (by decide) (by decide +kernel) dJ7_fill_d0a16_15 (fun H locs hP hD hS => ?_)
  refine lv_iinc (v := nI 10) (lv' := [(3, .int (nI 10)), (4, .int (nI 25)), (0, .ref (h 231)), (1, .long (0 : Int64))]) hx hb dJ7_fill_d0a16_16 hl (k := 0) rfl (by decide +kernel) (by decide) rfl (fun ls hl => ?_)
  refine lv_goto (tgt := 6) hx hb dJ7_fill_d0a16_19 (by decide) ?_
  refine lv_iload_n hx hb dJ7_fill_d0a16_6 rfl (lv_at hl 0 rfl) ?_
  refine lv_iload hx hb dJ7_fill_d0a16_7 (lv_at hl 1 rfl) ?_
  refine lv_icmp_ge (tgt := 22) hx hb dJ7_fill_d0a16_9 (by decide) (fun c9 => False.elim (by revert c9; decide +kernel)) (fun _ => ?_)
  refine lv_aload_n hx hb dJ7_fill_d0a16_12 rfl (lv_at hl 2 rfl) ?_
  refine lv_iload_n hx hb dJ7_fill_d0a16_13 rfl (lv_at hl 0 rfl) ?_
  refine lv_lload_n hx hb dJ7_fill_d0a16_14 rfl (lv_at hl 3 rfl) ?_
  refine xa_lastS hx hb hK hP hD hS 0 1 rfl rfl (by omega) (by decide) (by decide +kernel) dJ7_fill_d0a16_15 (fun H locs hP hD hS => ?_)
  refine lv_iinc (v := nI 11) (lv' := [(3, .int (nI 11)), (4, .int (nI 25)), (0, .ref (h 231)), (1, .long (0 : Int64))]) hx hb dJ7_fill_d0a16_16 hl (k := 0) rfl (by decide +kernel) (by decide) rfl (fun ls hl => ?_)
  refine lv_goto (tgt := 6) hx hb dJ7_fill_d0a16_19 (by decide) ?_
  refine lv_iload_n hx hb dJ7_fill_d0a16_6 rfl (lv_at hl 0 rfl) ?_
  refine lv_iload hx hb dJ7_fill_d0a16_7 (lv_at hl 1 rfl) ?_
  refine lv_icmp_ge (tgt := 22) hx hb dJ7_fill_d0a16_9 (by decide) (fun c9 => False.elim (by revert c9; decide +kernel)) (fun _ => ?_)
  refine lv_aload_n hx hb dJ7_fill_d0a16_12 rfl (lv_at hl 2 rfl) ?_
  refine lv_iload_n hx hb dJ7_fill_d0a16_13 rfl (lv_at hl 0 rfl) ?_
  refine lv_lload_n hx hb dJ7_fill_d0a16_14 rfl (lv_at hl 3 rfl) ?_
  refine xa_lastS hx hb hK hP hD hS 0 1 rfl rfl (by omega) (by decide) (by decide +kernel) dJ7_fill_d0a16_15 (fun H locs hP hD hS => ?_)
  refine lv_iinc (v := nI 12) (lv' := [(3, .int (nI 12)), (4, .int (nI 25)), (0, .ref (h 231)), (1, .long (0 : Int64))]) hx hb dJ7_fill_d0a16_16 hl (k := 0) rfl (by decide +kernel) (by decide) rfl (fun ls hl => ?_)
  refine lv_goto (tgt := 6) hx hb dJ7_fill_d0a16_19 (by decide) ?_
  refine lv_iload_n hx hb dJ7_fill_d0a16_6 rfl (lv_at hl 0 rfl) ?_
  refine lv_iload hx hb dJ7_fill_d0a16_7 (lv_at hl 1 rfl) ?_
  refine lv_icmp_ge (tgt := 22) hx hb dJ7_fill_d0a16_9 (by decide) (fun c9 => False.elim (by revert c9; decide +kernel)) (fun _ => ?_)
  refine lv_aload_n hx hb dJ7_fill_d0a16_12 rfl (lv_at hl 2 rfl) ?_
  refine lv_iload_n hx hb dJ7_fill_d0a16_13 rfl (lv_at hl 0 rfl) ?_
  refine lv_lload_n hx hb dJ7_fill_d0a16_14 rfl (lv_at hl 3 rfl) ?_
  refine xa_lastS hx hb hK hP hD hS 0 1 rfl rfl (by omega) (by decide) (by decide +kernel) dJ7_fill_d0a16_15 (fun H locs hP hD hS => ?_)
  refine lv_iinc (v := nI 13) (lv' := [(3, .int (nI 13)), (4, .int (nI 25)), (0, .ref (h 231)), (1, .long (0 : Int64))]) hx hb dJ7_fill_d0a16_16 hl (k := 0) rfl (by decide +kernel) (by decide) rfl (fun ls hl => ?_)
  refine lv_goto (tgt := 6) hx hb dJ7_fill_d0a16_19 (by decide) ?_
  refine lv_iload_n hx hb dJ7_fill_d0a16_6 rfl (lv_at hl 0 rfl) ?_
  refine lv_iload hx hb dJ7_fill_d0a16_7 (lv_at hl 1 rfl) ?_
  refine lv_icmp_ge (tgt := 22) hx hb dJ7_fill_d0a16_9 (by decide) (fun c9 => False.elim (by revert c9; decide +kernel)) (fun _ => ?_)
  refine lv_aload_n hx hb dJ7_fill_d0a16_12 rfl (lv_at hl 2 rfl) ?_
  refine lv_iload_n hx hb dJ7_fill_d0a16_13 rfl (lv_at hl 0 rfl) ?_
  refine lv_lload_n hx hb dJ7_fill_d0a16_14 rfl (lv_at hl 3 rfl) ?_
  refine xa_lastS hx hb hK hP hD hS 0 1 rfl rfl (by omega) (by decide) (by decide +kernel) dJ7_fill_d0a16_15 (fun H locs hP hD hS => ?_)
  refine lv_iinc (v := nI 14) (lv' := [(3, .int (nI 14)), (4, .int (nI 25)), (0, .ref (h 231)), (1, .long (0 : Int64))]) hx hb dJ7_fill_d0a16_16 hl (k := 0) rfl (by decide +kernel) (by decide) rfl (fun ls hl => ?_)
  refine lv_goto (tgt := 6) hx hb dJ7_fill_d0a16_19 (by decide) ?_
  refine lv_iload_n hx hb dJ7_fill_d0a16_6 rfl (lv_at hl 0 rfl) ?_
  refine lv_iload hx hb dJ7_fill_d0a16_7 (lv_at hl 1 rfl) ?_
  refine lv_icmp_ge (tgt := 22) hx hb dJ7_fill_d0a16_9 (by decide) (fun c9 => False.elim (by revert c9; decide +kernel)) (fun _ => ?_)
  refine lv_aload_n hx hb dJ7_fill_d0a16_12 rfl (lv_at hl 2 rfl) ?_
  refine lv_iload_n hx hb dJ7_fill_d0a16_13 rfl (lv_at hl 0 rfl) ?_
  refine lv_lload_n hx hb dJ7_fill_d0a16_14 rfl (lv_at hl 3 rfl) ?_
  refine xa_lastS hx hb hK hP hD hS 0 1 rfl rfl (by omega) (by decide) (by decide +kernel) dJ7_fill_d0a16_15 (fun H locs hP hD hS => ?_)
  refine lv_iinc (v := nI 15) (lv' := [(3, .int (nI 15)), (4, .int (nI 25)), (0, .ref (h 231)), (1, .long (0 : Int64))]) hx hb dJ7_fill_d0a16_16 hl (k := 0) rfl (by decide +kernel) (by decide) rfl (fun ls hl => ?_)
  refine lv_goto (tgt := 6) hx hb dJ7_fill_d0a16_19 (by decide) ?_
  refine lv_iload_n hx hb dJ7_fill_d0a16_6 rfl (lv_at hl 0 rfl) ?_
  refine lv_iload hx hb dJ7_fill_d0a16_7 (lv_at hl 1 rfl) ?_
  refine lv_icmp_ge (tgt := 22) hx hb dJ7_fill_d0a16_9 (by decide) (fun c9 => False.elim (by revert c9; decide +kernel)) (fun _ => ?_)
  refine lv_aload_n hx hb dJ7_fill_d0a16_12 rfl (lv_at hl 2 rfl) ?_
  refine lv_iload_n hx hb dJ7_fill_d0a16_13 rfl (lv_at hl 0 rfl) ?_
  refine lv_lload_n hx hb dJ7_fill_d0a16_14 rfl (lv_at hl 3 rfl) ?_
  refine xa_lastS hx hb hK hP hD hS 0 1 rfl rfl (by omega) (by decide) (by decide +kernel) dJ7_fill_d0a16_15 (fun H locs hP hD hS => ?_)
  refine lv_iinc (v := nI 16) (lv' := [(3, .int (nI 16)), (4, .int (nI 25)), (0, .ref (h 231)), (1, .long (0 : Int64))]) hx hb dJ7_fill_d0a16_16 hl (k := 0) rfl (by decide +kernel) (by decide) rfl (fun ls hl => ?_)
  refine lv_goto (tgt := 6) hx hb dJ7_fill_d0a16_19 (by decide) ?_
  refine lv_iload_n hx hb dJ7_fill_d0a16_6 rfl (lv_at hl 0 rfl) ?_
  refine lv_iload hx hb dJ7_fill_d0a16_7 (lv_at hl 1 rfl) ?_
  refine lv_icmp_ge (tgt := 22) hx hb dJ7_fill_d0a16_9 (by decide) (fun c9 => False.elim (by revert c9; decide +kernel)) (fun _ => ?_)
  refine lv_aload_n hx hb dJ7_fill_d0a16_12 rfl (lv_at hl 2 rfl) ?_
  refine lv_iload_n hx hb dJ7_fill_d0a16_13 rfl (lv_at hl 0 rfl) ?_
  refine lv_lload_n hx hb dJ7_fill_d0a16_14 rfl (lv_at hl 3 rfl) ?_
  refine xa_lastS hx hb hK hP hD hS 0 1 rfl rfl (by omega) (by decide) (by decide +kernel) dJ7_fill_d0a16_15 (fun H locs hP hD hS => ?_)
  refine lv_iinc (v := nI 17) (lv' := [(3, .int (nI 17)), (4, .int (nI 25)), (0, .ref (h 231)), (1, .long (0 : Int64))]) hx hb dJ7_fill_d0a16_16 hl (k := 0) rfl (by decide +kernel) (by decide) rfl (fun ls hl => ?_)
  refine lv_goto (tgt := 6) hx hb dJ7_fill_d0a16_19 (by decide) ?_
  refine lv_iload_n hx hb dJ7_fill_d0a16_6 rfl (lv_at hl 0 rfl) ?_
  refine lv_iload hx hb dJ7_fill_d0a16_7 (lv_at hl 1 rfl) ?_
  refine lv_icmp_ge (tgt := 22) hx hb dJ7_fill_d0a16_9 (by decide) (fun c9 => False.elim (by revert c9; decide +kernel)) (fun _ => ?_)
  refine lv_aload_n hx hb dJ7_fill_d0a16_12 rfl (lv_at hl 2 rfl) ?_
  refine lv_iload_n hx hb dJ7_fill_d0a16_13 rfl (lv_at hl 0 rfl) ?_
  refine lv_lload_n hx hb dJ7_fill_d0a16_14 rfl (lv_at hl 3 rfl) ?_
  refine xa_lastS hx hb hK hP hD hS 0 1 rfl rfl (by omega) (by decide) (by decide +kernel) dJ7_fill_d0a16_15 (fun H locs hP hD hS => ?_)
  refine lv_iinc (v := nI 18) (lv' := [(3, .int (nI 18)), (4, .int (nI 25)), (0, .ref (h 231)), (1, .long (0 : Int64))]) hx hb dJ7_fill_d0a16_16 hl (k := 0) rfl (by decide +kernel) (by decide) rfl (fun ls hl => ?_)
  refine lv_goto (tgt := 6) hx hb dJ7_fill_d0a16_19 (by decide) ?_
  refine lv_iload_n hx hb dJ7_fill_d0a16_6 rfl (lv_at hl 0 rfl) ?_
  refine lv_iload hx hb dJ7_fill_d0a16_7 (lv_at hl 1 rfl) ?_
  refine lv_icmp_ge (tgt := 22) hx hb dJ7_fill_d0a16_9 (by decide) (fun c9 => False.elim (by revert c9; decide +kernel)) (fun _ => ?_)
  refine lv_aload_n hx hb dJ7_fill_d0a16_12 rfl (lv_at hl 2 rfl) ?_
  refine lv_iload_n hx hb dJ7_fill_d0a16_13 rfl (lv_at hl 0 rfl) ?_
  refine lv_lload_n hx hb dJ7_fill_d0a16_14 rfl (lv_at hl 3 rfl) ?_
  refine xa_lastS hx hb hK hP hD hS 0 1 rfl rfl (by omega) (by decide) (by decide +kernel) dJ7_fill_d0a16_15 (fun H locs hP hD hS => ?_)
  refine lv_iinc (v := nI 19) (lv' := [(3, .int (nI 19)), (4, .int (nI 25)), (0, .ref (h 231)), (1, .long (0 : Int64))]) hx hb dJ7_fill_d0a16_16 hl (k := 0) rfl (by decide +kernel) (by decide) rfl (fun ls hl => ?_)
  refine lv_goto (tgt := 6) hx hb dJ7_fill_d0a16_19 (by decide) ?_
  refine lv_iload_n hx hb dJ7_fill_d0a16_6 rfl (lv_at hl 0 rfl) ?_
  refine lv_iload hx hb dJ7_fill_d0a16_7 (lv_at hl 1 rfl) ?_
  refine lv_icmp_ge (tgt := 22) hx hb dJ7_fill_d0a16_9 (by decide) (fun c9 => False.elim (by revert c9; decide +kernel)) (fun _ => ?_)
  refine lv_aload_n hx hb dJ7_fill_d0a16_12 rfl (lv_at hl 2 rfl) ?_
  refine lv_iload_n hx hb dJ7_fill_d0a16_13 rfl (lv_at hl 0 rfl) ?_
  refine lv_lload_n hx hb dJ7_fill_d0a16_14 rfl (lv_at hl 3 rfl) ?_
  refine xa_lastS hx hb hK hP hD hS 0 1 rfl rfl (by omega) (by decide) (by decide +kernel) dJ7_fill_d0a16_15 (fun H locs hP hD hS => ?_)
  refine lv_iinc (v := nI 20) (lv' := [(3, .int (nI 20)), (4, .int (nI 25)), (0, .ref (h 231)), (1, .long (0 : Int64))]) hx hb dJ7_fill_d0a16_16 hl (k := 0) rfl (by decide +kernel) (by decide) rfl (fun ls hl => ?_)
  refine lv_goto (tgt := 6) hx hb dJ7_fill_d0a16_19 (by decide) ?_
  refine lv_iload_n hx hb dJ7_fill_d0a16_6 rfl (lv_at hl 0 rfl) ?_
  refine lv_iload hx hb dJ7_fill_d0a16_7 (lv_at hl 1 rfl) ?_
  refine lv_icmp_ge (tgt := 22) hx hb dJ7_fill_d0a16_9 (by decide) (fun c9 => False.elim (by revert c9; decide +kernel)) (fun _ => ?_)
  refine lv_aload_n hx hb dJ7_fill_d0a16_12 rfl (lv_at hl 2 rfl) ?_
  refine lv_iload_n hx hb dJ7_fill_d0a16_13 rfl (lv_at hl 0 rfl) ?_
  refine lv_lload_n hx hb dJ7_fill_d0a16_14 rfl (lv_at hl 3 rfl) ?_
  refine xa_lastS hx hb hK hP hD hS 0 1 rfl rfl (by omega) (by decide) (by decide +kernel) dJ7_fill_d0a16_15 (fun H locs hP hD hS => ?_)
  refine lv_iinc (v := nI 21) (lv' := [(3, .int (nI 21)), (4, .int (nI 25)), (0, .ref (h 231)), (1, .long (0 : Int64))]) hx hb dJ7_fill_d0a16_16 hl (k := 0) rfl (by decide +kernel) (by decide) rfl (fun ls hl => ?_)
  refine lv_goto (tgt := 6) hx hb dJ7_fill_d0a16_19 (by decide) ?_
  refine lv_iload_n hx hb dJ7_fill_d0a16_6 rfl (lv_at hl 0 rfl) ?_
  refine lv_iload hx hb dJ7_fill_d0a16_7 (lv_at hl 1 rfl) ?_
  refine lv_icmp_ge (tgt := 22) hx hb dJ7_fill_d0a16_9 (by decide) (fun c9 => False.elim (by revert c9; decide +kernel)) (fun _ => ?_)
  refine lv_aload_n hx hb dJ7_fill_d0a16_12 rfl (lv_at hl 2 rfl) ?_
  refine lv_iload_n hx hb dJ7_fill_d0a16_13 rfl (lv_at hl 0 rfl) ?_
  refine lv_lload_n hx hb dJ7_fill_d0a16_14 rfl (lv_at hl 3 rfl) ?_
  refine xa_lastS hx hb hK hP hD hS 0 1 rfl rfl (by omega) (by decide) (by decide +kernel) dJ7_fill_d0a16_15 (fun H locs hP hD hS => ?_)
  refine lv_iinc (v := nI 22) (lv' := [(3, .int (nI 22)), (4, .int (nI 25)), (0, .ref (h 231)), (1, .long (0 : Int64))]) hx hb dJ7_fill_d0a16_16 hl (k := 0) rfl (by decide +kernel) (by decide) rfl (fun ls hl => ?_)
  refine lv_goto (tgt := 6) hx hb dJ7_fill_d0a16_19 (by decide) ?_
  refine lv_iload_n hx hb dJ7_fill_d0a16_6 rfl (lv_at hl 0 rfl) ?_
  refine lv_iload hx hb dJ7_fill_d0a16_7 (lv_at hl 1 rfl) ?_
  refine lv_icmp_ge (tgt := 22) hx hb dJ7_fill_d0a16_9 (by decide) (fun c9 => False.elim (by revert c9; decide +kernel)) (fun _ => ?_)
  refine lv_aload_n hx hb dJ7_fill_d0a16_12 rfl (lv_at hl 2 rfl) ?_
  refine lv_iload_n hx hb dJ7_fill_d0a16_13 rfl (lv_at hl 0 rfl) ?_
  refine lv_lload_n hx hb dJ7_fill_d0a16_14 rfl (lv_at hl 3 rfl) ?_
  refine xa_lastS hx hb hK hP hD hS 0 1 rfl rfl (by omega) (by decide) (by decide +kernel) dJ7_fill_d0a16_15 (fun H locs hP hD hS => ?_)
  refine lv_iinc (v := nI 23) (lv' := [(3, .int (nI 23)), (4, .int (nI 25)), (0, .ref (h 231)), (1, .long (0 : Int64))]) hx hb dJ7_fill_d0a16_16 hl (k := 0) rfl (by decide +kernel) (by decide) rfl (fun ls hl => ?_)
  refine lv_goto (tgt := 6) hx hb dJ7_fill_d0a16_19 (by decide) ?_
  refine lv_iload_n hx hb dJ7_fill_d0a16_6 rfl (lv_at hl 0 rfl) ?_
  refine lv_iload hx hb dJ7_fill_d0a16_7 (lv_at hl 1 rfl) ?_
  refine lv_icmp_ge (tgt := 22) hx hb dJ7_fill_d0a16_9 (by decide) (fun c9 => False.elim (by revert c9; decide +kernel)) (fun _ => ?_)
  refine lv_aload_n hx hb dJ7_fill_d0a16_12 rfl (lv_at hl 2 rfl) ?_
  refine lv_iload_n hx hb dJ7_fill_d0a16_13 rfl (lv_at hl 0 rfl) ?_
  refine lv_lload_n hx hb dJ7_fill_d0a16_14 rfl (lv_at hl 3 rfl) ?_
  refine xa_lastS hx hb hK hP hD hS 0 1 rfl rfl (by omega) (by decide) (by decide +kernel) dJ7_fill_d0a16_15 (fun H locs hP hD hS => ?_)
  refine lv_iinc (v := nI 24) (lv' := [(3, .int (nI 24)), (4, .int (nI 25)), (0, .ref (h 231)), (1, .long (0 : Int64))]) hx hb dJ7_fill_d0a16_16 hl (k := 0) rfl (by decide +kernel) (by decide) rfl (fun ls hl => ?_)
  refine lv_goto (tgt := 6) hx hb dJ7_fill_d0a16_19 (by decide) ?_
  refine lv_iload_n hx hb dJ7_fill_d0a16_6 rfl (lv_at hl 0 rfl) ?_
  refine lv_iload hx hb dJ7_fill_d0a16_7 (lv_at hl 1 rfl) ?_
  refine lv_icmp_ge (tgt := 22) hx hb dJ7_fill_d0a16_9 (by decide) (fun c9 => False.elim (by revert c9; decide +kernel)) (fun _ => ?_)
  refine lv_aload_n hx hb dJ7_fill_d0a16_12 rfl (lv_at hl 2 rfl) ?_
  refine lv_iload_n hx hb dJ7_fill_d0a16_13 rfl (lv_at hl 0 rfl) ?_
  refine lv_lload_n hx hb dJ7_fill_d0a16_14 rfl (lv_at hl 3 rfl) ?_
  refine xa_lastS hx hb hK hP hD hS 0 1 rfl rfl (by omega) (by decide) (by decide +kernel) dJ7_fill_d0a16_15 (fun H locs hP hD hS => ?_)
  refine lv_iinc (v := nI 25) (lv' := [(3, .int (nI 25)), (4, .int (nI 25)), (0, .ref (h 231)), (1, .long (0 : Int64))]) hx hb dJ7_fill_d0a16_16 hl (k := 0) rfl (by decide +kernel) (by decide) rfl (fun ls hl => ?_)
  refine lv_goto (tgt := 6) hx hb dJ7_fill_d0a16_19 (by decide) ?_
  refine lv_iload_n hx hb dJ7_fill_d0a16_6 rfl (lv_at hl 0 rfl) ?_
  refine lv_iload hx hb dJ7_fill_d0a16_7 (lv_at hl 1 rfl) ?_
  refine lv_icmp_ge (tgt := 22) hx hb dJ7_fill_d0a16_9 (by decide) (fun _ => ?_) (fun c9 => False.elim (by revert c9; decide +kernel))
  exact xr_v hx hb hr hlocks hK hS dJ7_fill_d0a16_22 (fI, fL, fA, fQ, fG, fJ) ⟨trivial, rfl⟩ hP hD
set_option maxHeartbeats 4000000 in
set_option maxRecDepth 100000 in
theorem f_X5_renew3 (l : Launch) (dC : Nat → ClassId) (dI : Nat → Nat → Nat) (h : Nat → Nat) (cs : Nat → ClassId) (sz : Nat) (I : Nat → Int32) (L : Nat → Int64) (A : Nat → Nat → Int32) (Q : Nat → Nat → Int64) (G : Nat → Nat → Nat → Int32) (J : Nat → Nat → Nat → Int64) (y z : Int32) : Met l yX5_renew wsX5_renew ({ frames := 1, cells := 0, slots := 0, locals := 24 }) (va_Pc [.ref (h 113), .int y, .int z] (xPre (dC, dI) (wSh3 h cs fI fL fA fQ fG fJ) (tysA cs) sz)) (va_Qv (fun (u : CS) => ∃ i223 : Int32, ∃ i227 : Int32, (True) ∧ u = ((va_up (va_up fI 223 i223) 227 i227), fL, fA, fQ, fG, fJ)) (xB (dC, dI) (tysA cs) (va_A (wSh3 h cs fI fL fA fQ fG fJ) sz) (fun u : CS => wSh3 h cs u.1 u.2.1 u.2.2.1 u.2.2.2.1 u.2.2.2.2.1 u.2.2.2.2.2)) (va_A (wSh3 h cs fI fL fA fQ fG fJ) sz)) 0 0 (va_A (wSh3 h cs fI fL fA fQ fG fJ) sz) := by
  refine Met.ofW (cc := cX5_renew) (maxL := 3) (ret := none) (by decide) rfl ?_
  intro p e s m args below meth c s₁ B hml hv
  obtain ⟨rfl, hsz, hP, hK, hD0, hN⟩ := hv
  have hx := B.exec
  have hb := B.bytes
  have hr := B.returns
  have hts := atoms_spec (ws := wsX5_renew) B.pre
  have hown : s.vm.findClass RX5 = some m.cls := findClass_of_methodNamed B.named
  have hlocks := B.notSynchronized
  subst hsz
  have hD := hD0.self (sz := s.heap.size)
  generalize hAe : va_A (wSh3 h cs fI fL fA fQ fG fJ) s.heap.size = A0 at hD ⊢
  have hA : ∀ q : Nat, s.heap.size ≤ q → A0 q := fun q h => by rw [← hAe]; exact Or.inr h
  have hl := lv_entry ([.ref (h 113), .int y, .int z]) (n := 3) (Nat.le_of_ble_eq_true rfl)
  rw [lg_entry_eq]
  generalize (lg_sl ([.ref (h 113), .int y, .int z]) ++ List.replicate (3 - (lg_sl ([.ref (h 113), .int y, .int z])).length) Slot.unset).toArray = ls at hl ⊢
  have hl : lv_has ls 3 [(0, .ref (h 113)), (1, .int y), (2, .int z)] := hl
  generalize hH : s.heap = H at hP ⊢
  have hS : va_S A0 s.heap H [] := by rw [← hH]; exact va_S.rf
  have hinX5 : ∀ w ∈ wsX50, w ∈ wsX5_renew := by decide +kernel
  refine lv_aload_n hx hb dX5_renew_0 rfl (lv_at hl 0 rfl) ?_
  refine lv_iload_n hx hb dX5_renew_1 rfl (lv_at hl 1 rfl) ?_
  refine va_put (D := (dC, dI)) (ci := 5) (v := .int y) (ty := .int) (C := RX5) (T := TX5) (N := 3) hx hb hts hinX5 tyX5 tyX5_ok nmX5 hown hK hP hD hS 0 rfl rfl 0 (by decide) (hts (.fieldLink RX5 11 "MixedWords$Sheet" "lane" "I") (by decide +kernel)) (fun _ h9 => h9) rfl (by decide +kernel) rfl rfl (Nat.le_of_ble_eq_true rfl) dX5_renew_2 (fun H locs hP hD hS => ?_)
  have hP : va_P (dC, dI) vwCl (wSh3 h cs (va_up fI 223 y) fL fA fQ fG fJ) H := hP
  have hD : va_D A0 (wSh3 h cs (va_up fI 223 y) fL fA fQ fG fJ) := hD
  refine lv_aload_n hx hb dX5_renew_5 rfl (lv_at hl 0 rfl) ?_
  refine lv_iload_n hx hb dX5_renew_6 rfl (lv_at hl 2 rfl) ?_
  refine va_put (D := (dC, dI)) (ci := 5) (v := .int z) (ty := .int) (C := RX5) (T := TX5) (N := 3) hx hb hts hinX5 tyX5 tyX5_ok nmX5 hown hK hP hD hS 0 rfl rfl 1 (by decide) (hts (.fieldLink RX5 15 "MixedWords$Sheet" "length" "I") (by decide +kernel)) (fun _ h9 => h9) rfl (by decide +kernel) rfl rfl (Nat.le_of_ble_eq_true rfl) dX5_renew_7 (fun H locs hP hD hS => ?_)
  have hP : va_P (dC, dI) vwCl (wSh3 h cs (va_up (va_up fI 223 y) 227 z) fL fA fQ fG fJ) H := hP
  have hD : va_D A0 (wSh3 h cs (va_up (va_up fI 223 y) 227 z) fL fA fQ fG fJ) := hD
  refine lv_aload_n hx hb dX5_renew_10 rfl (lv_at hl 0 rfl) ?_
  refine va_get (D := (dC, dI)) (ci := 5) (v := .ref (h 231)) (C := RX5) (T := TX5) (N := 3) hx hb hts hinX5 hown hK hP 0 rfl rfl 2 (by decide) (hts (.fieldLink RX5 18 "MixedWords$Sheet" "items" "[J") (by decide +kernel)) (fun _ h9 => h9) rfl dX5_renew_11 ?_
  refine lv_lconst (v := 0) hx hb dX5_renew_14 rfl ?_
  refine xj_v (wc := (wD_172 h cs fI fL fA fQ fG fJ)) (wr := [(h 113, .inr (5, [.int (y), .int (z), .ref (h 231)]))]) hP hD hS hA [1] [0] rfl rfl (by decide) (by decide) (va_runS (As := [.ref (h 231), .long (0 : Int64)]) (rest := []) ⟨hx, hb, hml, hown, hts⟩ (a_J7_fill_d0a16_173 l dC dI h cs H.size fI fL fA fQ fG fJ ) (va_cwS 2 hts gX5_renew_J7_fill_d0a16 rfl rfl rfl (by decide +kernel) ⟨Nat.le_of_ble_eq_true rfl, Nat.le_of_ble_eq_true rfl⟩) (xpS (wc := (wD_172 h cs fI fL fA fQ fG fJ)) hP hD hK hN [1] rfl (by decide) _) rfl rfl hl.1 rfl (lv_room (Nat.le_of_ble_eq_true rfl)) dX5_renew_15 ⟨Nat.zero_le _, Nat.zero_le _⟩) (fun u_1 H locs hw hP hD hS => ?_)
  obtain ⟨hf_3, rfl⟩ := hw
  have hP : va_P (dC, dI) vwCl (wSh3 h cs (va_up (va_up fI 223 y) 227 z) fL fA fQ fG fJ) H := hP
  have hD : va_D A0 (wSh3 h cs (va_up (va_up fI 223 y) 227 z) fL fA fQ fG fJ) := hD
  exact xr_v hx hb hr hlocks hK hS dX5_renew_18 ((va_up (va_up fI 223 y) 227 z), fL, fA, fQ, fG, fJ) ⟨y, z, trivial, rfl⟩ hP hD
set_option maxHeartbeats 4000000 in
set_option maxRecDepth 100000 in
theorem a_X9_isLane_174 (l : Launch) (dC : Nat → ClassId) (dI : Nat → Nat → Nat) (h : Nat → Nat) (cs : Nat → ClassId) (sz : Nat) (I : Nat → Int32) (L : Nat → Int64) (A : Nat → Nat → Int32) (Q : Nat → Nat → Int64) (G : Nat → Nat → Nat → Int32) (J : Nat → Nat → Nat → Int64) : Met l yX9_isLane wsX9_isLane ({ frames := 0, cells := 0, slots := 0, locals := 0 }) (va_Pc [.int (nI 0)] (xPre (dC, dI) ([] : va_W) (tysA cs) sz)) (va_Qi (fun (r : Int32) (u : CS) => (r = nI 1) ∧ u = (I, L, A, Q, G, J)) (xB (dC, dI) (tysA cs) (va_A ([] : va_W) sz) (fun _ : CS => ([] : va_W))) (va_A ([] : va_W) sz)) 0 0 (va_A ([] : va_W) sz) := by
  refine Met.ofW (cc := cX9_isLane) (maxL := 1) (ret := (some .boolean)) (by decide) rfl ?_
  intro p e s m args below meth c s₁ B hml hv
  obtain ⟨rfl, hsz, hP, hK, hD0, hN⟩ := hv
  have hx := B.exec
  have hb := B.bytes
  have hr := B.returns
  have hts := atoms_spec (ws := wsX9_isLane) B.pre
  have hown : s.vm.findClass RX9 = some m.cls := findClass_of_methodNamed B.named
  have hlocks := B.notSynchronized
  subst hsz
  have hD := hD0.self (sz := s.heap.size)
  generalize hAe : va_A ([] : va_W) s.heap.size = A0 at hD ⊢
  have hA : ∀ q : Nat, s.heap.size ≤ q → A0 q := fun q h => by rw [← hAe]; exact Or.inr h
  have hl := lv_entry ([.int (nI 0)]) (n := 1) (Nat.le_of_ble_eq_true rfl)
  rw [lg_entry_eq]
  generalize (lg_sl ([.int (nI 0)]) ++ List.replicate (1 - (lg_sl ([.int (nI 0)])).length) Slot.unset).toArray = ls at hl ⊢
  have hl : lv_has ls 1 [(0, .int (nI 0))] := hl
  generalize hH : s.heap = H at hP ⊢
  have hS : va_S A0 s.heap H [] := by rw [← hH]; exact va_S.rf
  refine lv_iload_n hx hb dX9_isLane_0 rfl (lv_at hl 0 rfl) ?_
  refine lv_if_lt (tgt := 13) hx hb dX9_isLane_1 (by decide) (fun c9 => False.elim (by revert c9; decide +kernel)) (fun _ => ?_)
  refine lv_iload_n hx hb dX9_isLane_4 rfl (lv_at hl 0 rfl) ?_
  refine lv_iconst (v := nI 3) hx hb dX9_isLane_5 (by decide) ?_
  refine lv_icmp_ge (tgt := 13) hx hb dX9_isLane_6 (by decide) (fun c9 => False.elim (by revert c9; decide +kernel)) (fun _ => ?_)
  refine lv_iconst (v := nI 1) hx hb dX9_isLane_9 (by decide) ?_
  refine lv_goto (tgt := 14) hx hb dX9_isLane_10 (by decide) ?_
  exact xr_z (v := (nI 1)) hx hb hr hlocks hK hS dX9_isLane_14 (rfl) (I, L, A, Q, G, J) ⟨rfl, rfl⟩ hP hD
set_option maxHeartbeats 4000000 in
set_option maxRecDepth 100000 in
theorem a_X9_isLane_175 (l : Launch) (dC : Nat → ClassId) (dI : Nat → Nat → Nat) (h : Nat → Nat) (cs : Nat → ClassId) (sz : Nat) (I : Nat → Int32) (L : Nat → Int64) (A : Nat → Nat → Int32) (Q : Nat → Nat → Int64) (G : Nat → Nat → Nat → Int32) (J : Nat → Nat → Nat → Int64) : Met l yX9_isLane wsX9_isLane ({ frames := 0, cells := 0, slots := 0, locals := 0 }) (va_Pc [.int (nI 1)] (xPre (dC, dI) ([] : va_W) (tysA cs) sz)) (va_Qi (fun (r : Int32) (u : CS) => (r = nI 1) ∧ u = (I, L, A, Q, G, J)) (xB (dC, dI) (tysA cs) (va_A ([] : va_W) sz) (fun _ : CS => ([] : va_W))) (va_A ([] : va_W) sz)) 0 0 (va_A ([] : va_W) sz) := by
  refine Met.ofW (cc := cX9_isLane) (maxL := 1) (ret := (some .boolean)) (by decide) rfl ?_
  intro p e s m args below meth c s₁ B hml hv
  obtain ⟨rfl, hsz, hP, hK, hD0, hN⟩ := hv
  have hx := B.exec
  have hb := B.bytes
  have hr := B.returns
  have hts := atoms_spec (ws := wsX9_isLane) B.pre
  have hown : s.vm.findClass RX9 = some m.cls := findClass_of_methodNamed B.named
  have hlocks := B.notSynchronized
  subst hsz
  have hD := hD0.self (sz := s.heap.size)
  generalize hAe : va_A ([] : va_W) s.heap.size = A0 at hD ⊢
  have hA : ∀ q : Nat, s.heap.size ≤ q → A0 q := fun q h => by rw [← hAe]; exact Or.inr h
  have hl := lv_entry ([.int (nI 1)]) (n := 1) (Nat.le_of_ble_eq_true rfl)
  rw [lg_entry_eq]
  generalize (lg_sl ([.int (nI 1)]) ++ List.replicate (1 - (lg_sl ([.int (nI 1)])).length) Slot.unset).toArray = ls at hl ⊢
  have hl : lv_has ls 1 [(0, .int (nI 1))] := hl
  generalize hH : s.heap = H at hP ⊢
  have hS : va_S A0 s.heap H [] := by rw [← hH]; exact va_S.rf
  refine lv_iload_n hx hb dX9_isLane_0 rfl (lv_at hl 0 rfl) ?_
  refine lv_if_lt (tgt := 13) hx hb dX9_isLane_1 (by decide) (fun c9 => False.elim (by revert c9; decide +kernel)) (fun _ => ?_)
  refine lv_iload_n hx hb dX9_isLane_4 rfl (lv_at hl 0 rfl) ?_
  refine lv_iconst (v := nI 3) hx hb dX9_isLane_5 (by decide) ?_
  refine lv_icmp_ge (tgt := 13) hx hb dX9_isLane_6 (by decide) (fun c9 => False.elim (by revert c9; decide +kernel)) (fun _ => ?_)
  refine lv_iconst (v := nI 1) hx hb dX9_isLane_9 (by decide) ?_
  refine lv_goto (tgt := 14) hx hb dX9_isLane_10 (by decide) ?_
  exact xr_z (v := (nI 1)) hx hb hr hlocks hK hS dX9_isLane_14 (rfl) (I, L, A, Q, G, J) ⟨rfl, rfl⟩ hP hD
set_option maxHeartbeats 4000000 in
set_option maxRecDepth 100000 in
theorem a_X9_isLane_176 (l : Launch) (dC : Nat → ClassId) (dI : Nat → Nat → Nat) (h : Nat → Nat) (cs : Nat → ClassId) (sz : Nat) (I : Nat → Int32) (L : Nat → Int64) (A : Nat → Nat → Int32) (Q : Nat → Nat → Int64) (G : Nat → Nat → Nat → Int32) (J : Nat → Nat → Nat → Int64) : Met l yX9_isLane wsX9_isLane ({ frames := 0, cells := 0, slots := 0, locals := 0 }) (va_Pc [.int (nI 2)] (xPre (dC, dI) ([] : va_W) (tysA cs) sz)) (va_Qi (fun (r : Int32) (u : CS) => (r = nI 1) ∧ u = (I, L, A, Q, G, J)) (xB (dC, dI) (tysA cs) (va_A ([] : va_W) sz) (fun _ : CS => ([] : va_W))) (va_A ([] : va_W) sz)) 0 0 (va_A ([] : va_W) sz) := by
  refine Met.ofW (cc := cX9_isLane) (maxL := 1) (ret := (some .boolean)) (by decide) rfl ?_
  intro p e s m args below meth c s₁ B hml hv
  obtain ⟨rfl, hsz, hP, hK, hD0, hN⟩ := hv
  have hx := B.exec
  have hb := B.bytes
  have hr := B.returns
  have hts := atoms_spec (ws := wsX9_isLane) B.pre
  have hown : s.vm.findClass RX9 = some m.cls := findClass_of_methodNamed B.named
  have hlocks := B.notSynchronized
  subst hsz
  have hD := hD0.self (sz := s.heap.size)
  generalize hAe : va_A ([] : va_W) s.heap.size = A0 at hD ⊢
  have hA : ∀ q : Nat, s.heap.size ≤ q → A0 q := fun q h => by rw [← hAe]; exact Or.inr h
  have hl := lv_entry ([.int (nI 2)]) (n := 1) (Nat.le_of_ble_eq_true rfl)
  rw [lg_entry_eq]
  generalize (lg_sl ([.int (nI 2)]) ++ List.replicate (1 - (lg_sl ([.int (nI 2)])).length) Slot.unset).toArray = ls at hl ⊢
  have hl : lv_has ls 1 [(0, .int (nI 2))] := hl
  generalize hH : s.heap = H at hP ⊢
  have hS : va_S A0 s.heap H [] := by rw [← hH]; exact va_S.rf
  refine lv_iload_n hx hb dX9_isLane_0 rfl (lv_at hl 0 rfl) ?_
  refine lv_if_lt (tgt := 13) hx hb dX9_isLane_1 (by decide) (fun c9 => False.elim (by revert c9; decide +kernel)) (fun _ => ?_)
  refine lv_iload_n hx hb dX9_isLane_4 rfl (lv_at hl 0 rfl) ?_
  refine lv_iconst (v := nI 3) hx hb dX9_isLane_5 (by decide) ?_
  refine lv_icmp_ge (tgt := 13) hx hb dX9_isLane_6 (by decide) (fun c9 => False.elim (by revert c9; decide +kernel)) (fun _ => ?_)
  refine lv_iconst (v := nI 1) hx hb dX9_isLane_9 (by decide) ?_
  refine lv_goto (tgt := 14) hx hb dX9_isLane_10 (by decide) ?_
  exact xr_z (v := (nI 1)) hx hb hr hlocks hK hS dX9_isLane_14 (rfl) (I, L, A, Q, G, J) ⟨rfl, rfl⟩ hP hD
set_option maxRecDepth 20000 in
theorem ggX9_sheet_X9_isSheet : GoodIn wsX9_sheet wsX9_isSheet := goodIn_r _ [5] (by decide +kernel) (by decide +kernel)
set_option maxRecDepth 20000 in
theorem gX9_sheet_X9_isSheet : GoodIn wsX9_sheet (va_wsS RX9 266 yX9_isSheet wsX9_isSheet) := goodIn_app (goodIn_of _ (by decide +kernel)) ggX9_sheet_X9_isSheet
set_option maxRecDepth 20000 in
theorem ggX9_sheet_X9_isLane : GoodIn wsX9_sheet wsX9_isLane := goodIn_r _ [8] (by decide +kernel) (by decide +kernel)
set_option maxRecDepth 20000 in
theorem gX9_sheet_X9_isLane : GoodIn wsX9_sheet (va_wsS RX9 269 yX9_isLane wsX9_isLane) := goodIn_app (goodIn_of _ (by decide +kernel)) ggX9_sheet_X9_isLane
set_option maxRecDepth 20000 in
theorem ggX9_sheet_X5_renew : GoodIn wsX9_sheet wsX5_renew := goodIn_r _ [13, 14, 15, 16, 17, 18, 19, 20, 30, 31, 32] (by decide +kernel) (by decide +kernel)
set_option maxRecDepth 20000 in
theorem gX9_sheet_X5_renew : GoodIn wsX9_sheet (wsV RX9 272 RX5 yX5_renew wsX5_renew) := goodIn_app (goodIn_of _ (by decide +kernel)) ggX9_sheet_X5_renew
theorem dX9_sheet_0 : decode cX9_sheet 0 = .ok (.iload_n 1, 1) := by decide +kernel
theorem dX9_sheet_1 : decode cX9_sheet 1 = .ok (.invokestatic 266, 3) := by decide +kernel
theorem dX9_sheet_4 : decode cX9_sheet 4 = .ok (.ifCond .eq 16, 3) := by decide +kernel
theorem dX9_sheet_7 : decode cX9_sheet 7 = .ok (.iload_n 2, 1) := by decide +kernel
theorem dX9_sheet_8 : decode cX9_sheet 8 = .ok (.invokestatic 269, 3) := by decide +kernel
theorem dX9_sheet_11 : decode cX9_sheet 11 = .ok (.ifCond .eq 9, 3) := by decide +kernel
theorem dX9_sheet_14 : decode cX9_sheet 14 = .ok (.iload_n 3, 1) := by decide +kernel
theorem dX9_sheet_15 : decode cX9_sheet 15 = .ok (.bipush 25, 2) := by decide +kernel
theorem dX9_sheet_17 : decode cX9_sheet 17 = .ok (.if_icmp .le 5, 3) := by decide +kernel
theorem dX9_sheet_20 : decode cX9_sheet 20 = .ok (.iconst (-1), 1) := by decide +kernel
theorem dX9_sheet_21 : decode cX9_sheet 21 = .ok (.ireturn, 1) := by decide +kernel
theorem dX9_sheet_22 : decode cX9_sheet 22 = .ok (.iload_n 3, 1) := by decide +kernel
theorem dX9_sheet_23 : decode cX9_sheet 23 = .ok (.ifCond .ge 6, 3) := by decide +kernel
theorem dX9_sheet_26 : decode cX9_sheet 26 = .ok (.bipush (-14), 2) := by decide +kernel
theorem dX9_sheet_28 : decode cX9_sheet 28 = .ok (.ireturn, 1) := by decide +kernel
theorem dX9_sheet_29 : decode cX9_sheet 29 = .ok (.aload_n 0, 1) := by decide +kernel
theorem dX9_sheet_30 : decode cX9_sheet 30 = .ok (.getfield 71, 3) := by decide +kernel
theorem dX9_sheet_33 : decode cX9_sheet 33 = .ok (.iload_n 1, 1) := by decide +kernel
theorem dX9_sheet_34 : decode cX9_sheet 34 = .ok (.aaload, 1) := by decide +kernel
theorem dX9_sheet_35 : decode cX9_sheet 35 = .ok (.iload_n 2, 1) := by decide +kernel
theorem dX9_sheet_36 : decode cX9_sheet 36 = .ok (.iload_n 3, 1) := by decide +kernel
theorem dX9_sheet_37 : decode cX9_sheet 37 = .ok (.invokevirtual 272, 3) := by decide +kernel
theorem dX9_sheet_40 : decode cX9_sheet 40 = .ok (.iload_n 3, 1) := by decide +kernel
theorem dX9_sheet_41 : decode cX9_sheet 41 = .ok (.ireturn, 1) := by decide +kernel
set_option maxHeartbeats 4000000 in
set_option maxRecDepth 100000 in
theorem f_X9_sheet (l : Launch) (dC : Nat → ClassId) (dI : Nat → Nat → Nat) (h : Nat → Nat) (cs : Nat → ClassId) (sz : Nat) (I : Nat → Int32) (L : Nat → Int64) (A : Nat → Nat → Int32) (Q : Nat → Nat → Int64) (G : Nat → Nat → Nat → Int32) (J : Nat → Nat → Nat → Int64) (x y z : Int32) : Met l yX9_sheet wsX9_sheet ({ frames := 2, cells := 0, slots := 0, locals := 46 }) (va_Pc [.ref (h 100), .int x, .int y, .int z] (xPre (dC, dI) (wAll h cs fI fL fA fQ fG fJ) (tysA cs) sz)) (va_Qi (fun (r : Int32) (u : CS) => ∃ zi9 : Nat → Int32, (r = an_sheet x y z) ∧ u = (zi9, fL, fA, fQ, fG, fJ)) (xB (dC, dI) (tysA cs) (va_A (wAll h cs fI fL fA fQ fG fJ) sz) (fun u : CS => wAll h cs u.1 u.2.1 u.2.2.1 u.2.2.2.1 u.2.2.2.2.1 u.2.2.2.2.2)) (va_A (wAll h cs fI fL fA fQ fG fJ) sz)) 0 0 (va_A (wAll h cs fI fL fA fQ fG fJ) sz) := by
  refine Met.ofW (cc := cX9_sheet) (maxL := 4) (ret := (some .int)) (by decide) rfl ?_
  intro p e s m args below meth c s₁ B hml hv
  obtain ⟨rfl, hsz, hP, hK, hD0, hN⟩ := hv
  have hx := B.exec
  have hb := B.bytes
  have hr := B.returns
  have hts := atoms_spec (ws := wsX9_sheet) B.pre
  have hown : s.vm.findClass RX9 = some m.cls := findClass_of_methodNamed B.named
  have hlocks := B.notSynchronized
  subst hsz
  have hD := hD0.self (sz := s.heap.size)
  generalize hAe : va_A (wAll h cs fI fL fA fQ fG fJ) s.heap.size = A0 at hD ⊢
  have hA : ∀ q : Nat, s.heap.size ≤ q → A0 q := fun q h => by rw [← hAe]; exact Or.inr h
  have hl := lv_entry ([.ref (h 100), .int x, .int y, .int z]) (n := 4) (Nat.le_of_ble_eq_true rfl)
  rw [lg_entry_eq]
  generalize (lg_sl ([.ref (h 100), .int x, .int y, .int z]) ++ List.replicate (4 - (lg_sl ([.ref (h 100), .int x, .int y, .int z])).length) Slot.unset).toArray = ls at hl ⊢
  have hl : lv_has ls 4 [(0, .ref (h 100)), (1, .int x), (2, .int y), (3, .int z)] := hl
  generalize hH : s.heap = H at hP ⊢
  have hS : va_S A0 s.heap H [] := by rw [← hH]; exact va_S.rf
  have hinX9 : ∀ w ∈ wsX90, w ∈ wsX9_sheet := by decide +kernel
  rcases splR x 0 3 (by decide) with ⟨i_x, h_x, g_x, rfl⟩ | hz_x
  · skip
    rcases (show i_x = 0 ∨ i_x = 1 ∨ i_x = 2 ∨ i_x = 3 by omega) with rfl | rfl | rfl | rfl
    · skip
      rcases splR y 0 2 (by decide) with ⟨i_y, h_y, g_y, rfl⟩ | hz_y
      · skip
        rcases (show i_y = 0 ∨ i_y = 1 ∨ i_y = 2 by omega) with rfl | rfl | rfl
        · skip
          refine lv_iload_n hx hb dX9_sheet_0 rfl (lv_at hl 1 rfl) ?_
          refine xj_i (wc := ([] : va_W)) (wr := (wAll h cs fI fL fA fQ fG fJ)) hP hD hS hA [] [0, 1, 2, 3, 4, 5, 6, 7, 8, 9, 10, 11, 12, 13, 14, 15, 16, 17, 18, 19, 20, 21, 22, 23, 24, 25, 26, 27, 28, 29, 30, 31, 32, 33, 34, 35, 36, 37, 38, 39, 40, 41, 42, 43, 44, 45, 46, 47, 48, 49, 50, 51, 52, 53, 54, 55, 56, 57, 58, 59, 60, 61] rfl rfl (by decide) (by decide) (va_runS (As := [.int (nI 0)]) (rest := []) ⟨hx, hb, hml, hown, hts⟩ (a_X9_isSheet_132 l dC dI h cs H.size I L A Q G J ) (va_cwS 1 hts gX9_sheet_X9_isSheet rfl rfl rfl (by decide +kernel) ⟨Nat.le_of_ble_eq_true rfl, Nat.le_of_ble_eq_true rfl⟩) (xpS (wc := ([] : va_W)) hP hD hK hN [] rfl (by decide) _) rfl rfl hl.1 rfl (lv_room (Nat.le_of_ble_eq_true rfl)) dX9_sheet_1 ⟨Nat.zero_le _, Nat.zero_le _⟩) (fun r_2 u_1 H locs hw hP hD hS => ?_)
          obtain ⟨hf_3, rfl⟩ := hw
          have hP : va_P (dC, dI) vwCl (wAll h cs fI fL fA fQ fG fJ) H := hP
          have hD : va_D A0 (wAll h cs fI fL fA fQ fG fJ) := hD
          obtain rfl := hf_3
          refine lv_if_eq (tgt := 20) hx hb dX9_sheet_4 (by decide) (fun c9 => False.elim (by revert c9; decide +kernel)) (fun _ => ?_)
          refine lv_iload_n hx hb dX9_sheet_7 rfl (lv_at hl 2 rfl) ?_
          refine xj_i (wc := ([] : va_W)) (wr := (wAll h cs fI fL fA fQ fG fJ)) hP hD hS hA [] [0, 1, 2, 3, 4, 5, 6, 7, 8, 9, 10, 11, 12, 13, 14, 15, 16, 17, 18, 19, 20, 21, 22, 23, 24, 25, 26, 27, 28, 29, 30, 31, 32, 33, 34, 35, 36, 37, 38, 39, 40, 41, 42, 43, 44, 45, 46, 47, 48, 49, 50, 51, 52, 53, 54, 55, 56, 57, 58, 59, 60, 61] rfl rfl (by decide) (by decide) (va_runS (As := [.int (nI 0)]) (rest := []) ⟨hx, hb, hml, hown, hts⟩ (a_X9_isLane_174 l dC dI h cs H.size I L A Q G J ) (va_cwS 1 hts gX9_sheet_X9_isLane rfl rfl rfl (by decide +kernel) ⟨Nat.le_of_ble_eq_true rfl, Nat.le_of_ble_eq_true rfl⟩) (xpS (wc := ([] : va_W)) hP hD hK hN [] rfl (by decide) _) rfl rfl hl.1 rfl (lv_room (Nat.le_of_ble_eq_true rfl)) dX9_sheet_8 ⟨Nat.zero_le _, Nat.zero_le _⟩) (fun r_5 u_4 H locs hw hP hD hS => ?_)
          obtain ⟨hf_6, rfl⟩ := hw
          have hP : va_P (dC, dI) vwCl (wAll h cs fI fL fA fQ fG fJ) H := hP
          have hD : va_D A0 (wAll h cs fI fL fA fQ fG fJ) := hD
          obtain rfl := hf_6
          refine lv_if_eq (tgt := 20) hx hb dX9_sheet_11 (by decide) (fun c9 => False.elim (by revert c9; decide +kernel)) (fun _ => ?_)
          refine lv_iload_n hx hb dX9_sheet_14 rfl (lv_at hl 3 rfl) ?_
          refine lv_bipush (v := nI 25) hx hb dX9_sheet_15 (by decide) ?_
          refine lv_icmp_le (tgt := 22) hx hb dX9_sheet_17 (by decide) (fun c_17_6 => ?_) (fun c_17_6 => ?_)
          · skip
            have t_t_7 : z.toInt ≤ 25 := zc_tle (K := nI 25) (by decide +kernel) c_17_6
            refine lv_iload_n hx hb dX9_sheet_22 rfl (lv_at hl 3 rfl) ?_
            refine lv_if_ge (tgt := 29) hx hb dX9_sheet_23 (by decide) (fun c_23_8 => ?_) (fun c_23_8 => ?_)
            · skip
              have t_t_9 : 0 ≤ z.toInt := zc_tge (K := 0) (by decide +kernel) c_23_8
              refine lv_aload_n hx hb dX9_sheet_29 rfl (lv_at hl 0 rfl) ?_
              refine va_get (D := (dC, dI)) (ci := 9) (v := .ref (h 109)) (C := RX9) (T := TX9) (N := 9) hx hb hts hinX9 hown hK hP 0 rfl rfl 8 (by decide) (hts (.fieldLink RX9 71 "MixedWords" "sheets" "[LMixedWords$Sheet;") (by decide +kernel)) (fun _ h9 => h9) rfl dX9_sheet_30 ?_
              refine lv_iload_n hx hb dX9_sheet_33 rfl (lv_at hl 1 rfl) ?_
              refine xa_aald (b := h 110) hx hb hK hP 53 5 rfl rfl rfl (by omega) (by decide) (if_pos (by omega)) dX9_sheet_34 ?_
              refine lv_iload_n hx hb dX9_sheet_35 rfl (lv_at hl 2 rfl) ?_
              refine lv_iload_n hx hb dX9_sheet_36 rfl (lv_at hl 3 rfl) ?_
              refine xj_v (wc := (wSh0 h cs fI fL fA fQ fG fJ)) (wr := [(h 100, .inr (9, [.ref (h 101), .ref (h 102), .ref (h 103), .ref (h 104), .ref (h 105), .ref (h 106), .ref (h 107), .ref (h 108), .ref (h 109)])), (h 101, .inr (3, [.int (fI 120), .int (fI 121), .int (fI 122), .int (fI 123), .ref (h 130), .ref (h 136)])), (h 130, .inl (cs 3, 5, .inr (.inr (.inr (.inr (fun i => if i < 5 then some (h (i + 131)) else none)))))), (h 131, .inl (cs 0, 4, .inl ((fG 0) 0))), (h 132, .inl (cs 0, 4, .inl ((fG 0) 1))), (h 133, .inl (cs 0, 4, .inl ((fG 0) 2))), (h 134, .inl (cs 0, 4, .inl ((fG 0) 3))), (h 135, .inl (cs 0, 4, .inl ((fG 0) 4))), (h 136, .inl (cs 0, 5, .inl (fA 136))), (h 102, .inr (0, [.ref (h 101), .ref (h 140), .ref (h 141), .ref (h 142), .ref (h 143), .int (fI 144), .int (fI 145), .int (fI 146)])), (h 140, .inl (cs 0, 40, .inl (fA 140))), (h 141, .inl (cs 0, 40, .inl (fA 141))), (h 142, .inl (cs 0, 40, .inl (fA 142))), (h 143, .inl (cs 0, 40, .inl (fA 143))), (h 103, .inr (7, [.ref (h 150), .int (fI 151)])), (h 150, .inl (cs 2, 90, .inl (fA 150))), (h 104, .inr (4, [.ref (h 103), .ref (h 160), .int (fI 166), .int (fI 167), .int (fI 168), .int (fI 169)])), (h 160, .inl (cs 3, 5, .inr (.inr (.inr (.inr (fun i => if i < 5 then some (h (i + 161)) else none)))))), (h 161, .inl (cs 0, 4, .inl ((fG 1) 0))), (h 162, .inl (cs 0, 4, .inl ((fG 1) 1))), (h 163, .inl (cs 0, 4, .inl ((fG 1) 2))), (h 164, .inl (cs 0, 4, .inl ((fG 1) 3))), (h 165, .inl (cs 0, 4, .inl ((fG 1) 4))), (h 105, .inr (8, [.ref (h 101), .ref (h 170), .ref (h 171), .ref (h 172), .int (fI 173), .int (fI 174)])), (h 170, .inl (cs 0, 256, .inl (fA 170))), (h 171, .inl (cs 0, 256, .inl (fA 171))), (h 172, .inl (cs 0, 256, .inl (fA 172))), (h 106, .inr (2, [.ref (h 180), .ref (h 185), .ref (h 186), .ref (h 187), .long (fL 188)])), (h 180, .inl (cs 4, 4, .inr (.inr (.inr (.inr (fun i => if i < 4 then some (h (i + 181)) else none)))))), (h 181, .inl (cs 1, 4, .inr (.inl ((fJ 0) 0)))), (h 182, .inl (cs 1, 4, .inr (.inl ((fJ 0) 1)))), (h 183, .inl (cs 1, 4, .inr (.inl ((fJ 0) 2)))), (h 184, .inl (cs 1, 4, .inr (.inl ((fJ 0) 3)))), (h 185, .inl (cs 1, 4, .inr (.inl (fQ 185)))), (h 186, .inl (cs 0, 4, .inl (fA 186))), (h 187, .inl (cs 1, 4, .inr (.inl (fQ 187)))), (h 107, .inr (6, [.ref (h 101), .ref (h 190), .ref (h 191), .ref (h 192)])), (h 190, .inl (cs 0, 5, .inl (fA 190))), (h 191, .inl (cs 0, 4, .inl (fA 191))), (h 192, .inl (cs 0, 4, .inl (fA 192))), (h 108, .inr (1, [.ref (h 101), .ref (h 200), .ref (h 206), .ref (h 211), .int (fI 212), .int (fI 213)])), (h 200, .inl (cs 3, 5, .inr (.inr (.inr (.inr (fun i => if i < 5 then some (h (i + 201)) else none)))))), (h 201, .inl (cs 0, 4, .inl ((fG 2) 0))), (h 202, .inl (cs 0, 4, .inl ((fG 2) 1))), (h 203, .inl (cs 0, 4, .inl ((fG 2) 2))), (h 204, .inl (cs 0, 4, .inl ((fG 2) 3))), (h 205, .inl (cs 0, 4, .inl ((fG 2) 4))), (h 206, .inl (cs 3, 4, .inr (.inr (.inr (.inr (fun i => if i < 4 then some (h (i + 207)) else none)))))), (h 207, .inl (cs 0, 4, .inl ((fG 3) 0))), (h 208, .inl (cs 0, 4, .inl ((fG 3) 1))), (h 209, .inl (cs 0, 4, .inl ((fG 3) 2))), (h 210, .inl (cs 0, 4, .inl ((fG 3) 3))), (h 211, .inl (cs 0, 5, .inl (fA 211))), (h 109, .inl (cs 5, 4, .inr (.inr (.inr (.inr (fun i => if i < 4 then some (h (i + 110)) else none)))))), (h 111, .inr (5, [.int (fI 221), .int (fI 225), .ref (h 229)])), (h 229, .inl (cs 1, 25, .inr (.inl (fQ 229)))), (h 112, .inr (5, [.int (fI 222), .int (fI 226), .ref (h 230)])), (h 230, .inl (cs 1, 25, .inr (.inl (fQ 230)))), (h 113, .inr (5, [.int (fI 223), .int (fI 227), .ref (h 231)])), (h 231, .inl (cs 1, 25, .inr (.inl (fQ 231))))]) hP hD hS hA [54, 55] [0, 1, 2, 3, 4, 5, 6, 7, 8, 9, 10, 11, 12, 13, 14, 15, 16, 17, 18, 19, 20, 21, 22, 23, 24, 25, 26, 27, 28, 29, 30, 31, 32, 33, 34, 35, 36, 37, 38, 39, 40, 41, 42, 43, 44, 45, 46, 47, 48, 49, 50, 51, 52, 53, 56, 57, 58, 59, 60, 61] rfl rfl (by decide) (by decide) (va_runV (As := [.int (nI 0), .int z]) (rest := []) ⟨hx, hb, hml, hown, hts⟩ (f_X5_renew0 l dC dI h cs H.size fI fL fA fQ fG fJ (nI 0) z) (cwV 2 hts gX9_sheet_X5_renew rfl rfl rfl (by decide +kernel) ⟨Nat.le_of_ble_eq_true rfl, Nat.le_of_ble_eq_true rfl⟩) (xpV (wc := (wSh0 h cs fI fL fA fQ fG fJ)) hP hD hK hN [54, 55] rfl (by decide) 54 (ci := 5) rfl rfl _) rfl rfl hl.1 rfl (lv_room (Nat.le_of_ble_eq_true rfl)) dX9_sheet_37 ⟨Nat.zero_le _, Nat.zero_le _⟩) (fun u_11 H locs hw hP hD hS => ?_)
              obtain ⟨i220_13, i224_14, hf_15, rfl⟩ := hw
              have hP : va_P (dC, dI) vwCl (wAll h cs (va_up (va_up fI 220 i220_13) 224 i224_14) fL fA fQ fG fJ) H := xP_sub hP [0, 1, 2, 3, 4, 5, 6, 7, 8, 9, 10, 11, 12, 13, 14, 15, 16, 17, 18, 19, 20, 21, 22, 23, 24, 25, 26, 27, 28, 29, 30, 31, 32, 33, 34, 35, 36, 37, 38, 39, 40, 41, 42, 43, 44, 45, 46, 47, 48, 49, 50, 51, 52, 53, 60, 61, 54, 55, 56, 57, 58, 59] rfl
              have hD : va_D A0 (wAll h cs (va_up (va_up fI 220 i220_13) 224 i224_14) fL fA fQ fG fJ) := hD.sub [0, 1, 2, 3, 4, 5, 6, 7, 8, 9, 10, 11, 12, 13, 14, 15, 16, 17, 18, 19, 20, 21, 22, 23, 24, 25, 26, 27, 28, 29, 30, 31, 32, 33, 34, 35, 36, 37, 38, 39, 40, 41, 42, 43, 44, 45, 46, 47, 48, 49, 50, 51, 52, 53, 60, 61, 54, 55, 56, 57, 58, 59] (by decide) rfl
              refine lv_iload_n hx hb dX9_sheet_40 rfl (lv_at hl 3 rfl) ?_
              exact xr_i (v := z) hx hb hr hlocks hK hS dX9_sheet_41 ((va_up (va_up fI 220 i220_13) 224 i224_14), fL, fA, fQ, fG, fJ) ⟨(va_up (va_up fI 220 i220_13) 224 i224_14), (by unfold an_sheet; rw [if_pos (⟨by decide +kernel, by omega⟩), if_neg (by omega)]), rfl⟩ hP hD
            · skip
              have t_f_15 : z.toInt < 0 := zc_fge (K := 0) (by decide +kernel) c_23_8
              refine lv_bipush (v := (-14)) hx hb dX9_sheet_26 (by decide) ?_
              exact xr_i (v := (-14)) hx hb hr hlocks hK hS dX9_sheet_28 (fI, fL, fA, fQ, fG, fJ) ⟨fI, (by unfold an_sheet; rw [if_pos (⟨by decide +kernel, by omega⟩), if_pos (by omega)]), rfl⟩ hP hD
          · skip
            have t_f_16 : 25 < z.toInt := zc_fle (K := nI 25) (by decide +kernel) c_17_6
            refine lv_iconst (v := (-1)) hx hb dX9_sheet_20 (by decide) ?_
            exact xr_i (v := (-1)) hx hb hr hlocks hK hS dX9_sheet_21 (fI, fL, fA, fQ, fG, fJ) ⟨fI, (by unfold an_sheet; rw [if_neg (by omega)]), rfl⟩ hP hD
        · skip
          refine lv_iload_n hx hb dX9_sheet_0 rfl (lv_at hl 1 rfl) ?_
          refine xj_i (wc := ([] : va_W)) (wr := (wAll h cs fI fL fA fQ fG fJ)) hP hD hS hA [] [0, 1, 2, 3, 4, 5, 6, 7, 8, 9, 10, 11, 12, 13, 14, 15, 16, 17, 18, 19, 20, 21, 22, 23, 24, 25, 26, 27, 28, 29, 30, 31, 32, 33, 34, 35, 36, 37, 38, 39, 40, 41, 42, 43, 44, 45, 46, 47, 48, 49, 50, 51, 52, 53, 54, 55, 56, 57, 58, 59, 60, 61] rfl rfl (by decide) (by decide) (va_runS (As := [.int (nI 0)]) (rest := []) ⟨hx, hb, hml, hown, hts⟩ (a_X9_isSheet_132 l dC dI h cs H.size I L A Q G J ) (va_cwS 1 hts gX9_sheet_X9_isSheet rfl rfl rfl (by decide +kernel) ⟨Nat.le_of_ble_eq_true rfl, Nat.le_of_ble_eq_true rfl⟩) (xpS (wc := ([] : va_W)) hP hD hK hN [] rfl (by decide) _) rfl rfl hl.1 rfl (lv_room (Nat.le_of_ble_eq_true rfl)) dX9_sheet_1 ⟨Nat.zero_le _, Nat.zero_le _⟩) (fun r_19 u_18 H locs hw hP hD hS => ?_)
          obtain ⟨hf_20, rfl⟩ := hw
          have hP : va_P (dC, dI) vwCl (wAll h cs fI fL fA fQ fG fJ) H := hP
          have hD : va_D A0 (wAll h cs fI fL fA fQ fG fJ) := hD
          obtain rfl := hf_20
          refine lv_if_eq (tgt := 20) hx hb dX9_sheet_4 (by decide) (fun c9 => False.elim (by revert c9; decide +kernel)) (fun _ => ?_)
          refine lv_iload_n hx hb dX9_sheet_7 rfl (lv_at hl 2 rfl) ?_
          refine xj_i (wc := ([] : va_W)) (wr := (wAll h cs fI fL fA fQ fG fJ)) hP hD hS hA [] [0, 1, 2, 3, 4, 5, 6, 7, 8, 9, 10, 11, 12, 13, 14, 15, 16, 17, 18, 19, 20, 21, 22, 23, 24, 25, 26, 27, 28, 29, 30, 31, 32, 33, 34, 35, 36, 37, 38, 39, 40, 41, 42, 43, 44, 45, 46, 47, 48, 49, 50, 51, 52, 53, 54, 55, 56, 57, 58, 59, 60, 61] rfl rfl (by decide) (by decide) (va_runS (As := [.int (nI 1)]) (rest := []) ⟨hx, hb, hml, hown, hts⟩ (a_X9_isLane_175 l dC dI h cs H.size I L A Q G J ) (va_cwS 1 hts gX9_sheet_X9_isLane rfl rfl rfl (by decide +kernel) ⟨Nat.le_of_ble_eq_true rfl, Nat.le_of_ble_eq_true rfl⟩) (xpS (wc := ([] : va_W)) hP hD hK hN [] rfl (by decide) _) rfl rfl hl.1 rfl (lv_room (Nat.le_of_ble_eq_true rfl)) dX9_sheet_8 ⟨Nat.zero_le _, Nat.zero_le _⟩) (fun r_22 u_21 H locs hw hP hD hS => ?_)
          obtain ⟨hf_23, rfl⟩ := hw
          have hP : va_P (dC, dI) vwCl (wAll h cs fI fL fA fQ fG fJ) H := hP
          have hD : va_D A0 (wAll h cs fI fL fA fQ fG fJ) := hD
          obtain rfl := hf_23
          refine lv_if_eq (tgt := 20) hx hb dX9_sheet_11 (by decide) (fun c9 => False.elim (by revert c9; decide +kernel)) (fun _ => ?_)
          refine lv_iload_n hx hb dX9_sheet_14 rfl (lv_at hl 3 rfl) ?_
          refine lv_bipush (v := nI 25) hx hb dX9_sheet_15 (by decide) ?_
          refine lv_icmp_le (tgt := 22) hx hb dX9_sheet_17 (by decide) (fun c_17_23 => ?_) (fun c_17_23 => ?_)
          · skip
            have t_t_24 : z.toInt ≤ 25 := zc_tle (K := nI 25) (by decide +kernel) c_17_23
            refine lv_iload_n hx hb dX9_sheet_22 rfl (lv_at hl 3 rfl) ?_
            refine lv_if_ge (tgt := 29) hx hb dX9_sheet_23 (by decide) (fun c_23_25 => ?_) (fun c_23_25 => ?_)
            · skip
              have t_t_26 : 0 ≤ z.toInt := zc_tge (K := 0) (by decide +kernel) c_23_25
              refine lv_aload_n hx hb dX9_sheet_29 rfl (lv_at hl 0 rfl) ?_
              refine va_get (D := (dC, dI)) (ci := 9) (v := .ref (h 109)) (C := RX9) (T := TX9) (N := 9) hx hb hts hinX9 hown hK hP 0 rfl rfl 8 (by decide) (hts (.fieldLink RX9 71 "MixedWords" "sheets" "[LMixedWords$Sheet;") (by decide +kernel)) (fun _ h9 => h9) rfl dX9_sheet_30 ?_
              refine lv_iload_n hx hb dX9_sheet_33 rfl (lv_at hl 1 rfl) ?_
              refine xa_aald (b := h 110) hx hb hK hP 53 5 rfl rfl rfl (by omega) (by decide) (if_pos (by omega)) dX9_sheet_34 ?_
              refine lv_iload_n hx hb dX9_sheet_35 rfl (lv_at hl 2 rfl) ?_
              refine lv_iload_n hx hb dX9_sheet_36 rfl (lv_at hl 3 rfl) ?_
              refine xj_v (wc := (wSh0 h cs fI fL fA fQ fG fJ)) (wr := [(h 100, .inr (9, [.ref (h 101), .ref (h 102), .ref (h 103), .ref (h 104), .ref (h 105), .ref (h 106), .ref (h 107), .ref (h 108), .ref (h 109)])), (h 101, .inr (3, [.int (fI 120), .int (fI 121), .int (fI 122), .int (fI 123), .ref (h 130), .ref (h 136)])), (h 130, .inl (cs 3, 5, .inr (.inr (.inr (.inr (fun i => if i < 5 then some (h (i + 131)) else none)))))), (h 131, .inl (cs 0, 4, .inl ((fG 0) 0))), (h 132, .inl (cs 0, 4, .inl ((fG 0) 1))), (h 133, .inl (cs 0, 4, .inl ((fG 0) 2))), (h 134, .inl (cs 0, 4, .inl ((fG 0) 3))), (h 135, .inl (cs 0, 4, .inl ((fG 0) 4))), (h 136, .inl (cs 0, 5, .inl (fA 136))), (h 102, .inr (0, [.ref (h 101), .ref (h 140), .ref (h 141), .ref (h 142), .ref (h 143), .int (fI 144), .int (fI 145), .int (fI 146)])), (h 140, .inl (cs 0, 40, .inl (fA 140))), (h 141, .inl (cs 0, 40, .inl (fA 141))), (h 142, .inl (cs 0, 40, .inl (fA 142))), (h 143, .inl (cs 0, 40, .inl (fA 143))), (h 103, .inr (7, [.ref (h 150), .int (fI 151)])), (h 150, .inl (cs 2, 90, .inl (fA 150))), (h 104, .inr (4, [.ref (h 103), .ref (h 160), .int (fI 166), .int (fI 167), .int (fI 168), .int (fI 169)])), (h 160, .inl (cs 3, 5, .inr (.inr (.inr (.inr (fun i => if i < 5 then some (h (i + 161)) else none)))))), (h 161, .inl (cs 0, 4, .inl ((fG 1) 0))), (h 162, .inl (cs 0, 4, .inl ((fG 1) 1))), (h 163, .inl (cs 0, 4, .inl ((fG 1) 2))), (h 164, .inl (cs 0, 4, .inl ((fG 1) 3))), (h 165, .inl (cs 0, 4, .inl ((fG 1) 4))), (h 105, .inr (8, [.ref (h 101), .ref (h 170), .ref (h 171), .ref (h 172), .int (fI 173), .int (fI 174)])), (h 170, .inl (cs 0, 256, .inl (fA 170))), (h 171, .inl (cs 0, 256, .inl (fA 171))), (h 172, .inl (cs 0, 256, .inl (fA 172))), (h 106, .inr (2, [.ref (h 180), .ref (h 185), .ref (h 186), .ref (h 187), .long (fL 188)])), (h 180, .inl (cs 4, 4, .inr (.inr (.inr (.inr (fun i => if i < 4 then some (h (i + 181)) else none)))))), (h 181, .inl (cs 1, 4, .inr (.inl ((fJ 0) 0)))), (h 182, .inl (cs 1, 4, .inr (.inl ((fJ 0) 1)))), (h 183, .inl (cs 1, 4, .inr (.inl ((fJ 0) 2)))), (h 184, .inl (cs 1, 4, .inr (.inl ((fJ 0) 3)))), (h 185, .inl (cs 1, 4, .inr (.inl (fQ 185)))), (h 186, .inl (cs 0, 4, .inl (fA 186))), (h 187, .inl (cs 1, 4, .inr (.inl (fQ 187)))), (h 107, .inr (6, [.ref (h 101), .ref (h 190), .ref (h 191), .ref (h 192)])), (h 190, .inl (cs 0, 5, .inl (fA 190))), (h 191, .inl (cs 0, 4, .inl (fA 191))), (h 192, .inl (cs 0, 4, .inl (fA 192))), (h 108, .inr (1, [.ref (h 101), .ref (h 200), .ref (h 206), .ref (h 211), .int (fI 212), .int (fI 213)])), (h 200, .inl (cs 3, 5, .inr (.inr (.inr (.inr (fun i => if i < 5 then some (h (i + 201)) else none)))))), (h 201, .inl (cs 0, 4, .inl ((fG 2) 0))), (h 202, .inl (cs 0, 4, .inl ((fG 2) 1))), (h 203, .inl (cs 0, 4, .inl ((fG 2) 2))), (h 204, .inl (cs 0, 4, .inl ((fG 2) 3))), (h 205, .inl (cs 0, 4, .inl ((fG 2) 4))), (h 206, .inl (cs 3, 4, .inr (.inr (.inr (.inr (fun i => if i < 4 then some (h (i + 207)) else none)))))), (h 207, .inl (cs 0, 4, .inl ((fG 3) 0))), (h 208, .inl (cs 0, 4, .inl ((fG 3) 1))), (h 209, .inl (cs 0, 4, .inl ((fG 3) 2))), (h 210, .inl (cs 0, 4, .inl ((fG 3) 3))), (h 211, .inl (cs 0, 5, .inl (fA 211))), (h 109, .inl (cs 5, 4, .inr (.inr (.inr (.inr (fun i => if i < 4 then some (h (i + 110)) else none)))))), (h 111, .inr (5, [.int (fI 221), .int (fI 225), .ref (h 229)])), (h 229, .inl (cs 1, 25, .inr (.inl (fQ 229)))), (h 112, .inr (5, [.int (fI 222), .int (fI 226), .ref (h 230)])), (h 230, .inl (cs 1, 25, .inr (.inl (fQ 230)))), (h 113, .inr (5, [.int (fI 223), .int (fI 227), .ref (h 231)])), (h 231, .inl (cs 1, 25, .inr (.inl (fQ 231))))]) hP hD hS hA [54, 55] [0, 1, 2, 3, 4, 5, 6, 7, 8, 9, 10, 11, 12, 13, 14, 15, 16, 17, 18, 19, 20, 21, 22, 23, 24, 25, 26, 27, 28, 29, 30, 31, 32, 33, 34, 35, 36, 37, 38, 39, 40, 41, 42, 43, 44, 45, 46, 47, 48, 49, 50, 51, 52, 53, 56, 57, 58, 59, 60, 61] rfl rfl (by decide) (by decide) (va_runV (As := [.int (nI 1), .int z]) (rest := []) ⟨hx, hb, hml, hown, hts⟩ (f_X5_renew0 l dC dI h cs H.size fI fL fA fQ fG fJ (nI 1) z) (cwV 2 hts gX9_sheet_X5_renew rfl rfl rfl (by decide +kernel) ⟨Nat.le_of_ble_eq_true rfl, Nat.le_of_ble_eq_true rfl⟩) (xpV (wc := (wSh0 h cs fI fL fA fQ fG fJ)) hP hD hK hN [54, 55] rfl (by decide) 54 (ci := 5) rfl rfl _) rfl rfl hl.1 rfl (lv_room (Nat.le_of_ble_eq_true rfl)) dX9_sheet_37 ⟨Nat.zero_le _, Nat.zero_le _⟩) (fun u_28 H locs hw hP hD hS => ?_)
              obtain ⟨i220_30, i224_31, hf_32, rfl⟩ := hw
              have hP : va_P (dC, dI) vwCl (wAll h cs (va_up (va_up fI 220 i220_30) 224 i224_31) fL fA fQ fG fJ) H := xP_sub hP [0, 1, 2, 3, 4, 5, 6, 7, 8, 9, 10, 11, 12, 13, 14, 15, 16, 17, 18, 19, 20, 21, 22, 23, 24, 25, 26, 27, 28, 29, 30, 31, 32, 33, 34, 35, 36, 37, 38, 39, 40, 41, 42, 43, 44, 45, 46, 47, 48, 49, 50, 51, 52, 53, 60, 61, 54, 55, 56, 57, 58, 59] rfl
              have hD : va_D A0 (wAll h cs (va_up (va_up fI 220 i220_30) 224 i224_31) fL fA fQ fG fJ) := hD.sub [0, 1, 2, 3, 4, 5, 6, 7, 8, 9, 10, 11, 12, 13, 14, 15, 16, 17, 18, 19, 20, 21, 22, 23, 24, 25, 26, 27, 28, 29, 30, 31, 32, 33, 34, 35, 36, 37, 38, 39, 40, 41, 42, 43, 44, 45, 46, 47, 48, 49, 50, 51, 52, 53, 60, 61, 54, 55, 56, 57, 58, 59] (by decide) rfl
              refine lv_iload_n hx hb dX9_sheet_40 rfl (lv_at hl 3 rfl) ?_
              exact xr_i (v := z) hx hb hr hlocks hK hS dX9_sheet_41 ((va_up (va_up fI 220 i220_30) 224 i224_31), fL, fA, fQ, fG, fJ) ⟨(va_up (va_up fI 220 i220_30) 224 i224_31), (by unfold an_sheet; rw [if_pos (⟨by decide +kernel, by omega⟩), if_neg (by omega)]), rfl⟩ hP hD
            · skip
              have t_f_32 : z.toInt < 0 := zc_fge (K := 0) (by decide +kernel) c_23_25
              refine lv_bipush (v := (-14)) hx hb dX9_sheet_26 (by decide) ?_
              exact xr_i (v := (-14)) hx hb hr hlocks hK hS dX9_sheet_28 (fI, fL, fA, fQ, fG, fJ) ⟨fI, (by unfold an_sheet; rw [if_pos (⟨by decide +kernel, by omega⟩), if_pos (by omega)]), rfl⟩ hP hD
          · skip
            have t_f_33 : 25 < z.toInt := zc_fle (K := nI 25) (by decide +kernel) c_17_23
            refine lv_iconst (v := (-1)) hx hb dX9_sheet_20 (by decide) ?_
            exact xr_i (v := (-1)) hx hb hr hlocks hK hS dX9_sheet_21 (fI, fL, fA, fQ, fG, fJ) ⟨fI, (by unfold an_sheet; rw [if_neg (by omega)]), rfl⟩ hP hD
        · skip
          refine lv_iload_n hx hb dX9_sheet_0 rfl (lv_at hl 1 rfl) ?_
          refine xj_i (wc := ([] : va_W)) (wr := (wAll h cs fI fL fA fQ fG fJ)) hP hD hS hA [] [0, 1, 2, 3, 4, 5, 6, 7, 8, 9, 10, 11, 12, 13, 14, 15, 16, 17, 18, 19, 20, 21, 22, 23, 24, 25, 26, 27, 28, 29, 30, 31, 32, 33, 34, 35, 36, 37, 38, 39, 40, 41, 42, 43, 44, 45, 46, 47, 48, 49, 50, 51, 52, 53, 54, 55, 56, 57, 58, 59, 60, 61] rfl rfl (by decide) (by decide) (va_runS (As := [.int (nI 0)]) (rest := []) ⟨hx, hb, hml, hown, hts⟩ (a_X9_isSheet_132 l dC dI h cs H.size I L A Q G J ) (va_cwS 1 hts gX9_sheet_X9_isSheet rfl rfl rfl (by decide +kernel) ⟨Nat.le_of_ble_eq_true rfl, Nat.le_of_ble_eq_true rfl⟩) (xpS (wc := ([] : va_W)) hP hD hK hN [] rfl (by decide) _) rfl rfl hl.1 rfl (lv_room (Nat.le_of_ble_eq_true rfl)) dX9_sheet_1 ⟨Nat.zero_le _, Nat.zero_le _⟩) (fun r_36 u_35 H locs hw hP hD hS => ?_)
          obtain ⟨hf_37, rfl⟩ := hw
          have hP : va_P (dC, dI) vwCl (wAll h cs fI fL fA fQ fG fJ) H := hP
          have hD : va_D A0 (wAll h cs fI fL fA fQ fG fJ) := hD
          obtain rfl := hf_37
          refine lv_if_eq (tgt := 20) hx hb dX9_sheet_4 (by decide) (fun c9 => False.elim (by revert c9; decide +kernel)) (fun _ => ?_)
          refine lv_iload_n hx hb dX9_sheet_7 rfl (lv_at hl 2 rfl) ?_
          refine xj_i (wc := ([] : va_W)) (wr := (wAll h cs fI fL fA fQ fG fJ)) hP hD hS hA [] [0, 1, 2, 3, 4, 5, 6, 7, 8, 9, 10, 11, 12, 13, 14, 15, 16, 17, 18, 19, 20, 21, 22, 23, 24, 25, 26, 27, 28, 29, 30, 31, 32, 33, 34, 35, 36, 37, 38, 39, 40, 41, 42, 43, 44, 45, 46, 47, 48, 49, 50, 51, 52, 53, 54, 55, 56, 57, 58, 59, 60, 61] rfl rfl (by decide) (by decide) (va_runS (As := [.int (nI 2)]) (rest := []) ⟨hx, hb, hml, hown, hts⟩ (a_X9_isLane_176 l dC dI h cs H.size I L A Q G J ) (va_cwS 1 hts gX9_sheet_X9_isLane rfl rfl rfl (by decide +kernel) ⟨Nat.le_of_ble_eq_true rfl, Nat.le_of_ble_eq_true rfl⟩) (xpS (wc := ([] : va_W)) hP hD hK hN [] rfl (by decide) _) rfl rfl hl.1 rfl (lv_room (Nat.le_of_ble_eq_true rfl)) dX9_sheet_8 ⟨Nat.zero_le _, Nat.zero_le _⟩) (fun r_39 u_38 H locs hw hP hD hS => ?_)
          obtain ⟨hf_40, rfl⟩ := hw
          have hP : va_P (dC, dI) vwCl (wAll h cs fI fL fA fQ fG fJ) H := hP
          have hD : va_D A0 (wAll h cs fI fL fA fQ fG fJ) := hD
          obtain rfl := hf_40
          refine lv_if_eq (tgt := 20) hx hb dX9_sheet_11 (by decide) (fun c9 => False.elim (by revert c9; decide +kernel)) (fun _ => ?_)
          refine lv_iload_n hx hb dX9_sheet_14 rfl (lv_at hl 3 rfl) ?_
          refine lv_bipush (v := nI 25) hx hb dX9_sheet_15 (by decide) ?_
          refine lv_icmp_le (tgt := 22) hx hb dX9_sheet_17 (by decide) (fun c_17_40 => ?_) (fun c_17_40 => ?_)
          · skip
            have t_t_41 : z.toInt ≤ 25 := zc_tle (K := nI 25) (by decide +kernel) c_17_40
            refine lv_iload_n hx hb dX9_sheet_22 rfl (lv_at hl 3 rfl) ?_
            refine lv_if_ge (tgt := 29) hx hb dX9_sheet_23 (by decide) (fun c_23_42 => ?_) (fun c_23_42 => ?_)
            · skip
              have t_t_43 : 0 ≤ z.toInt := zc_tge (K := 0) (by decide +kernel) c_23_42
              refine lv_aload_n hx hb dX9_sheet_29 rfl (lv_at hl 0 rfl) ?_
              refine va_get (D := (dC, dI)) (ci := 9) (v := .ref (h 109)) (C := RX9) (T := TX9) (N := 9) hx hb hts hinX9 hown hK hP 0 rfl rfl 8 (by decide) (hts (.fieldLink RX9 71 "MixedWords" "sheets" "[LMixedWords$Sheet;") (by decide +kernel)) (fun _ h9 => h9) rfl dX9_sheet_30 ?_
              refine lv_iload_n hx hb dX9_sheet_33 rfl (lv_at hl 1 rfl) ?_
              refine xa_aald (b := h 110) hx hb hK hP 53 5 rfl rfl rfl (by omega) (by decide) (if_pos (by omega)) dX9_sheet_34 ?_
              refine lv_iload_n hx hb dX9_sheet_35 rfl (lv_at hl 2 rfl) ?_
              refine lv_iload_n hx hb dX9_sheet_36 rfl (lv_at hl 3 rfl) ?_
              refine xj_v (wc := (wSh0 h cs fI fL fA fQ fG fJ)) (wr := [(h 100, .inr (9, [.ref (h 101), .ref (h 102), .ref (h 103), .ref (h 104), .ref (h 105), .ref (h 106), .ref (h 107), .ref (h 108), .ref (h 109)])), (h 101, .inr (3, [.int (fI 120), .int (fI 121), .int (fI 122), .int (fI 123), .ref (h 130), .ref (h 136)])), (h 130, .inl (cs 3, 5, .inr (.inr (.inr (.inr (fun i => if i < 5 then some (h (i + 131)) else none)))))), (h 131, .inl (cs 0, 4, .inl ((fG 0) 0))), (h 132, .inl (cs 0, 4, .inl ((fG 0) 1))), (h 133, .inl (cs 0, 4, .inl ((fG 0) 2))), (h 134, .inl (cs 0, 4, .inl ((fG 0) 3))), (h 135, .inl (cs 0, 4, .inl ((fG 0) 4))), (h 136, .inl (cs 0, 5, .inl (fA 136))), (h 102, .inr (0, [.ref (h 101), .ref (h 140), .ref (h 141), .ref (h 142), .ref (h 143), .int (fI 144), .int (fI 145), .int (fI 146)])), (h 140, .inl (cs 0, 40, .inl (fA 140))), (h 141, .inl (cs 0, 40, .inl (fA 141))), (h 142, .inl (cs 0, 40, .inl (fA 142))), (h 143, .inl (cs 0, 40, .inl (fA 143))), (h 103, .inr (7, [.ref (h 150), .int (fI 151)])), (h 150, .inl (cs 2, 90, .inl (fA 150))), (h 104, .inr (4, [.ref (h 103), .ref (h 160), .int (fI 166), .int (fI 167), .int (fI 168), .int (fI 169)])), (h 160, .inl (cs 3, 5, .inr (.inr (.inr (.inr (fun i => if i < 5 then some (h (i + 161)) else none)))))), (h 161, .inl (cs 0, 4, .inl ((fG 1) 0))), (h 162, .inl (cs 0, 4, .inl ((fG 1) 1))), (h 163, .inl (cs 0, 4, .inl ((fG 1) 2))), (h 164, .inl (cs 0, 4, .inl ((fG 1) 3))), (h 165, .inl (cs 0, 4, .inl ((fG 1) 4))), (h 105, .inr (8, [.ref (h 101), .ref (h 170), .ref (h 171), .ref (h 172), .int (fI 173), .int (fI 174)])), (h 170, .inl (cs 0, 256, .inl (fA 170))), (h 171, .inl (cs 0, 256, .inl (fA 171))), (h 172, .inl (cs 0, 256, .inl (fA 172))), (h 106, .inr (2, [.ref (h 180), .ref (h 185), .ref (h 186), .ref (h 187), .long (fL 188)])), (h 180, .inl (cs 4, 4, .inr (.inr (.inr (.inr (fun i => if i < 4 then some (h (i + 181)) else none)))))), (h 181, .inl (cs 1, 4, .inr (.inl ((fJ 0) 0)))), (h 182, .inl (cs 1, 4, .inr (.inl ((fJ 0) 1)))), (h 183, .inl (cs 1, 4, .inr (.inl ((fJ 0) 2)))), (h 184, .inl (cs 1, 4, .inr (.inl ((fJ 0) 3)))), (h 185, .inl (cs 1, 4, .inr (.inl (fQ 185)))), (h 186, .inl (cs 0, 4, .inl (fA 186))), (h 187, .inl (cs 1, 4, .inr (.inl (fQ 187)))), (h 107, .inr (6, [.ref (h 101), .ref (h 190), .ref (h 191), .ref (h 192)])), (h 190, .inl (cs 0, 5, .inl (fA 190))), (h 191, .inl (cs 0, 4, .inl (fA 191))), (h 192, .inl (cs 0, 4, .inl (fA 192))), (h 108, .inr (1, [.ref (h 101), .ref (h 200), .ref (h 206), .ref (h 211), .int (fI 212), .int (fI 213)])), (h 200, .inl (cs 3, 5, .inr (.inr (.inr (.inr (fun i => if i < 5 then some (h (i + 201)) else none)))))), (h 201, .inl (cs 0, 4, .inl ((fG 2) 0))), (h 202, .inl (cs 0, 4, .inl ((fG 2) 1))), (h 203, .inl (cs 0, 4, .inl ((fG 2) 2))), (h 204, .inl (cs 0, 4, .inl ((fG 2) 3))), (h 205, .inl (cs 0, 4, .inl ((fG 2) 4))), (h 206, .inl (cs 3, 4, .inr (.inr (.inr (.inr (fun i => if i < 4 then some (h (i + 207)) else none)))))), (h 207, .inl (cs 0, 4, .inl ((fG 3) 0))), (h 208, .inl (cs 0, 4, .inl ((fG 3) 1))), (h 209, .inl (cs 0, 4, .inl ((fG 3) 2))), (h 210, .inl (cs 0, 4, .inl ((fG 3) 3))), (h 211, .inl (cs 0, 5, .inl (fA 211))), (h 109, .inl (cs 5, 4, .inr (.inr (.inr (.inr (fun i => if i < 4 then some (h (i + 110)) else none)))))), (h 111, .inr (5, [.int (fI 221), .int (fI 225), .ref (h 229)])), (h 229, .inl (cs 1, 25, .inr (.inl (fQ 229)))), (h 112, .inr (5, [.int (fI 222), .int (fI 226), .ref (h 230)])), (h 230, .inl (cs 1, 25, .inr (.inl (fQ 230)))), (h 113, .inr (5, [.int (fI 223), .int (fI 227), .ref (h 231)])), (h 231, .inl (cs 1, 25, .inr (.inl (fQ 231))))]) hP hD hS hA [54, 55] [0, 1, 2, 3, 4, 5, 6, 7, 8, 9, 10, 11, 12, 13, 14, 15, 16, 17, 18, 19, 20, 21, 22, 23, 24, 25, 26, 27, 28, 29, 30, 31, 32, 33, 34, 35, 36, 37, 38, 39, 40, 41, 42, 43, 44, 45, 46, 47, 48, 49, 50, 51, 52, 53, 56, 57, 58, 59, 60, 61] rfl rfl (by decide) (by decide) (va_runV (As := [.int (nI 2), .int z]) (rest := []) ⟨hx, hb, hml, hown, hts⟩ (f_X5_renew0 l dC dI h cs H.size fI fL fA fQ fG fJ (nI 2) z) (cwV 2 hts gX9_sheet_X5_renew rfl rfl rfl (by decide +kernel) ⟨Nat.le_of_ble_eq_true rfl, Nat.le_of_ble_eq_true rfl⟩) (xpV (wc := (wSh0 h cs fI fL fA fQ fG fJ)) hP hD hK hN [54, 55] rfl (by decide) 54 (ci := 5) rfl rfl _) rfl rfl hl.1 rfl (lv_room (Nat.le_of_ble_eq_true rfl)) dX9_sheet_37 ⟨Nat.zero_le _, Nat.zero_le _⟩) (fun u_45 H locs hw hP hD hS => ?_)
              obtain ⟨i220_47, i224_48, hf_49, rfl⟩ := hw
              have hP : va_P (dC, dI) vwCl (wAll h cs (va_up (va_up fI 220 i220_47) 224 i224_48) fL fA fQ fG fJ) H := xP_sub hP [0, 1, 2, 3, 4, 5, 6, 7, 8, 9, 10, 11, 12, 13, 14, 15, 16, 17, 18, 19, 20, 21, 22, 23, 24, 25, 26, 27, 28, 29, 30, 31, 32, 33, 34, 35, 36, 37, 38, 39, 40, 41, 42, 43, 44, 45, 46, 47, 48, 49, 50, 51, 52, 53, 60, 61, 54, 55, 56, 57, 58, 59] rfl
              have hD : va_D A0 (wAll h cs (va_up (va_up fI 220 i220_47) 224 i224_48) fL fA fQ fG fJ) := hD.sub [0, 1, 2, 3, 4, 5, 6, 7, 8, 9, 10, 11, 12, 13, 14, 15, 16, 17, 18, 19, 20, 21, 22, 23, 24, 25, 26, 27, 28, 29, 30, 31, 32, 33, 34, 35, 36, 37, 38, 39, 40, 41, 42, 43, 44, 45, 46, 47, 48, 49, 50, 51, 52, 53, 60, 61, 54, 55, 56, 57, 58, 59] (by decide) rfl
              refine lv_iload_n hx hb dX9_sheet_40 rfl (lv_at hl 3 rfl) ?_
              exact xr_i (v := z) hx hb hr hlocks hK hS dX9_sheet_41 ((va_up (va_up fI 220 i220_47) 224 i224_48), fL, fA, fQ, fG, fJ) ⟨(va_up (va_up fI 220 i220_47) 224 i224_48), (by unfold an_sheet; rw [if_pos (⟨by decide +kernel, by omega⟩), if_neg (by omega)]), rfl⟩ hP hD
            · skip
              have t_f_49 : z.toInt < 0 := zc_fge (K := 0) (by decide +kernel) c_23_42
              refine lv_bipush (v := (-14)) hx hb dX9_sheet_26 (by decide) ?_
              exact xr_i (v := (-14)) hx hb hr hlocks hK hS dX9_sheet_28 (fI, fL, fA, fQ, fG, fJ) ⟨fI, (by unfold an_sheet; rw [if_pos (⟨by decide +kernel, by omega⟩), if_pos (by omega)]), rfl⟩ hP hD
          · skip
            have t_f_50 : 25 < z.toInt := zc_fle (K := nI 25) (by decide +kernel) c_17_40
            refine lv_iconst (v := (-1)) hx hb dX9_sheet_20 (by decide) ?_
            exact xr_i (v := (-1)) hx hb hr hlocks hK hS dX9_sheet_21 (fI, fL, fA, fQ, fG, fJ) ⟨fI, (by unfold an_sheet; rw [if_neg (by omega)]), rfl⟩ hP hD
      · skip
        refine lv_iload_n hx hb dX9_sheet_0 rfl (lv_at hl 1 rfl) ?_
        refine xj_i (wc := ([] : va_W)) (wr := (wAll h cs fI fL fA fQ fG fJ)) hP hD hS hA [] [0, 1, 2, 3, 4, 5, 6, 7, 8, 9, 10, 11, 12, 13, 14, 15, 16, 17, 18, 19, 20, 21, 22, 23, 24, 25, 26, 27, 28, 29, 30, 31, 32, 33, 34, 35, 36, 37, 38, 39, 40, 41, 42, 43, 44, 45, 46, 47, 48, 49, 50, 51, 52, 53, 54, 55, 56, 57, 58, 59, 60, 61] rfl rfl (by decide) (by decide) (va_runS (As := [.int (nI 0)]) (rest := []) ⟨hx, hb, hml, hown, hts⟩ (a_X9_isSheet_132 l dC dI h cs H.size I L A Q G J ) (va_cwS 1 hts gX9_sheet_X9_isSheet rfl rfl rfl (by decide +kernel) ⟨Nat.le_of_ble_eq_true rfl, Nat.le_of_ble_eq_true rfl⟩) (xpS (wc := ([] : va_W)) hP hD hK hN [] rfl (by decide) _) rfl rfl hl.1 rfl (lv_room (Nat.le_of_ble_eq_true rfl)) dX9_sheet_1 ⟨Nat.zero_le _, Nat.zero_le _⟩) (fun r_53 u_52 H locs hw hP hD hS => ?_)
        obtain ⟨hf_54, rfl⟩ := hw
        have hP : va_P (dC, dI) vwCl (wAll h cs fI fL fA fQ fG fJ) H := hP
        have hD : va_D A0 (wAll h cs fI fL fA fQ fG fJ) := hD
        obtain rfl := hf_54
        refine lv_if_eq (tgt := 20) hx hb dX9_sheet_4 (by decide) (fun c9 => False.elim (by revert c9; decide +kernel)) (fun _ => ?_)
        refine lv_iload_n hx hb dX9_sheet_7 rfl (lv_at hl 2 rfl) ?_
        refine xj_i (wc := ([] : va_W)) (wr := (wAll h cs fI fL fA fQ fG fJ)) hP hD hS hA [] [0, 1, 2, 3, 4, 5, 6, 7, 8, 9, 10, 11, 12, 13, 14, 15, 16, 17, 18, 19, 20, 21, 22, 23, 24, 25, 26, 27, 28, 29, 30, 31, 32, 33, 34, 35, 36, 37, 38, 39, 40, 41, 42, 43, 44, 45, 46, 47, 48, 49, 50, 51, 52, 53, 54, 55, 56, 57, 58, 59, 60, 61] rfl rfl (by decide) (by decide) (va_runS (As := [.int y]) (rest := []) ⟨hx, hb, hml, hown, hts⟩ (k_X9_isLane l dC dI h cs H.size I L A Q G J y) (va_cwS 1 hts gX9_sheet_X9_isLane rfl rfl rfl (by decide +kernel) ⟨Nat.le_of_ble_eq_true rfl, Nat.le_of_ble_eq_true rfl⟩) (xpS (wc := ([] : va_W)) hP hD hK hN [] rfl (by decide) _) rfl rfl hl.1 rfl (lv_room (Nat.le_of_ble_eq_true rfl)) dX9_sheet_8 ⟨Nat.zero_le _, Nat.zero_le _⟩) (fun r_56 u_55 H locs hw hP hD hS => ?_)
        obtain ⟨hf_57, rfl⟩ := hw
        have hP : va_P (dC, dI) vwCl (wAll h cs fI fL fA fQ fG fJ) H := hP
        have hD : va_D A0 (wAll h cs fI fL fA fQ fG fJ) := hD
        rcases hf_57 with ⟨rfl, i_58, hh_59, ee_60⟩ | ⟨rfl, -⟩
        · skip
          exact absurd (by rw [ee_60, nI_toInt (by omega)]; omega) hz_y
        · skip
          refine lv_if_eq (tgt := 20) hx hb dX9_sheet_11 (by decide) (fun _ => ?_) (fun c9 => False.elim (by revert c9; decide +kernel))
          refine lv_iconst (v := (-1)) hx hb dX9_sheet_20 (by decide) ?_
          exact xr_i (v := (-1)) hx hb hr hlocks hK hS dX9_sheet_21 (fI, fL, fA, fQ, fG, fJ) ⟨fI, (by unfold an_sheet; rw [if_neg (by omega)]), rfl⟩ hP hD
    · skip
      rcases splR y 0 2 (by decide) with ⟨i_y, h_y, g_y, rfl⟩ | hz_y
      · skip
        rcases (show i_y = 0 ∨ i_y = 1 ∨ i_y = 2 by omega) with rfl | rfl | rfl
        · skip
          refine lv_iload_n hx hb dX9_sheet_0 rfl (lv_at hl 1 rfl) ?_
          refine xj_i (wc := ([] : va_W)) (wr := (wAll h cs fI fL fA fQ fG fJ)) hP hD hS hA [] [0, 1, 2, 3, 4, 5, 6, 7, 8, 9, 10, 11, 12, 13, 14, 15, 16, 17, 18, 19, 20, 21, 22, 23, 24, 25, 26, 27, 28, 29, 30, 31, 32, 33, 34, 35, 36, 37, 38, 39, 40, 41, 42, 43, 44, 45, 46, 47, 48, 49, 50, 51, 52, 53, 54, 55, 56, 57, 58, 59, 60, 61] rfl rfl (by decide) (by decide) (va_runS (As := [.int (nI 1)]) (rest := []) ⟨hx, hb, hml, hown, hts⟩ (a_X9_isSheet_135 l dC dI h cs H.size I L A Q G J ) (va_cwS 1 hts gX9_sheet_X9_isSheet rfl rfl rfl (by decide +kernel) ⟨Nat.le_of_ble_eq_true rfl, Nat.le_of_ble_eq_true rfl⟩) (xpS (wc := ([] : va_W)) hP hD hK hN [] rfl (by decide) _) rfl rfl hl.1 rfl (lv_room (Nat.le_of_ble_eq_true rfl)) dX9_sheet_1 ⟨Nat.zero_le _, Nat.zero_le _⟩) (fun r_62 u_61 H locs hw hP hD hS => ?_)
          obtain ⟨hf_63, rfl⟩ := hw
          have hP : va_P (dC, dI) vwCl (wAll h cs fI fL fA fQ fG fJ) H := hP
          have hD : va_D A0 (wAll h cs fI fL fA fQ fG fJ) := hD
          obtain rfl := hf_63
          refine lv_if_eq (tgt := 20) hx hb dX9_sheet_4 (by decide) (fun c9 => False.elim (by revert c9; decide +kernel)) (fun _ => ?_)
          refine lv_iload_n hx hb dX9_sheet_7 rfl (lv_at hl 2 rfl) ?_
          refine xj_i (wc := ([] : va_W)) (wr := (wAll h cs fI fL fA fQ fG fJ)) hP hD hS hA [] [0, 1, 2, 3, 4, 5, 6, 7, 8, 9, 10, 11, 12, 13, 14, 15, 16, 17, 18, 19, 20, 21, 22, 23, 24, 25, 26, 27, 28, 29, 30, 31, 32, 33, 34, 35, 36, 37, 38, 39, 40, 41, 42, 43, 44, 45, 46, 47, 48, 49, 50, 51, 52, 53, 54, 55, 56, 57, 58, 59, 60, 61] rfl rfl (by decide) (by decide) (va_runS (As := [.int (nI 0)]) (rest := []) ⟨hx, hb, hml, hown, hts⟩ (a_X9_isLane_174 l dC dI h cs H.size I L A Q G J ) (va_cwS 1 hts gX9_sheet_X9_isLane rfl rfl rfl (by decide +kernel) ⟨Nat.le_of_ble_eq_true rfl, Nat.le_of_ble_eq_true rfl⟩) (xpS (wc := ([] : va_W)) hP hD hK hN [] rfl (by decide) _) rfl rfl hl.1 rfl (lv_room (Nat.le_of_ble_eq_true rfl)) dX9_sheet_8 ⟨Nat.zero_le _, Nat.zero_le _⟩) (fun r_65 u_64 H locs hw hP hD hS => ?_)
          obtain ⟨hf_66, rfl⟩ := hw
          have hP : va_P (dC, dI) vwCl (wAll h cs fI fL fA fQ fG fJ) H := hP
          have hD : va_D A0 (wAll h cs fI fL fA fQ fG fJ) := hD
          obtain rfl := hf_66
          refine lv_if_eq (tgt := 20) hx hb dX9_sheet_11 (by decide) (fun c9 => False.elim (by revert c9; decide +kernel)) (fun _ => ?_)
          refine lv_iload_n hx hb dX9_sheet_14 rfl (lv_at hl 3 rfl) ?_
          refine lv_bipush (v := nI 25) hx hb dX9_sheet_15 (by decide) ?_
          refine lv_icmp_le (tgt := 22) hx hb dX9_sheet_17 (by decide) (fun c_17_66 => ?_) (fun c_17_66 => ?_)
          · skip
            have t_t_67 : z.toInt ≤ 25 := zc_tle (K := nI 25) (by decide +kernel) c_17_66
            refine lv_iload_n hx hb dX9_sheet_22 rfl (lv_at hl 3 rfl) ?_
            refine lv_if_ge (tgt := 29) hx hb dX9_sheet_23 (by decide) (fun c_23_68 => ?_) (fun c_23_68 => ?_)
            · skip
              have t_t_69 : 0 ≤ z.toInt := zc_tge (K := 0) (by decide +kernel) c_23_68
              refine lv_aload_n hx hb dX9_sheet_29 rfl (lv_at hl 0 rfl) ?_
              refine va_get (D := (dC, dI)) (ci := 9) (v := .ref (h 109)) (C := RX9) (T := TX9) (N := 9) hx hb hts hinX9 hown hK hP 0 rfl rfl 8 (by decide) (hts (.fieldLink RX9 71 "MixedWords" "sheets" "[LMixedWords$Sheet;") (by decide +kernel)) (fun _ h9 => h9) rfl dX9_sheet_30 ?_
              refine lv_iload_n hx hb dX9_sheet_33 rfl (lv_at hl 1 rfl) ?_
              refine xa_aald (b := h 111) hx hb hK hP 53 5 rfl rfl rfl (by omega) (by decide) (if_pos (by omega)) dX9_sheet_34 ?_
              refine lv_iload_n hx hb dX9_sheet_35 rfl (lv_at hl 2 rfl) ?_
              refine lv_iload_n hx hb dX9_sheet_36 rfl (lv_at hl 3 rfl) ?_
              refine xj_v (wc := (wSh1 h cs fI fL fA fQ fG fJ)) (wr := [(h 100, .inr (9, [.ref (h 101), .ref (h 102), .ref (h 103), .ref (h 104), .ref (h 105), .ref (h 106), .ref (h 107), .ref (h 108), .ref (h 109)])), (h 101, .inr (3, [.int (fI 120), .int (fI 121), .int (fI 122), .int (fI 123), .ref (h 130), .ref (h 136)])), (h 130, .inl (cs 3, 5, .inr (.inr (.inr (.inr (fun i => if i < 5 then some (h (i + 131)) else none)))))), (h 131, .inl (cs 0, 4, .inl ((fG 0) 0))), (h 132, .inl (cs 0, 4, .inl ((fG 0) 1))), (h 133, .inl (cs 0, 4, .inl ((fG 0) 2))), (h 134, .inl (cs 0, 4, .inl ((fG 0) 3))), (h 135, .inl (cs 0, 4, .inl ((fG 0) 4))), (h 136, .inl (cs 0, 5, .inl (fA 136))), (h 102, .inr (0, [.ref (h 101), .ref (h 140), .ref (h 141), .ref (h 142), .ref (h 143), .int (fI 144), .int (fI 145), .int (fI 146)])), (h 140, .inl (cs 0, 40, .inl (fA 140))), (h 141, .inl (cs 0, 40, .inl (fA 141))), (h 142, .inl (cs 0, 40, .inl (fA 142))), (h 143, .inl (cs 0, 40, .inl (fA 143))), (h 103, .inr (7, [.ref (h 150), .int (fI 151)])), (h 150, .inl (cs 2, 90, .inl (fA 150))), (h 104, .inr (4, [.ref (h 103), .ref (h 160), .int (fI 166), .int (fI 167), .int (fI 168), .int (fI 169)])), (h 160, .inl (cs 3, 5, .inr (.inr (.inr (.inr (fun i => if i < 5 then some (h (i + 161)) else none)))))), (h 161, .inl (cs 0, 4, .inl ((fG 1) 0))), (h 162, .inl (cs 0, 4, .inl ((fG 1) 1))), (h 163, .inl (cs 0, 4, .inl ((fG 1) 2))), (h 164, .inl (cs 0, 4, .inl ((fG 1) 3))), (h 165, .inl (cs 0, 4, .inl ((fG 1) 4))), (h 105, .inr (8, [.ref (h 101), .ref (h 170), .ref (h 171), .ref (h 172), .int (fI 173), .int (fI 174)])), (h 170, .inl (cs 0, 256, .inl (fA 170))), (h 171, .inl (cs 0, 256, .inl (fA 171))), (h 172, .inl (cs 0, 256, .inl (fA 172))), (h 106, .inr (2, [.ref (h 180), .ref (h 185), .ref (h 186), .ref (h 187), .long (fL 188)])), (h 180, .inl (cs 4, 4, .inr (.inr (.inr (.inr (fun i => if i < 4 then some (h (i + 181)) else none)))))), (h 181, .inl (cs 1, 4, .inr (.inl ((fJ 0) 0)))), (h 182, .inl (cs 1, 4, .inr (.inl ((fJ 0) 1)))), (h 183, .inl (cs 1, 4, .inr (.inl ((fJ 0) 2)))), (h 184, .inl (cs 1, 4, .inr (.inl ((fJ 0) 3)))), (h 185, .inl (cs 1, 4, .inr (.inl (fQ 185)))), (h 186, .inl (cs 0, 4, .inl (fA 186))), (h 187, .inl (cs 1, 4, .inr (.inl (fQ 187)))), (h 107, .inr (6, [.ref (h 101), .ref (h 190), .ref (h 191), .ref (h 192)])), (h 190, .inl (cs 0, 5, .inl (fA 190))), (h 191, .inl (cs 0, 4, .inl (fA 191))), (h 192, .inl (cs 0, 4, .inl (fA 192))), (h 108, .inr (1, [.ref (h 101), .ref (h 200), .ref (h 206), .ref (h 211), .int (fI 212), .int (fI 213)])), (h 200, .inl (cs 3, 5, .inr (.inr (.inr (.inr (fun i => if i < 5 then some (h (i + 201)) else none)))))), (h 201, .inl (cs 0, 4, .inl ((fG 2) 0))), (h 202, .inl (cs 0, 4, .inl ((fG 2) 1))), (h 203, .inl (cs 0, 4, .inl ((fG 2) 2))), (h 204, .inl (cs 0, 4, .inl ((fG 2) 3))), (h 205, .inl (cs 0, 4, .inl ((fG 2) 4))), (h 206, .inl (cs 3, 4, .inr (.inr (.inr (.inr (fun i => if i < 4 then some (h (i + 207)) else none)))))), (h 207, .inl (cs 0, 4, .inl ((fG 3) 0))), (h 208, .inl (cs 0, 4, .inl ((fG 3) 1))), (h 209, .inl (cs 0, 4, .inl ((fG 3) 2))), (h 210, .inl (cs 0, 4, .inl ((fG 3) 3))), (h 211, .inl (cs 0, 5, .inl (fA 211))), (h 109, .inl (cs 5, 4, .inr (.inr (.inr (.inr (fun i => if i < 4 then some (h (i + 110)) else none)))))), (h 110, .inr (5, [.int (fI 220), .int (fI 224), .ref (h 228)])), (h 228, .inl (cs 1, 25, .inr (.inl (fQ 228)))), (h 112, .inr (5, [.int (fI 222), .int (fI 226), .ref (h 230)])), (h 230, .inl (cs 1, 25, .inr (.inl (fQ 230)))), (h 113, .inr (5, [.int (fI 223), .int (fI 227), .ref (h 231)])), (h 231, .inl (cs 1, 25, .inr (.inl (fQ 231))))]) hP hD hS hA [56, 57] [0, 1, 2, 3, 4, 5, 6, 7, 8, 9, 10, 11, 12, 13, 14, 15, 16, 17, 18, 19, 20, 21, 22, 23, 24, 25, 26, 27, 28, 29, 30, 31, 32, 33, 34, 35, 36, 37, 38, 39, 40, 41, 42, 43, 44, 45, 46, 47, 48, 49, 50, 51, 52, 53, 54, 55, 58, 59, 60, 61] rfl rfl (by decide) (by decide) (va_runV (As := [.int (nI 0), .int z]) (rest := []) ⟨hx, hb, hml, hown, hts⟩ (f_X5_renew1 l dC dI h cs H.size fI fL fA fQ fG fJ (nI 0) z) (cwV 2 hts gX9_sheet_X5_renew rfl rfl rfl (by decide +kernel) ⟨Nat.le_of_ble_eq_true rfl, Nat.le_of_ble_eq_true rfl⟩) (xpV (wc := (wSh1 h cs fI fL fA fQ fG fJ)) hP hD hK hN [56, 57] rfl (by decide) 56 (ci := 5) rfl rfl _) rfl rfl hl.1 rfl (lv_room (Nat.le_of_ble_eq_true rfl)) dX9_sheet_37 ⟨Nat.zero_le _, Nat.zero_le _⟩) (fun u_71 H locs hw hP hD hS => ?_)
              obtain ⟨i221_73, i225_74, hf_75, rfl⟩ := hw
              have hP : va_P (dC, dI) vwCl (wAll h cs (va_up (va_up fI 221 i221_73) 225 i225_74) fL fA fQ fG fJ) H := xP_sub hP [0, 1, 2, 3, 4, 5, 6, 7, 8, 9, 10, 11, 12, 13, 14, 15, 16, 17, 18, 19, 20, 21, 22, 23, 24, 25, 26, 27, 28, 29, 30, 31, 32, 33, 34, 35, 36, 37, 38, 39, 40, 41, 42, 43, 44, 45, 46, 47, 48, 49, 50, 51, 52, 53, 54, 55, 60, 61, 56, 57, 58, 59] rfl
              have hD : va_D A0 (wAll h cs (va_up (va_up fI 221 i221_73) 225 i225_74) fL fA fQ fG fJ) := hD.sub [0, 1, 2, 3, 4, 5, 6, 7, 8, 9, 10, 11, 12, 13, 14, 15, 16, 17, 18, 19, 20, 21, 22, 23, 24, 25, 26, 27, 28, 29, 30, 31, 32, 33, 34, 35, 36, 37, 38, 39, 40, 41, 42, 43, 44, 45, 46, 47, 48, 49, 50, 51, 52, 53, 54, 55, 60, 61, 56, 57, 58, 59] (by decide) rfl
              refine lv_iload_n hx hb dX9_sheet_40 rfl (lv_at hl 3 rfl) ?_
              exact xr_i (v := z) hx hb hr hlocks hK hS dX9_sheet_41 ((va_up (va_up fI 221 i221_73) 225 i225_74), fL, fA, fQ, fG, fJ) ⟨(va_up (va_up fI 221 i221_73) 225 i225_74), (by unfold an_sheet; rw [if_pos (⟨by decide +kernel, by omega⟩), if_neg (by omega)]), rfl⟩ hP hD
            · skip
              have t_f_75 : z.toInt < 0 := zc_fge (K := 0) (by decide +kernel) c_23_68
              refine lv_bipush (v := (-14)) hx hb dX9_sheet_26 (by decide) ?_
              exact xr_i (v := (-14)) hx hb hr hlocks hK hS dX9_sheet_28 (fI, fL, fA, fQ, fG, fJ) ⟨fI, (by unfold an_sheet; rw [if_pos (⟨by decide +kernel, by omega⟩), if_pos (by omega)]), rfl⟩ hP hD
          · skip
            have t_f_76 : 25 < z.toInt := zc_fle (K := nI 25) (by decide +kernel) c_17_66
            refine lv_iconst (v := (-1)) hx hb dX9_sheet_20 (by decide) ?_
            exact xr_i (v := (-1)) hx hb hr hlocks hK hS dX9_sheet_21 (fI, fL, fA, fQ, fG, fJ) ⟨fI, (by unfold an_sheet; rw [if_neg (by omega)]), rfl⟩ hP hD
        · skip
          refine lv_iload_n hx hb dX9_sheet_0 rfl (lv_at hl 1 rfl) ?_
          refine xj_i (wc := ([] : va_W)) (wr := (wAll h cs fI fL fA fQ fG fJ)) hP hD hS hA [] [0, 1, 2, 3, 4, 5, 6, 7, 8, 9, 10, 11, 12, 13, 14, 15, 16, 17, 18, 19, 20, 21, 22, 23, 24, 25, 26, 27, 28, 29, 30, 31, 32, 33, 34, 35, 36, 37, 38, 39, 40, 41, 42, 43, 44, 45, 46, 47, 48, 49, 50, 51, 52, 53, 54, 55, 56, 57, 58, 59, 60, 61] rfl rfl (by decide) (by decide) (va_runS (As := [.int (nI 1)]) (rest := []) ⟨hx, hb, hml, hown, hts⟩ (a_X9_isSheet_135 l dC dI h cs H.size I L A Q G J ) (va_cwS 1 hts gX9_sheet_X9_isSheet rfl rfl rfl (by decide +kernel) ⟨Nat.le_of_ble_eq_true rfl, Nat.le_of_ble_eq_true rfl⟩) (xpS (wc := ([] : va_W)) hP hD hK hN [] rfl (by decide) _) rfl rfl hl.1 rfl (lv_room (Nat.le_of_ble_eq_true rfl)) dX9_sheet_1 ⟨Nat.zero_le _, Nat.zero_le _⟩) (fun r_79 u_78 H locs hw hP hD hS => ?_)
          obtain ⟨hf_80, rfl⟩ := hw
          have hP : va_P (dC, dI) vwCl (wAll h cs fI fL fA fQ fG fJ) H := hP
          have hD : va_D A0 (wAll h cs fI fL fA fQ fG fJ) := hD
          obtain rfl := hf_80
          refine lv_if_eq (tgt := 20) hx hb dX9_sheet_4 (by decide) (fun c9 => False.elim (by revert c9; decide +kernel)) (fun _ => ?_)
          refine lv_iload_n hx hb dX9_sheet_7 rfl (lv_at hl 2 rfl) ?_
          refine xj_i (wc := ([] : va_W)) (wr := (wAll h cs fI fL fA fQ fG fJ)) hP hD hS hA [] [0, 1, 2, 3, 4, 5, 6, 7, 8, 9, 10, 11, 12, 13, 14, 15, 16, 17, 18, 19, 20, 21, 22, 23, 24, 25, 26, 27, 28, 29, 30, 31, 32, 33, 34, 35, 36, 37, 38, 39, 40, 41, 42, 43, 44, 45, 46, 47, 48, 49, 50, 51, 52, 53, 54, 55, 56, 57, 58, 59, 60, 61] rfl rfl (by decide) (by decide) (va_runS (As := [.int (nI 1)]) (rest := []) ⟨hx, hb, hml, hown, hts⟩ (a_X9_isLane_175 l dC dI h cs H.size I L A Q G J ) (va_cwS 1 hts gX9_sheet_X9_isLane rfl rfl rfl (by decide +kernel) ⟨Nat.le_of_ble_eq_true rfl, Nat.le_of_ble_eq_true rfl⟩) (xpS (wc := ([] : va_W)) hP hD hK hN [] rfl (by decide) _) rfl rfl hl.1 rfl (lv_room (Nat.le_of_ble_eq_true rfl)) dX9_sheet_8 ⟨Nat.zero_le _, Nat.zero_le _⟩) (fun r_82 u_81 H locs hw hP hD hS => ?_)
          obtain ⟨hf_83, rfl⟩ := hw
          have hP : va_P (dC, dI) vwCl (wAll h cs fI fL fA fQ fG fJ) H := hP
          have hD : va_D A0 (wAll h cs fI fL fA fQ fG fJ) := hD
          obtain rfl := hf_83
          refine lv_if_eq (tgt := 20) hx hb dX9_sheet_11 (by decide) (fun c9 => False.elim (by revert c9; decide +kernel)) (fun _ => ?_)
          refine lv_iload_n hx hb dX9_sheet_14 rfl (lv_at hl 3 rfl) ?_
          refine lv_bipush (v := nI 25) hx hb dX9_sheet_15 (by decide) ?_
          refine lv_icmp_le (tgt := 22) hx hb dX9_sheet_17 (by decide) (fun c_17_83 => ?_) (fun c_17_83 => ?_)
          · skip
            have t_t_84 : z.toInt ≤ 25 := zc_tle (K := nI 25) (by decide +kernel) c_17_83
            refine lv_iload_n hx hb dX9_sheet_22 rfl (lv_at hl 3 rfl) ?_
            refine lv_if_ge (tgt := 29) hx hb dX9_sheet_23 (by decide) (fun c_23_85 => ?_) (fun c_23_85 => ?_)
            · skip
              have t_t_86 : 0 ≤ z.toInt := zc_tge (K := 0) (by decide +kernel) c_23_85
              refine lv_aload_n hx hb dX9_sheet_29 rfl (lv_at hl 0 rfl) ?_
              refine va_get (D := (dC, dI)) (ci := 9) (v := .ref (h 109)) (C := RX9) (T := TX9) (N := 9) hx hb hts hinX9 hown hK hP 0 rfl rfl 8 (by decide) (hts (.fieldLink RX9 71 "MixedWords" "sheets" "[LMixedWords$Sheet;") (by decide +kernel)) (fun _ h9 => h9) rfl dX9_sheet_30 ?_
              refine lv_iload_n hx hb dX9_sheet_33 rfl (lv_at hl 1 rfl) ?_
              refine xa_aald (b := h 111) hx hb hK hP 53 5 rfl rfl rfl (by omega) (by decide) (if_pos (by omega)) dX9_sheet_34 ?_
              refine lv_iload_n hx hb dX9_sheet_35 rfl (lv_at hl 2 rfl) ?_
              refine lv_iload_n hx hb dX9_sheet_36 rfl (lv_at hl 3 rfl) ?_
              refine xj_v (wc := (wSh1 h cs fI fL fA fQ fG fJ)) (wr := [(h 100, .inr (9, [.ref (h 101), .ref (h 102), .ref (h 103), .ref (h 104), .ref (h 105), .ref (h 106), .ref (h 107), .ref (h 108), .ref (h 109)])), (h 101, .inr (3, [.int (fI 120), .int (fI 121), .int (fI 122), .int (fI 123), .ref (h 130), .ref (h 136)])), (h 130, .inl (cs 3, 5, .inr (.inr (.inr (.inr (fun i => if i < 5 then some (h (i + 131)) else none)))))), (h 131, .inl (cs 0, 4, .inl ((fG 0) 0))), (h 132, .inl (cs 0, 4, .inl ((fG 0) 1))), (h 133, .inl (cs 0, 4, .inl ((fG 0) 2))), (h 134, .inl (cs 0, 4, .inl ((fG 0) 3))), (h 135, .inl (cs 0, 4, .inl ((fG 0) 4))), (h 136, .inl (cs 0, 5, .inl (fA 136))), (h 102, .inr (0, [.ref (h 101), .ref (h 140), .ref (h 141), .ref (h 142), .ref (h 143), .int (fI 144), .int (fI 145), .int (fI 146)])), (h 140, .inl (cs 0, 40, .inl (fA 140))), (h 141, .inl (cs 0, 40, .inl (fA 141))), (h 142, .inl (cs 0, 40, .inl (fA 142))), (h 143, .inl (cs 0, 40, .inl (fA 143))), (h 103, .inr (7, [.ref (h 150), .int (fI 151)])), (h 150, .inl (cs 2, 90, .inl (fA 150))), (h 104, .inr (4, [.ref (h 103), .ref (h 160), .int (fI 166), .int (fI 167), .int (fI 168), .int (fI 169)])), (h 160, .inl (cs 3, 5, .inr (.inr (.inr (.inr (fun i => if i < 5 then some (h (i + 161)) else none)))))), (h 161, .inl (cs 0, 4, .inl ((fG 1) 0))), (h 162, .inl (cs 0, 4, .inl ((fG 1) 1))), (h 163, .inl (cs 0, 4, .inl ((fG 1) 2))), (h 164, .inl (cs 0, 4, .inl ((fG 1) 3))), (h 165, .inl (cs 0, 4, .inl ((fG 1) 4))), (h 105, .inr (8, [.ref (h 101), .ref (h 170), .ref (h 171), .ref (h 172), .int (fI 173), .int (fI 174)])), (h 170, .inl (cs 0, 256, .inl (fA 170))), (h 171, .inl (cs 0, 256, .inl (fA 171))), (h 172, .inl (cs 0, 256, .inl (fA 172))), (h 106, .inr (2, [.ref (h 180), .ref (h 185), .ref (h 186), .ref (h 187), .long (fL 188)])), (h 180, .inl (cs 4, 4, .inr (.inr (.inr (.inr (fun i => if i < 4 then some (h (i + 181)) else none)))))), (h 181, .inl (cs 1, 4, .inr (.inl ((fJ 0) 0)))), (h 182, .inl (cs 1, 4, .inr (.inl ((fJ 0) 1)))), (h 183, .inl (cs 1, 4, .inr (.inl ((fJ 0) 2)))), (h 184, .inl (cs 1, 4, .inr (.inl ((fJ 0) 3)))), (h 185, .inl (cs 1, 4, .inr (.inl (fQ 185)))), (h 186, .inl (cs 0, 4, .inl (fA 186))), (h 187, .inl (cs 1, 4, .inr (.inl (fQ 187)))), (h 107, .inr (6, [.ref (h 101), .ref (h 190), .ref (h 191), .ref (h 192)])), (h 190, .inl (cs 0, 5, .inl (fA 190))), (h 191, .inl (cs 0, 4, .inl (fA 191))), (h 192, .inl (cs 0, 4, .inl (fA 192))), (h 108, .inr (1, [.ref (h 101), .ref (h 200), .ref (h 206), .ref (h 211), .int (fI 212), .int (fI 213)])), (h 200, .inl (cs 3, 5, .inr (.inr (.inr (.inr (fun i => if i < 5 then some (h (i + 201)) else none)))))), (h 201, .inl (cs 0, 4, .inl ((fG 2) 0))), (h 202, .inl (cs 0, 4, .inl ((fG 2) 1))), (h 203, .inl (cs 0, 4, .inl ((fG 2) 2))), (h 204, .inl (cs 0, 4, .inl ((fG 2) 3))), (h 205, .inl (cs 0, 4, .inl ((fG 2) 4))), (h 206, .inl (cs 3, 4, .inr (.inr (.inr (.inr (fun i => if i < 4 then some (h (i + 207)) else none)))))), (h 207, .inl (cs 0, 4, .inl ((fG 3) 0))), (h 208, .inl (cs 0, 4, .inl ((fG 3) 1))), (h 209, .inl (cs 0, 4, .inl ((fG 3) 2))), (h 210, .inl (cs 0, 4, .inl ((fG 3) 3))), (h 211, .inl (cs 0, 5, .inl (fA 211))), (h 109, .inl (cs 5, 4, .inr (.inr (.inr (.inr (fun i => if i < 4 then some (h (i + 110)) else none)))))), (h 110, .inr (5, [.int (fI 220), .int (fI 224), .ref (h 228)])), (h 228, .inl (cs 1, 25, .inr (.inl (fQ 228)))), (h 112, .inr (5, [.int (fI 222), .int (fI 226), .ref (h 230)])), (h 230, .inl (cs 1, 25, .inr (.inl (fQ 230)))), (h 113, .inr (5, [.int (fI 223), .int (fI 227), .ref (h 231)])), (h 231, .inl (cs 1, 25, .inr (.inl (fQ 231))))]) hP hD hS hA [56, 57] [0, 1, 2, 3, 4, 5, 6, 7, 8, 9, 10, 11, 12, 13, 14, 15, 16, 17, 18, 19, 20, 21, 22, 23, 24, 25, 26, 27, 28, 29, 30, 31, 32, 33, 34, 35, 36, 37, 38, 39, 40, 41, 42, 43, 44, 45, 46, 47, 48, 49, 50, 51, 52, 53, 54, 55, 58, 59, 60, 61] rfl rfl (by decide) (by decide) (va_runV (As := [.int (nI 1), .int z]) (rest := []) ⟨hx, hb, hml, hown, hts⟩ (f_X5_renew1 l dC dI h cs H.size fI fL fA fQ fG fJ (nI 1) z) (cwV 2 hts gX9_sheet_X5_renew rfl rfl rfl (by decide +kernel) ⟨Nat.le_of_ble_eq_true rfl, Nat.le_of_ble_eq_true rfl⟩) (xpV (wc := (wSh1 h cs fI fL fA fQ fG fJ)) hP hD hK hN [56, 57] rfl (by decide) 56 (ci := 5) rfl rfl _) rfl rfl hl.1 rfl (lv_room (Nat.le_of_ble_eq_true rfl)) dX9_sheet_37 ⟨Nat.zero_le _, Nat.zero_le _⟩) (fun u_88 H locs hw hP hD hS => ?_)
              obtain ⟨i221_90, i225_91, hf_92, rfl⟩ := hw
              have hP : va_P (dC, dI) vwCl (wAll h cs (va_up (va_up fI 221 i221_90) 225 i225_91) fL fA fQ fG fJ) H := xP_sub hP [0, 1, 2, 3, 4, 5, 6, 7, 8, 9, 10, 11, 12, 13, 14, 15, 16, 17, 18, 19, 20, 21, 22, 23, 24, 25, 26, 27, 28, 29, 30, 31, 32, 33, 34, 35, 36, 37, 38, 39, 40, 41, 42, 43, 44, 45, 46, 47, 48, 49, 50, 51, 52, 53, 54, 55, 60, 61, 56, 57, 58, 59] rfl
              have hD : va_D A0 (wAll h cs (va_up (va_up fI 221 i221_90) 225 i225_91) fL fA fQ fG fJ) := hD.sub [0, 1, 2, 3, 4, 5, 6, 7, 8, 9, 10, 11, 12, 13, 14, 15, 16, 17, 18, 19, 20, 21, 22, 23, 24, 25, 26, 27, 28, 29, 30, 31, 32, 33, 34, 35, 36, 37, 38, 39, 40, 41, 42, 43, 44, 45, 46, 47, 48, 49, 50, 51, 52, 53, 54, 55, 60, 61, 56, 57, 58, 59] (by decide) rfl
              refine lv_iload_n hx hb dX9_sheet_40 rfl (lv_at hl 3 rfl) ?_
              exact xr_i (v := z) hx hb hr hlocks hK hS dX9_sheet_41 ((va_up (va_up fI 221 i221_90) 225 i225_91), fL, fA, fQ, fG, fJ) ⟨(va_up (va_up fI 221 i221_90) 225 i225_91), (by unfold an_sheet; rw [if_pos (⟨by decide +kernel, by omega⟩), if_neg (by omega)]), rfl⟩ hP hD
            · skip
              have t_f_92 : z.toInt < 0 := zc_fge (K := 0) (by decide +kernel) c_23_85
              refine lv_bipush (v := (-14)) hx hb dX9_sheet_26 (by decide) ?_
              exact xr_i (v := (-14)) hx hb hr hlocks hK hS dX9_sheet_28 (fI, fL, fA, fQ, fG, fJ) ⟨fI, (by unfold an_sheet; rw [if_pos (⟨by decide +kernel, by omega⟩), if_pos (by omega)]), rfl⟩ hP hD
          · skip
            have t_f_93 : 25 < z.toInt := zc_fle (K := nI 25) (by decide +kernel) c_17_83
            refine lv_iconst (v := (-1)) hx hb dX9_sheet_20 (by decide) ?_
            exact xr_i (v := (-1)) hx hb hr hlocks hK hS dX9_sheet_21 (fI, fL, fA, fQ, fG, fJ) ⟨fI, (by unfold an_sheet; rw [if_neg (by omega)]), rfl⟩ hP hD
        · skip
          refine lv_iload_n hx hb dX9_sheet_0 rfl (lv_at hl 1 rfl) ?_
          refine xj_i (wc := ([] : va_W)) (wr := (wAll h cs fI fL fA fQ fG fJ)) hP hD hS hA [] [0, 1, 2, 3, 4, 5, 6, 7, 8, 9, 10, 11, 12, 13, 14, 15, 16, 17, 18, 19, 20, 21, 22, 23, 24, 25, 26, 27, 28, 29, 30, 31, 32, 33, 34, 35, 36, 37, 38, 39, 40, 41, 42, 43, 44, 45, 46, 47, 48, 49, 50, 51, 52, 53, 54, 55, 56, 57, 58, 59, 60, 61] rfl rfl (by decide) (by decide) (va_runS (As := [.int (nI 1)]) (rest := []) ⟨hx, hb, hml, hown, hts⟩ (a_X9_isSheet_135 l dC dI h cs H.size I L A Q G J ) (va_cwS 1 hts gX9_sheet_X9_isSheet rfl rfl rfl (by decide +kernel) ⟨Nat.le_of_ble_eq_true rfl, Nat.le_of_ble_eq_true rfl⟩) (xpS (wc := ([] : va_W)) hP hD hK hN [] rfl (by decide) _) rfl rfl hl.1 rfl (lv_room (Nat.le_of_ble_eq_true rfl)) dX9_sheet_1 ⟨Nat.zero_le _, Nat.zero_le _⟩) (fun r_96 u_95 H locs hw hP hD hS => ?_)
          obtain ⟨hf_97, rfl⟩ := hw
          have hP : va_P (dC, dI) vwCl (wAll h cs fI fL fA fQ fG fJ) H := hP
          have hD : va_D A0 (wAll h cs fI fL fA fQ fG fJ) := hD
          obtain rfl := hf_97
          refine lv_if_eq (tgt := 20) hx hb dX9_sheet_4 (by decide) (fun c9 => False.elim (by revert c9; decide +kernel)) (fun _ => ?_)
          refine lv_iload_n hx hb dX9_sheet_7 rfl (lv_at hl 2 rfl) ?_
          refine xj_i (wc := ([] : va_W)) (wr := (wAll h cs fI fL fA fQ fG fJ)) hP hD hS hA [] [0, 1, 2, 3, 4, 5, 6, 7, 8, 9, 10, 11, 12, 13, 14, 15, 16, 17, 18, 19, 20, 21, 22, 23, 24, 25, 26, 27, 28, 29, 30, 31, 32, 33, 34, 35, 36, 37, 38, 39, 40, 41, 42, 43, 44, 45, 46, 47, 48, 49, 50, 51, 52, 53, 54, 55, 56, 57, 58, 59, 60, 61] rfl rfl (by decide) (by decide) (va_runS (As := [.int (nI 2)]) (rest := []) ⟨hx, hb, hml, hown, hts⟩ (a_X9_isLane_176 l dC dI h cs H.size I L A Q G J ) (va_cwS 1 hts gX9_sheet_X9_isLane rfl rfl rfl (by decide +kernel) ⟨Nat.le_of_ble_eq_true rfl, Nat.le_of_ble_eq_true rfl⟩) (xpS (wc := ([] : va_W)) hP hD hK hN [] rfl (by decide) _) rfl rfl hl.1 rfl (lv_room (Nat.le_of_ble_eq_true rfl)) dX9_sheet_8 ⟨Nat.zero_le _, Nat.zero_le _⟩) (fun r_99 u_98 H locs hw hP hD hS => ?_)
          obtain ⟨hf_100, rfl⟩ := hw
          have hP : va_P (dC, dI) vwCl (wAll h cs fI fL fA fQ fG fJ) H := hP
          have hD : va_D A0 (wAll h cs fI fL fA fQ fG fJ) := hD
          obtain rfl := hf_100
          refine lv_if_eq (tgt := 20) hx hb dX9_sheet_11 (by decide) (fun c9 => False.elim (by revert c9; decide +kernel)) (fun _ => ?_)
          refine lv_iload_n hx hb dX9_sheet_14 rfl (lv_at hl 3 rfl) ?_
          refine lv_bipush (v := nI 25) hx hb dX9_sheet_15 (by decide) ?_
          refine lv_icmp_le (tgt := 22) hx hb dX9_sheet_17 (by decide) (fun c_17_100 => ?_) (fun c_17_100 => ?_)
          · skip
            have t_t_101 : z.toInt ≤ 25 := zc_tle (K := nI 25) (by decide +kernel) c_17_100
            refine lv_iload_n hx hb dX9_sheet_22 rfl (lv_at hl 3 rfl) ?_
            refine lv_if_ge (tgt := 29) hx hb dX9_sheet_23 (by decide) (fun c_23_102 => ?_) (fun c_23_102 => ?_)
            · skip
              have t_t_103 : 0 ≤ z.toInt := zc_tge (K := 0) (by decide +kernel) c_23_102
              refine lv_aload_n hx hb dX9_sheet_29 rfl (lv_at hl 0 rfl) ?_
              refine va_get (D := (dC, dI)) (ci := 9) (v := .ref (h 109)) (C := RX9) (T := TX9) (N := 9) hx hb hts hinX9 hown hK hP 0 rfl rfl 8 (by decide) (hts (.fieldLink RX9 71 "MixedWords" "sheets" "[LMixedWords$Sheet;") (by decide +kernel)) (fun _ h9 => h9) rfl dX9_sheet_30 ?_
              refine lv_iload_n hx hb dX9_sheet_33 rfl (lv_at hl 1 rfl) ?_
              refine xa_aald (b := h 111) hx hb hK hP 53 5 rfl rfl rfl (by omega) (by decide) (if_pos (by omega)) dX9_sheet_34 ?_
              refine lv_iload_n hx hb dX9_sheet_35 rfl (lv_at hl 2 rfl) ?_
              refine lv_iload_n hx hb dX9_sheet_36 rfl (lv_at hl 3 rfl) ?_
              refine xj_v (wc := (wSh1 h cs fI fL fA fQ fG fJ)) (wr := [(h 100, .inr (9, [.ref (h 101), .ref (h 102), .ref (h 103), .ref (h 104), .ref (h 105), .ref (h 106), .ref (h 107), .ref (h 108), .ref (h 109)])), (h 101, .inr (3, [.int (fI 120), .int (fI 121), .int (fI 122), .int (fI 123), .ref (h 130), .ref (h 136)])), (h 130, .inl (cs 3, 5, .inr (.inr (.inr (.inr (fun i => if i < 5 then some (h (i + 131)) else none)))))), (h 131, .inl (cs 0, 4, .inl ((fG 0) 0))), (h 132, .inl (cs 0, 4, .inl ((fG 0) 1))), (h 133, .inl (cs 0, 4, .inl ((fG 0) 2))), (h 134, .inl (cs 0, 4, .inl ((fG 0) 3))), (h 135, .inl (cs 0, 4, .inl ((fG 0) 4))), (h 136, .inl (cs 0, 5, .inl (fA 136))), (h 102, .inr (0, [.ref (h 101), .ref (h 140), .ref (h 141), .ref (h 142), .ref (h 143), .int (fI 144), .int (fI 145), .int (fI 146)])), (h 140, .inl (cs 0, 40, .inl (fA 140))), (h 141, .inl (cs 0, 40, .inl (fA 141))), (h 142, .inl (cs 0, 40, .inl (fA 142))), (h 143, .inl (cs 0, 40, .inl (fA 143))), (h 103, .inr (7, [.ref (h 150), .int (fI 151)])), (h 150, .inl (cs 2, 90, .inl (fA 150))), (h 104, .inr (4, [.ref (h 103), .ref (h 160), .int (fI 166), .int (fI 167), .int (fI 168), .int (fI 169)])), (h 160, .inl (cs 3, 5, .inr (.inr (.inr (.inr (fun i => if i < 5 then some (h (i + 161)) else none)))))), (h 161, .inl (cs 0, 4, .inl ((fG 1) 0))), (h 162, .inl (cs 0, 4, .inl ((fG 1) 1))), (h 163, .inl (cs 0, 4, .inl ((fG 1) 2))), (h 164, .inl (cs 0, 4, .inl ((fG 1) 3))), (h 165, .inl (cs 0, 4, .inl ((fG 1) 4))), (h 105, .inr (8, [.ref (h 101), .ref (h 170), .ref (h 171), .ref (h 172), .int (fI 173), .int (fI 174)])), (h 170, .inl (cs 0, 256, .inl (fA 170))), (h 171, .inl (cs 0, 256, .inl (fA 171))), (h 172, .inl (cs 0, 256, .inl (fA 172))), (h 106, .inr (2, [.ref (h 180), .ref (h 185), .ref (h 186), .ref (h 187), .long (fL 188)])), (h 180, .inl (cs 4, 4, .inr (.inr (.inr (.inr (fun i => if i < 4 then some (h (i + 181)) else none)))))), (h 181, .inl (cs 1, 4, .inr (.inl ((fJ 0) 0)))), (h 182, .inl (cs 1, 4, .inr (.inl ((fJ 0) 1)))), (h 183, .inl (cs 1, 4, .inr (.inl ((fJ 0) 2)))), (h 184, .inl (cs 1, 4, .inr (.inl ((fJ 0) 3)))), (h 185, .inl (cs 1, 4, .inr (.inl (fQ 185)))), (h 186, .inl (cs 0, 4, .inl (fA 186))), (h 187, .inl (cs 1, 4, .inr (.inl (fQ 187)))), (h 107, .inr (6, [.ref (h 101), .ref (h 190), .ref (h 191), .ref (h 192)])), (h 190, .inl (cs 0, 5, .inl (fA 190))), (h 191, .inl (cs 0, 4, .inl (fA 191))), (h 192, .inl (cs 0, 4, .inl (fA 192))), (h 108, .inr (1, [.ref (h 101), .ref (h 200), .ref (h 206), .ref (h 211), .int (fI 212), .int (fI 213)])), (h 200, .inl (cs 3, 5, .inr (.inr (.inr (.inr (fun i => if i < 5 then some (h (i + 201)) else none)))))), (h 201, .inl (cs 0, 4, .inl ((fG 2) 0))), (h 202, .inl (cs 0, 4, .inl ((fG 2) 1))), (h 203, .inl (cs 0, 4, .inl ((fG 2) 2))), (h 204, .inl (cs 0, 4, .inl ((fG 2) 3))), (h 205, .inl (cs 0, 4, .inl ((fG 2) 4))), (h 206, .inl (cs 3, 4, .inr (.inr (.inr (.inr (fun i => if i < 4 then some (h (i + 207)) else none)))))), (h 207, .inl (cs 0, 4, .inl ((fG 3) 0))), (h 208, .inl (cs 0, 4, .inl ((fG 3) 1))), (h 209, .inl (cs 0, 4, .inl ((fG 3) 2))), (h 210, .inl (cs 0, 4, .inl ((fG 3) 3))), (h 211, .inl (cs 0, 5, .inl (fA 211))), (h 109, .inl (cs 5, 4, .inr (.inr (.inr (.inr (fun i => if i < 4 then some (h (i + 110)) else none)))))), (h 110, .inr (5, [.int (fI 220), .int (fI 224), .ref (h 228)])), (h 228, .inl (cs 1, 25, .inr (.inl (fQ 228)))), (h 112, .inr (5, [.int (fI 222), .int (fI 226), .ref (h 230)])), (h 230, .inl (cs 1, 25, .inr (.inl (fQ 230)))), (h 113, .inr (5, [.int (fI 223), .int (fI 227), .ref (h 231)])), (h 231, .inl (cs 1, 25, .inr (.inl (fQ 231))))]) hP hD hS hA [56, 57] [0, 1, 2, 3, 4, 5, 6, 7, 8, 9, 10, 11, 12, 13, 14, 15, 16, 17, 18, 19, 20, 21, 22, 23, 24, 25, 26, 27, 28, 29, 30, 31, 32, 33, 34, 35, 36, 37, 38, 39, 40, 41, 42, 43, 44, 45, 46, 47, 48, 49, 50, 51, 52, 53, 54, 55, 58, 59, 60, 61] rfl rfl (by decide) (by decide) (va_runV (As := [.int (nI 2), .int z]) (rest := []) ⟨hx, hb, hml, hown, hts⟩ (f_X5_renew1 l dC dI h cs H.size fI fL fA fQ fG fJ (nI 2) z) (cwV 2 hts gX9_sheet_X5_renew rfl rfl rfl (by decide +kernel) ⟨Nat.le_of_ble_eq_true rfl, Nat.le_of_ble_eq_true rfl⟩) (xpV (wc := (wSh1 h cs fI fL fA fQ fG fJ)) hP hD hK hN [56, 57] rfl (by decide) 56 (ci := 5) rfl rfl _) rfl rfl hl.1 rfl (lv_room (Nat.le_of_ble_eq_true rfl)) dX9_sheet_37 ⟨Nat.zero_le _, Nat.zero_le _⟩) (fun u_105 H locs hw hP hD hS => ?_)
              obtain ⟨i221_107, i225_108, hf_109, rfl⟩ := hw
              have hP : va_P (dC, dI) vwCl (wAll h cs (va_up (va_up fI 221 i221_107) 225 i225_108) fL fA fQ fG fJ) H := xP_sub hP [0, 1, 2, 3, 4, 5, 6, 7, 8, 9, 10, 11, 12, 13, 14, 15, 16, 17, 18, 19, 20, 21, 22, 23, 24, 25, 26, 27, 28, 29, 30, 31, 32, 33, 34, 35, 36, 37, 38, 39, 40, 41, 42, 43, 44, 45, 46, 47, 48, 49, 50, 51, 52, 53, 54, 55, 60, 61, 56, 57, 58, 59] rfl
              have hD : va_D A0 (wAll h cs (va_up (va_up fI 221 i221_107) 225 i225_108) fL fA fQ fG fJ) := hD.sub [0, 1, 2, 3, 4, 5, 6, 7, 8, 9, 10, 11, 12, 13, 14, 15, 16, 17, 18, 19, 20, 21, 22, 23, 24, 25, 26, 27, 28, 29, 30, 31, 32, 33, 34, 35, 36, 37, 38, 39, 40, 41, 42, 43, 44, 45, 46, 47, 48, 49, 50, 51, 52, 53, 54, 55, 60, 61, 56, 57, 58, 59] (by decide) rfl
              refine lv_iload_n hx hb dX9_sheet_40 rfl (lv_at hl 3 rfl) ?_
              exact xr_i (v := z) hx hb hr hlocks hK hS dX9_sheet_41 ((va_up (va_up fI 221 i221_107) 225 i225_108), fL, fA, fQ, fG, fJ) ⟨(va_up (va_up fI 221 i221_107) 225 i225_108), (by unfold an_sheet; rw [if_pos (⟨by decide +kernel, by omega⟩), if_neg (by omega)]), rfl⟩ hP hD
            · skip
              have t_f_109 : z.toInt < 0 := zc_fge (K := 0) (by decide +kernel) c_23_102
              refine lv_bipush (v := (-14)) hx hb dX9_sheet_26 (by decide) ?_
              exact xr_i (v := (-14)) hx hb hr hlocks hK hS dX9_sheet_28 (fI, fL, fA, fQ, fG, fJ) ⟨fI, (by unfold an_sheet; rw [if_pos (⟨by decide +kernel, by omega⟩), if_pos (by omega)]), rfl⟩ hP hD
          · skip
            have t_f_110 : 25 < z.toInt := zc_fle (K := nI 25) (by decide +kernel) c_17_100
            refine lv_iconst (v := (-1)) hx hb dX9_sheet_20 (by decide) ?_
            exact xr_i (v := (-1)) hx hb hr hlocks hK hS dX9_sheet_21 (fI, fL, fA, fQ, fG, fJ) ⟨fI, (by unfold an_sheet; rw [if_neg (by omega)]), rfl⟩ hP hD
      · skip
        refine lv_iload_n hx hb dX9_sheet_0 rfl (lv_at hl 1 rfl) ?_
        refine xj_i (wc := ([] : va_W)) (wr := (wAll h cs fI fL fA fQ fG fJ)) hP hD hS hA [] [0, 1, 2, 3, 4, 5, 6, 7, 8, 9, 10, 11, 12, 13, 14, 15, 16, 17, 18, 19, 20, 21, 22, 23, 24, 25, 26, 27, 28, 29, 30, 31, 32, 33, 34, 35, 36, 37, 38, 39, 40, 41, 42, 43, 44, 45, 46, 47, 48, 49, 50, 51, 52, 53, 54, 55, 56, 57, 58, 59, 60, 61] rfl rfl (by decide) (by decide) (va_runS (As := [.int (nI 1)]) (rest := []) ⟨hx, hb, hml, hown, hts⟩ (a_X9_isSheet_135 l dC dI h cs H.size I L A Q G J ) (va_cwS 1 hts gX9_sheet_X9_isSheet rfl rfl rfl (by decide +kernel) ⟨Nat.le_of_ble_eq_true rfl, Nat.le_of_ble_eq_true rfl⟩) (xpS (wc := ([] : va_W)) hP hD hK hN [] rfl (by decide) _) rfl rfl hl.1 rfl (lv_room (Nat.le_of_ble_eq_true rfl)) dX9_sheet_1 ⟨Nat.zero_le _, Nat.zero_le _⟩) (fun r_113 u_112 H locs hw hP hD hS => ?_)
        obtain ⟨hf_114, rfl⟩ := hw
        have hP : va_P (dC, dI) vwCl (wAll h cs fI fL fA fQ fG fJ) H := hP
        have hD : va_D A0 (wAll h cs fI fL fA fQ fG fJ) := hD
        obtain rfl := hf_114
        refine lv_if_eq (tgt := 20) hx hb dX9_sheet_4 (by decide) (fun c9 => False.elim (by revert c9; decide +kernel)) (fun _ => ?_)
        refine lv_iload_n hx hb dX9_sheet_7 rfl (lv_at hl 2 rfl) ?_
        refine xj_i (wc := ([] : va_W)) (wr := (wAll h cs fI fL fA fQ fG fJ)) hP hD hS hA [] [0, 1, 2, 3, 4, 5, 6, 7, 8, 9, 10, 11, 12, 13, 14, 15, 16, 17, 18, 19, 20, 21, 22, 23, 24, 25, 26, 27, 28, 29, 30, 31, 32, 33, 34, 35, 36, 37, 38, 39, 40, 41, 42, 43, 44, 45, 46, 47, 48, 49, 50, 51, 52, 53, 54, 55, 56, 57, 58, 59, 60, 61] rfl rfl (by decide) (by decide) (va_runS (As := [.int y]) (rest := []) ⟨hx, hb, hml, hown, hts⟩ (k_X9_isLane l dC dI h cs H.size I L A Q G J y) (va_cwS 1 hts gX9_sheet_X9_isLane rfl rfl rfl (by decide +kernel) ⟨Nat.le_of_ble_eq_true rfl, Nat.le_of_ble_eq_true rfl⟩) (xpS (wc := ([] : va_W)) hP hD hK hN [] rfl (by decide) _) rfl rfl hl.1 rfl (lv_room (Nat.le_of_ble_eq_true rfl)) dX9_sheet_8 ⟨Nat.zero_le _, Nat.zero_le _⟩) (fun r_116 u_115 H locs hw hP hD hS => ?_)
        obtain ⟨hf_117, rfl⟩ := hw
        have hP : va_P (dC, dI) vwCl (wAll h cs fI fL fA fQ fG fJ) H := hP
        have hD : va_D A0 (wAll h cs fI fL fA fQ fG fJ) := hD
        rcases hf_117 with ⟨rfl, i_118, hh_119, ee_120⟩ | ⟨rfl, -⟩
        · skip
          exact absurd (by rw [ee_120, nI_toInt (by omega)]; omega) hz_y
        · skip
          refine lv_if_eq (tgt := 20) hx hb dX9_sheet_11 (by decide) (fun _ => ?_) (fun c9 => False.elim (by revert c9; decide +kernel))
          refine lv_iconst (v := (-1)) hx hb dX9_sheet_20 (by decide) ?_
          exact xr_i (v := (-1)) hx hb hr hlocks hK hS dX9_sheet_21 (fI, fL, fA, fQ, fG, fJ) ⟨fI, (by unfold an_sheet; rw [if_neg (by omega)]), rfl⟩ hP hD
    · skip
      rcases splR y 0 2 (by decide) with ⟨i_y, h_y, g_y, rfl⟩ | hz_y
      · skip
        rcases (show i_y = 0 ∨ i_y = 1 ∨ i_y = 2 by omega) with rfl | rfl | rfl
        · skip
          refine lv_iload_n hx hb dX9_sheet_0 rfl (lv_at hl 1 rfl) ?_
          refine xj_i (wc := ([] : va_W)) (wr := (wAll h cs fI fL fA fQ fG fJ)) hP hD hS hA [] [0, 1, 2, 3, 4, 5, 6, 7, 8, 9, 10, 11, 12, 13, 14, 15, 16, 17, 18, 19, 20, 21, 22, 23, 24, 25, 26, 27, 28, 29, 30, 31, 32, 33, 34, 35, 36, 37, 38, 39, 40, 41, 42, 43, 44, 45, 46, 47, 48, 49, 50, 51, 52, 53, 54, 55, 56, 57, 58, 59, 60, 61] rfl rfl (by decide) (by decide) (va_runS (As := [.int (nI 2)]) (rest := []) ⟨hx, hb, hml, hown, hts⟩ (a_X9_isSheet_138 l dC dI h cs H.size I L A Q G J ) (va_cwS 1 hts gX9_sheet_X9_isSheet rfl rfl rfl (by decide +kernel) ⟨Nat.le_of_ble_eq_true rfl, Nat.le_of_ble_eq_true rfl⟩) (xpS (wc := ([] : va_W)) hP hD hK hN [] rfl (by decide) _) rfl rfl hl.1 rfl (lv_room (Nat.le_of_ble_eq_true rfl)) dX9_sheet_1 ⟨Nat.zero_le _, Nat.zero_le _⟩) (fun r_122 u_121 H locs hw hP hD hS => ?_)
          obtain ⟨hf_123, rfl⟩ := hw
          have hP : va_P (dC, dI) vwCl (wAll h cs fI fL fA fQ fG fJ) H := hP
          have hD : va_D A0 (wAll h cs fI fL fA fQ fG fJ) := hD
          obtain rfl := hf_123
          refine lv_if_eq (tgt := 20) hx hb dX9_sheet_4 (by decide) (fun c9 => False.elim (by revert c9; decide +kernel)) (fun _ => ?_)
          refine lv_iload_n hx hb dX9_sheet_7 rfl (lv_at hl 2 rfl) ?_
          refine xj_i (wc := ([] : va_W)) (wr := (wAll h cs fI fL fA fQ fG fJ)) hP hD hS hA [] [0, 1, 2, 3, 4, 5, 6, 7, 8, 9, 10, 11, 12, 13, 14, 15, 16, 17, 18, 19, 20, 21, 22, 23, 24, 25, 26, 27, 28, 29, 30, 31, 32, 33, 34, 35, 36, 37, 38, 39, 40, 41, 42, 43, 44, 45, 46, 47, 48, 49, 50, 51, 52, 53, 54, 55, 56, 57, 58, 59, 60, 61] rfl rfl (by decide) (by decide) (va_runS (As := [.int (nI 0)]) (rest := []) ⟨hx, hb, hml, hown, hts⟩ (a_X9_isLane_174 l dC dI h cs H.size I L A Q G J ) (va_cwS 1 hts gX9_sheet_X9_isLane rfl rfl rfl (by decide +kernel) ⟨Nat.le_of_ble_eq_true rfl, Nat.le_of_ble_eq_true rfl⟩) (xpS (wc := ([] : va_W)) hP hD hK hN [] rfl (by decide) _) rfl rfl hl.1 rfl (lv_room (Nat.le_of_ble_eq_true rfl)) dX9_sheet_8 ⟨Nat.zero_le _, Nat.zero_le _⟩) (fun r_125 u_124 H locs hw hP hD hS => ?_)
          obtain ⟨hf_126, rfl⟩ := hw
          have hP : va_P (dC, dI) vwCl (wAll h cs fI fL fA fQ fG fJ) H := hP
          have hD : va_D A0 (wAll h cs fI fL fA fQ fG fJ) := hD
          obtain rfl := hf_126
          refine lv_if_eq (tgt := 20) hx hb dX9_sheet_11 (by decide) (fun c9 => False.elim (by revert c9; decide +kernel)) (fun _ => ?_)
          refine lv_iload_n hx hb dX9_sheet_14 rfl (lv_at hl 3 rfl) ?_
          refine lv_bipush (v := nI 25) hx hb dX9_sheet_15 (by decide) ?_
          refine lv_icmp_le (tgt := 22) hx hb dX9_sheet_17 (by decide) (fun c_17_126 => ?_) (fun c_17_126 => ?_)
          · skip
            have t_t_127 : z.toInt ≤ 25 := zc_tle (K := nI 25) (by decide +kernel) c_17_126
            refine lv_iload_n hx hb dX9_sheet_22 rfl (lv_at hl 3 rfl) ?_
            refine lv_if_ge (tgt := 29) hx hb dX9_sheet_23 (by decide) (fun c_23_128 => ?_) (fun c_23_128 => ?_)
            · skip
              have t_t_129 : 0 ≤ z.toInt := zc_tge (K := 0) (by decide +kernel) c_23_128
              refine lv_aload_n hx hb dX9_sheet_29 rfl (lv_at hl 0 rfl) ?_
              refine va_get (D := (dC, dI)) (ci := 9) (v := .ref (h 109)) (C := RX9) (T := TX9) (N := 9) hx hb hts hinX9 hown hK hP 0 rfl rfl 8 (by decide) (hts (.fieldLink RX9 71 "MixedWords" "sheets" "[LMixedWords$Sheet;") (by decide +kernel)) (fun _ h9 => h9) rfl dX9_sheet_30 ?_
              refine lv_iload_n hx hb dX9_sheet_33 rfl (lv_at hl 1 rfl) ?_
              refine xa_aald (b := h 112) hx hb hK hP 53 5 rfl rfl rfl (by omega) (by decide) (if_pos (by omega)) dX9_sheet_34 ?_
              refine lv_iload_n hx hb dX9_sheet_35 rfl (lv_at hl 2 rfl) ?_
              refine lv_iload_n hx hb dX9_sheet_36 rfl (lv_at hl 3 rfl) ?_
              refine xj_v (wc := (wSh2 h cs fI fL fA fQ fG fJ)) (wr := [(h 100, .inr (9, [.ref (h 101), .ref (h 102), .ref (h 103), .ref (h 104), .ref (h 105), .ref (h 106), .ref (h 107), .ref (h 108), .ref (h 109)])), (h 101, .inr (3, [.int (fI 120), .int (fI 121), .int (fI 122), .int (fI 123), .ref (h 130), .ref (h 136)])), (h 130, .inl (cs 3, 5, .inr (.inr (.inr (.inr (fun i => if i < 5 then some (h (i + 131)) else none)))))), (h 131, .inl (cs 0, 4, .inl ((fG 0) 0))), (h 132, .inl (cs 0, 4, .inl ((fG 0) 1))), (h 133, .inl (cs 0, 4, .inl ((fG 0) 2))), (h 134, .inl (cs 0, 4, .inl ((fG 0) 3))), (h 135, .inl (cs 0, 4, .inl ((fG 0) 4))), (h 136, .inl (cs 0, 5, .inl (fA 136))), (h 102, .inr (0, [.ref (h 101), .ref (h 140), .ref (h 141), .ref (h 142), .ref (h 143), .int (fI 144), .int (fI 145), .int (fI 146)])), (h 140, .inl (cs 0, 40, .inl (fA 140))), (h 141, .inl (cs 0, 40, .inl (fA 141))), (h 142, .inl (cs 0, 40, .inl (fA 142))), (h 143, .inl (cs 0, 40, .inl (fA 143))), (h 103, .inr (7, [.ref (h 150), .int (fI 151)])), (h 150, .inl (cs 2, 90, .inl (fA 150))), (h 104, .inr (4, [.ref (h 103), .ref (h 160), .int (fI 166), .int (fI 167), .int (fI 168), .int (fI 169)])), (h 160, .inl (cs 3, 5, .inr (.inr (.inr (.inr (fun i => if i < 5 then some (h (i + 161)) else none)))))), (h 161, .inl (cs 0, 4, .inl ((fG 1) 0))), (h 162, .inl (cs 0, 4, .inl ((fG 1) 1))), (h 163, .inl (cs 0, 4, .inl ((fG 1) 2))), (h 164, .inl (cs 0, 4, .inl ((fG 1) 3))), (h 165, .inl (cs 0, 4, .inl ((fG 1) 4))), (h 105, .inr (8, [.ref (h 101), .ref (h 170), .ref (h 171), .ref (h 172), .int (fI 173), .int (fI 174)])), (h 170, .inl (cs 0, 256, .inl (fA 170))), (h 171, .inl (cs 0, 256, .inl (fA 171))), (h 172, .inl (cs 0, 256, .inl (fA 172))), (h 106, .inr (2, [.ref (h 180), .ref (h 185), .ref (h 186), .ref (h 187), .long (fL 188)])), (h 180, .inl (cs 4, 4, .inr (.inr (.inr (.inr (fun i => if i < 4 then some (h (i + 181)) else none)))))), (h 181, .inl (cs 1, 4, .inr (.inl ((fJ 0) 0)))), (h 182, .inl (cs 1, 4, .inr (.inl ((fJ 0) 1)))), (h 183, .inl (cs 1, 4, .inr (.inl ((fJ 0) 2)))), (h 184, .inl (cs 1, 4, .inr (.inl ((fJ 0) 3)))), (h 185, .inl (cs 1, 4, .inr (.inl (fQ 185)))), (h 186, .inl (cs 0, 4, .inl (fA 186))), (h 187, .inl (cs 1, 4, .inr (.inl (fQ 187)))), (h 107, .inr (6, [.ref (h 101), .ref (h 190), .ref (h 191), .ref (h 192)])), (h 190, .inl (cs 0, 5, .inl (fA 190))), (h 191, .inl (cs 0, 4, .inl (fA 191))), (h 192, .inl (cs 0, 4, .inl (fA 192))), (h 108, .inr (1, [.ref (h 101), .ref (h 200), .ref (h 206), .ref (h 211), .int (fI 212), .int (fI 213)])), (h 200, .inl (cs 3, 5, .inr (.inr (.inr (.inr (fun i => if i < 5 then some (h (i + 201)) else none)))))), (h 201, .inl (cs 0, 4, .inl ((fG 2) 0))), (h 202, .inl (cs 0, 4, .inl ((fG 2) 1))), (h 203, .inl (cs 0, 4, .inl ((fG 2) 2))), (h 204, .inl (cs 0, 4, .inl ((fG 2) 3))), (h 205, .inl (cs 0, 4, .inl ((fG 2) 4))), (h 206, .inl (cs 3, 4, .inr (.inr (.inr (.inr (fun i => if i < 4 then some (h (i + 207)) else none)))))), (h 207, .inl (cs 0, 4, .inl ((fG 3) 0))), (h 208, .inl (cs 0, 4, .inl ((fG 3) 1))), (h 209, .inl (cs 0, 4, .inl ((fG 3) 2))), (h 210, .inl (cs 0, 4, .inl ((fG 3) 3))), (h 211, .inl (cs 0, 5, .inl (fA 211))), (h 109, .inl (cs 5, 4, .inr (.inr (.inr (.inr (fun i => if i < 4 then some (h (i + 110)) else none)))))), (h 110, .inr (5, [.int (fI 220), .int (fI 224), .ref (h 228)])), (h 228, .inl (cs 1, 25, .inr (.inl (fQ 228)))), (h 111, .inr (5, [.int (fI 221), .int (fI 225), .ref (h 229)])), (h 229, .inl (cs 1, 25, .inr (.inl (fQ 229)))), (h 113, .inr (5, [.int (fI 223), .int (fI 227), .ref (h 231)])), (h 231, .inl (cs 1, 25, .inr (.inl (fQ 231))))]) hP hD hS hA [58, 59] [0, 1, 2, 3, 4, 5, 6, 7, 8, 9, 10, 11, 12, 13, 14, 15, 16, 17, 18, 19, 20, 21, 22, 23, 24, 25, 26, 27, 28, 29, 30, 31, 32, 33, 34, 35, 36, 37, 38, 39, 40, 41, 42, 43, 44, 45, 46, 47, 48, 49, 50, 51, 52, 53, 54, 55, 56, 57, 60, 61] rfl rfl (by decide) (by decide) (va_runV (As := [.int (nI 0), .int z]) (rest := []) ⟨hx, hb, hml, hown, hts⟩ (f_X5_renew2 l dC dI h cs H.size fI fL fA fQ fG fJ (nI 0) z) (cwV 2 hts gX9_sheet_X5_renew rfl rfl rfl (by decide +kernel) ⟨Nat.le_of_ble_eq_true rfl, Nat.le_of_ble_eq_true rfl⟩) (xpV (wc := (wSh2 h cs fI fL fA fQ fG fJ)) hP hD hK hN [58, 59] rfl (by decide) 58 (ci := 5) rfl rfl _) rfl rfl hl.1 rfl (lv_room (Nat.le_of_ble_eq_true rfl)) dX9_sheet_37 ⟨Nat.zero_le _, Nat.zero_le _⟩) (fun u_131 H locs hw hP hD hS => ?_)
              obtain ⟨i222_133, i226_134, hf_135, rfl⟩ := hw
              have hP : va_P (dC, dI) vwCl (wAll h cs (va_up (va_up fI 222 i222_133) 226 i226_134) fL fA fQ fG fJ) H := xP_sub hP [0, 1, 2, 3, 4, 5, 6, 7, 8, 9, 10, 11, 12, 13, 14, 15, 16, 17, 18, 19, 20, 21, 22, 23, 24, 25, 26, 27, 28, 29, 30, 31, 32, 33, 34, 35, 36, 37, 38, 39, 40, 41, 42, 43, 44, 45, 46, 47, 48, 49, 50, 51, 52, 53, 54, 55, 56, 57, 60, 61, 58, 59] rfl
              have hD : va_D A0 (wAll h cs (va_up (va_up fI 222 i222_133) 226 i226_134) fL fA fQ fG fJ) := hD.sub [0, 1, 2, 3, 4, 5, 6, 7, 8, 9, 10, 11, 12, 13, 14, 15, 16, 17, 18, 19, 20, 21, 22, 23, 24, 25, 26, 27, 28, 29, 30, 31, 32, 33, 34, 35, 36, 37, 38, 39, 40, 41, 42, 43, 44, 45, 46, 47, 48, 49, 50, 51, 52, 53, 54, 55, 56, 57, 60, 61, 58, 59] (by decide) rfl
              refine lv_iload_n hx hb dX9_sheet_40 rfl (lv_at hl 3 rfl) ?_
              exact xr_i (v := z) hx hb hr hlocks hK hS dX9_sheet_41 ((va_up (va_up fI 222 i222_133) 226 i226_134), fL, fA, fQ, fG, fJ) ⟨(va_up (va_up fI 222 i222_133) 226 i226_134), (by unfold an_sheet; rw [if_pos (⟨by decide +kernel, by omega⟩), if_neg (by omega)]), rfl⟩ hP hD
            · skip
              have t_f_135 : z.toInt < 0 := zc_fge (K := 0) (by decide +kernel) c_23_128
              refine lv_bipush (v := (-14)) hx hb dX9_sheet_26 (by decide) ?_
              exact xr_i (v := (-14)) hx hb hr hlocks hK hS dX9_sheet_28 (fI, fL, fA, fQ, fG, fJ) ⟨fI, (by unfold an_sheet; rw [if_pos (⟨by decide +kernel, by omega⟩), if_pos (by omega)]), rfl⟩ hP hD
          · skip
            have t_f_136 : 25 < z.toInt := zc_fle (K := nI 25) (by decide +kernel) c_17_126
            refine lv_iconst (v := (-1)) hx hb dX9_sheet_20 (by decide) ?_
            exact xr_i (v := (-1)) hx hb hr hlocks hK hS dX9_sheet_21 (fI, fL, fA, fQ, fG, fJ) ⟨fI, (by unfold an_sheet; rw [if_neg (by omega)]), rfl⟩ hP hD
        · skip
          refine lv_iload_n hx hb dX9_sheet_0 rfl (lv_at hl 1 rfl) ?_
          refine xj_i (wc := ([] : va_W)) (wr := (wAll h cs fI fL fA fQ fG fJ)) hP hD hS hA [] [0, 1, 2, 3, 4, 5, 6, 7, 8, 9, 10, 11, 12, 13, 14, 15, 16, 17, 18, 19, 20, 21, 22, 23, 24, 25, 26, 27, 28, 29, 30, 31, 32, 33, 34, 35, 36, 37, 38, 39, 40, 41, 42, 43, 44, 45, 46, 47, 48, 49, 50, 51, 52, 53, 54, 55, 56, 57, 58, 59, 60, 61] rfl rfl (by decide) (by decide) (va_runS (As := [.int (nI 2)]) (rest := []) ⟨hx, hb, hml, hown, hts⟩ (a_X9_isSheet_138 l dC dI h cs H.size I L A Q G J ) (va_cwS 1 hts gX9_sheet_X9_isSheet rfl rfl rfl (by decide +kernel) ⟨Nat.le_of_ble_eq_true rfl, Nat.le_of_ble_eq_true rfl⟩) (xpS (wc := ([] : va_W)) hP hD hK hN [] rfl (by decide) _) rfl rfl hl.1 rfl (lv_room (Nat.le_of_ble_eq_true rfl)) dX9_sheet_1 ⟨Nat.zero_le _, Nat.zero_le _⟩) (fun r_139 u_138 H locs hw hP hD hS => ?_)
          obtain ⟨hf_140, rfl⟩ := hw
          have hP : va_P (dC, dI) vwCl (wAll h cs fI fL fA fQ fG fJ) H := hP
          have hD : va_D A0 (wAll h cs fI fL fA fQ fG fJ) := hD
          obtain rfl := hf_140
          refine lv_if_eq (tgt := 20) hx hb dX9_sheet_4 (by decide) (fun c9 => False.elim (by revert c9; decide +kernel)) (fun _ => ?_)
          refine lv_iload_n hx hb dX9_sheet_7 rfl (lv_at hl 2 rfl) ?_
          refine xj_i (wc := ([] : va_W)) (wr := (wAll h cs fI fL fA fQ fG fJ)) hP hD hS hA [] [0, 1, 2, 3, 4, 5, 6, 7, 8, 9, 10, 11, 12, 13, 14, 15, 16, 17, 18, 19, 20, 21, 22, 23, 24, 25, 26, 27, 28, 29, 30, 31, 32, 33, 34, 35, 36, 37, 38, 39, 40, 41, 42, 43, 44, 45, 46, 47, 48, 49, 50, 51, 52, 53, 54, 55, 56, 57, 58, 59, 60, 61] rfl rfl (by decide) (by decide) (va_runS (As := [.int (nI 1)]) (rest := []) ⟨hx, hb, hml, hown, hts⟩ (a_X9_isLane_175 l dC dI h cs H.size I L A Q G J ) (va_cwS 1 hts gX9_sheet_X9_isLane rfl rfl rfl (by decide +kernel) ⟨Nat.le_of_ble_eq_true rfl, Nat.le_of_ble_eq_true rfl⟩) (xpS (wc := ([] : va_W)) hP hD hK hN [] rfl (by decide) _) rfl rfl hl.1 rfl (lv_room (Nat.le_of_ble_eq_true rfl)) dX9_sheet_8 ⟨Nat.zero_le _, Nat.zero_le _⟩) (fun r_142 u_141 H locs hw hP hD hS => ?_)
          obtain ⟨hf_143, rfl⟩ := hw
          have hP : va_P (dC, dI) vwCl (wAll h cs fI fL fA fQ fG fJ) H := hP
          have hD : va_D A0 (wAll h cs fI fL fA fQ fG fJ) := hD
          obtain rfl := hf_143
          refine lv_if_eq (tgt := 20) hx hb dX9_sheet_11 (by decide) (fun c9 => False.elim (by revert c9; decide +kernel)) (fun _ => ?_)
          refine lv_iload_n hx hb dX9_sheet_14 rfl (lv_at hl 3 rfl) ?_
          refine lv_bipush (v := nI 25) hx hb dX9_sheet_15 (by decide) ?_
          refine lv_icmp_le (tgt := 22) hx hb dX9_sheet_17 (by decide) (fun c_17_143 => ?_) (fun c_17_143 => ?_)
          · skip
            have t_t_144 : z.toInt ≤ 25 := zc_tle (K := nI 25) (by decide +kernel) c_17_143
            refine lv_iload_n hx hb dX9_sheet_22 rfl (lv_at hl 3 rfl) ?_
            refine lv_if_ge (tgt := 29) hx hb dX9_sheet_23 (by decide) (fun c_23_145 => ?_) (fun c_23_145 => ?_)
            · skip
              have t_t_146 : 0 ≤ z.toInt := zc_tge (K := 0) (by decide +kernel) c_23_145
              refine lv_aload_n hx hb dX9_sheet_29 rfl (lv_at hl 0 rfl) ?_
              refine va_get (D := (dC, dI)) (ci := 9) (v := .ref (h 109)) (C := RX9) (T := TX9) (N := 9) hx hb hts hinX9 hown hK hP 0 rfl rfl 8 (by decide) (hts (.fieldLink RX9 71 "MixedWords" "sheets" "[LMixedWords$Sheet;") (by decide +kernel)) (fun _ h9 => h9) rfl dX9_sheet_30 ?_
              refine lv_iload_n hx hb dX9_sheet_33 rfl (lv_at hl 1 rfl) ?_
              refine xa_aald (b := h 112) hx hb hK hP 53 5 rfl rfl rfl (by omega) (by decide) (if_pos (by omega)) dX9_sheet_34 ?_
              refine lv_iload_n hx hb dX9_sheet_35 rfl (lv_at hl 2 rfl) ?_
              refine lv_iload_n hx hb dX9_sheet_36 rfl (lv_at hl 3 rfl) ?_
              refine xj_v (wc := (wSh2 h cs fI fL fA fQ fG fJ)) (wr := [(h 100, .inr (9, [.ref (h 101), .ref (h 102), .ref (h 103), .ref (h 104), .ref (h 105), .ref (h 106), .ref (h 107), .ref (h 108), .ref (h 109)])), (h 101, .inr (3, [.int (fI 120), .int (fI 121), .int (fI 122), .int (fI 123), .ref (h 130), .ref (h 136)])), (h 130, .inl (cs 3, 5, .inr (.inr (.inr (.inr (fun i => if i < 5 then some (h (i + 131)) else none)))))), (h 131, .inl (cs 0, 4, .inl ((fG 0) 0))), (h 132, .inl (cs 0, 4, .inl ((fG 0) 1))), (h 133, .inl (cs 0, 4, .inl ((fG 0) 2))), (h 134, .inl (cs 0, 4, .inl ((fG 0) 3))), (h 135, .inl (cs 0, 4, .inl ((fG 0) 4))), (h 136, .inl (cs 0, 5, .inl (fA 136))), (h 102, .inr (0, [.ref (h 101), .ref (h 140), .ref (h 141), .ref (h 142), .ref (h 143), .int (fI 144), .int (fI 145), .int (fI 146)])), (h 140, .inl (cs 0, 40, .inl (fA 140))), (h 141, .inl (cs 0, 40, .inl (fA 141))), (h 142, .inl (cs 0, 40, .inl (fA 142))), (h 143, .inl (cs 0, 40, .inl (fA 143))), (h 103, .inr (7, [.ref (h 150), .int (fI 151)])), (h 150, .inl (cs 2, 90, .inl (fA 150))), (h 104, .inr (4, [.ref (h 103), .ref (h 160), .int (fI 166), .int (fI 167), .int (fI 168), .int (fI 169)])), (h 160, .inl (cs 3, 5, .inr (.inr (.inr (.inr (fun i => if i < 5 then some (h (i + 161)) else none)))))), (h 161, .inl (cs 0, 4, .inl ((fG 1) 0))), (h 162, .inl (cs 0, 4, .inl ((fG 1) 1))), (h 163, .inl (cs 0, 4, .inl ((fG 1) 2))), (h 164, .inl (cs 0, 4, .inl ((fG 1) 3))), (h 165, .inl (cs 0, 4, .inl ((fG 1) 4))), (h 105, .inr (8, [.ref (h 101), .ref (h 170), .ref (h 171), .ref (h 172), .int (fI 173), .int (fI 174)])), (h 170, .inl (cs 0, 256, .inl (fA 170))), (h 171, .inl (cs 0, 256, .inl (fA 171))), (h 172, .inl (cs 0, 256, .inl (fA 172))), (h 106, .inr (2, [.ref (h 180), .ref (h 185), .ref (h 186), .ref (h 187), .long (fL 188)])), (h 180, .inl (cs 4, 4, .inr (.inr (.inr (.inr (fun i => if i < 4 then some (h (i + 181)) else none)))))), (h 181, .inl (cs 1, 4, .inr (.inl ((fJ 0) 0)))), (h 182, .inl (cs 1, 4, .inr (.inl ((fJ 0) 1)))), (h 183, .inl (cs 1, 4, .inr (.inl ((fJ 0) 2)))), (h 184, .inl (cs 1, 4, .inr (.inl ((fJ 0) 3)))), (h 185, .inl (cs 1, 4, .inr (.inl (fQ 185)))), (h 186, .inl (cs 0, 4, .inl (fA 186))), (h 187, .inl (cs 1, 4, .inr (.inl (fQ 187)))), (h 107, .inr (6, [.ref (h 101), .ref (h 190), .ref (h 191), .ref (h 192)])), (h 190, .inl (cs 0, 5, .inl (fA 190))), (h 191, .inl (cs 0, 4, .inl (fA 191))), (h 192, .inl (cs 0, 4, .inl (fA 192))), (h 108, .inr (1, [.ref (h 101), .ref (h 200), .ref (h 206), .ref (h 211), .int (fI 212), .int (fI 213)])), (h 200, .inl (cs 3, 5, .inr (.inr (.inr (.inr (fun i => if i < 5 then some (h (i + 201)) else none)))))), (h 201, .inl (cs 0, 4, .inl ((fG 2) 0))), (h 202, .inl (cs 0, 4, .inl ((fG 2) 1))), (h 203, .inl (cs 0, 4, .inl ((fG 2) 2))), (h 204, .inl (cs 0, 4, .inl ((fG 2) 3))), (h 205, .inl (cs 0, 4, .inl ((fG 2) 4))), (h 206, .inl (cs 3, 4, .inr (.inr (.inr (.inr (fun i => if i < 4 then some (h (i + 207)) else none)))))), (h 207, .inl (cs 0, 4, .inl ((fG 3) 0))), (h 208, .inl (cs 0, 4, .inl ((fG 3) 1))), (h 209, .inl (cs 0, 4, .inl ((fG 3) 2))), (h 210, .inl (cs 0, 4, .inl ((fG 3) 3))), (h 211, .inl (cs 0, 5, .inl (fA 211))), (h 109, .inl (cs 5, 4, .inr (.inr (.inr (.inr (fun i => if i < 4 then some (h (i + 110)) else none)))))), (h 110, .inr (5, [.int (fI 220), .int (fI 224), .ref (h 228)])), (h 228, .inl (cs 1, 25, .inr (.inl (fQ 228)))), (h 111, .inr (5, [.int (fI 221), .int (fI 225), .ref (h 229)])), (h 229, .inl (cs 1, 25, .inr (.inl (fQ 229)))), (h 113, .inr (5, [.int (fI 223), .int (fI 227), .ref (h 231)])), (h 231, .inl (cs 1, 25, .inr (.inl (fQ 231))))]) hP hD hS hA [58, 59] [0, 1, 2, 3, 4, 5, 6, 7, 8, 9, 10, 11, 12, 13, 14, 15, 16, 17, 18, 19, 20, 21, 22, 23, 24, 25, 26, 27, 28, 29, 30, 31, 32, 33, 34, 35, 36, 37, 38, 39, 40, 41, 42, 43, 44, 45, 46, 47, 48, 49, 50, 51, 52, 53, 54, 55, 56, 57, 60, 61] rfl rfl (by decide) (by decide) (va_runV (As := [.int (nI 1), .int z]) (rest := []) ⟨hx, hb, hml, hown, hts⟩ (f_X5_renew2 l dC dI h cs H.size fI fL fA fQ fG fJ (nI 1) z) (cwV 2 hts gX9_sheet_X5_renew rfl rfl rfl (by decide +kernel) ⟨Nat.le_of_ble_eq_true rfl, Nat.le_of_ble_eq_true rfl⟩) (xpV (wc := (wSh2 h cs fI fL fA fQ fG fJ)) hP hD hK hN [58, 59] rfl (by decide) 58 (ci := 5) rfl rfl _) rfl rfl hl.1 rfl (lv_room (Nat.le_of_ble_eq_true rfl)) dX9_sheet_37 ⟨Nat.zero_le _, Nat.zero_le _⟩) (fun u_148 H locs hw hP hD hS => ?_)
              obtain ⟨i222_150, i226_151, hf_152, rfl⟩ := hw
              have hP : va_P (dC, dI) vwCl (wAll h cs (va_up (va_up fI 222 i222_150) 226 i226_151) fL fA fQ fG fJ) H := xP_sub hP [0, 1, 2, 3, 4, 5, 6, 7, 8, 9, 10, 11, 12, 13, 14, 15, 16, 17, 18, 19, 20, 21, 22, 23, 24, 25, 26, 27, 28, 29, 30, 31, 32, 33, 34, 35, 36, 37, 38, 39, 40, 41, 42, 43, 44, 45, 46, 47, 48, 49, 50, 51, 52, 53, 54, 55, 56, 57, 60, 61, 58, 59] rfl
              have hD : va_D A0 (wAll h cs (va_up (va_up fI 222 i222_150) 226 i226_151) fL fA fQ fG fJ) := hD.sub [0, 1, 2, 3, 4, 5, 6, 7, 8, 9, 10, 11, 12, 13, 14, 15, 16, 17, 18, 19, 20, 21, 22, 23, 24, 25, 26, 27, 28, 29, 30, 31, 32, 33, 34, 35, 36, 37, 38, 39, 40, 41, 42, 43, 44, 45, 46, 47, 48, 49, 50, 51, 52, 53, 54, 55, 56, 57, 60, 61, 58, 59] (by decide) rfl
              refine lv_iload_n hx hb dX9_sheet_40 rfl (lv_at hl 3 rfl) ?_
              exact xr_i (v := z) hx hb hr hlocks hK hS dX9_sheet_41 ((va_up (va_up fI 222 i222_150) 226 i226_151), fL, fA, fQ, fG, fJ) ⟨(va_up (va_up fI 222 i222_150) 226 i226_151), (by unfold an_sheet; rw [if_pos (⟨by decide +kernel, by omega⟩), if_neg (by omega)]), rfl⟩ hP hD
            · skip
              have t_f_152 : z.toInt < 0 := zc_fge (K := 0) (by decide +kernel) c_23_145
              refine lv_bipush (v := (-14)) hx hb dX9_sheet_26 (by decide) ?_
              exact xr_i (v := (-14)) hx hb hr hlocks hK hS dX9_sheet_28 (fI, fL, fA, fQ, fG, fJ) ⟨fI, (by unfold an_sheet; rw [if_pos (⟨by decide +kernel, by omega⟩), if_pos (by omega)]), rfl⟩ hP hD
          · skip
            have t_f_153 : 25 < z.toInt := zc_fle (K := nI 25) (by decide +kernel) c_17_143
            refine lv_iconst (v := (-1)) hx hb dX9_sheet_20 (by decide) ?_
            exact xr_i (v := (-1)) hx hb hr hlocks hK hS dX9_sheet_21 (fI, fL, fA, fQ, fG, fJ) ⟨fI, (by unfold an_sheet; rw [if_neg (by omega)]), rfl⟩ hP hD
        · skip
          refine lv_iload_n hx hb dX9_sheet_0 rfl (lv_at hl 1 rfl) ?_
          refine xj_i (wc := ([] : va_W)) (wr := (wAll h cs fI fL fA fQ fG fJ)) hP hD hS hA [] [0, 1, 2, 3, 4, 5, 6, 7, 8, 9, 10, 11, 12, 13, 14, 15, 16, 17, 18, 19, 20, 21, 22, 23, 24, 25, 26, 27, 28, 29, 30, 31, 32, 33, 34, 35, 36, 37, 38, 39, 40, 41, 42, 43, 44, 45, 46, 47, 48, 49, 50, 51, 52, 53, 54, 55, 56, 57, 58, 59, 60, 61] rfl rfl (by decide) (by decide) (va_runS (As := [.int (nI 2)]) (rest := []) ⟨hx, hb, hml, hown, hts⟩ (a_X9_isSheet_138 l dC dI h cs H.size I L A Q G J ) (va_cwS 1 hts gX9_sheet_X9_isSheet rfl rfl rfl (by decide +kernel) ⟨Nat.le_of_ble_eq_true rfl, Nat.le_of_ble_eq_true rfl⟩) (xpS (wc := ([] : va_W)) hP hD hK hN [] rfl (by decide) _) rfl rfl hl.1 rfl (lv_room (Nat.le_of_ble_eq_true rfl)) dX9_sheet_1 ⟨Nat.zero_le _, Nat.zero_le _⟩) (fun r_156 u_155 H locs hw hP hD hS => ?_)
          obtain ⟨hf_157, rfl⟩ := hw
          have hP : va_P (dC, dI) vwCl (wAll h cs fI fL fA fQ fG fJ) H := hP
          have hD : va_D A0 (wAll h cs fI fL fA fQ fG fJ) := hD
          obtain rfl := hf_157
          refine lv_if_eq (tgt := 20) hx hb dX9_sheet_4 (by decide) (fun c9 => False.elim (by revert c9; decide +kernel)) (fun _ => ?_)
          refine lv_iload_n hx hb dX9_sheet_7 rfl (lv_at hl 2 rfl) ?_
          refine xj_i (wc := ([] : va_W)) (wr := (wAll h cs fI fL fA fQ fG fJ)) hP hD hS hA [] [0, 1, 2, 3, 4, 5, 6, 7, 8, 9, 10, 11, 12, 13, 14, 15, 16, 17, 18, 19, 20, 21, 22, 23, 24, 25, 26, 27, 28, 29, 30, 31, 32, 33, 34, 35, 36, 37, 38, 39, 40, 41, 42, 43, 44, 45, 46, 47, 48, 49, 50, 51, 52, 53, 54, 55, 56, 57, 58, 59, 60, 61] rfl rfl (by decide) (by decide) (va_runS (As := [.int (nI 2)]) (rest := []) ⟨hx, hb, hml, hown, hts⟩ (a_X9_isLane_176 l dC dI h cs H.size I L A Q G J ) (va_cwS 1 hts gX9_sheet_X9_isLane rfl rfl rfl (by decide +kernel) ⟨Nat.le_of_ble_eq_true rfl, Nat.le_of_ble_eq_true rfl⟩) (xpS (wc := ([] : va_W)) hP hD hK hN [] rfl (by decide) _) rfl rfl hl.1 rfl (lv_room (Nat.le_of_ble_eq_true rfl)) dX9_sheet_8 ⟨Nat.zero_le _, Nat.zero_le _⟩) (fun r_159 u_158 H locs hw hP hD hS => ?_)
          obtain ⟨hf_160, rfl⟩ := hw
          have hP : va_P (dC, dI) vwCl (wAll h cs fI fL fA fQ fG fJ) H := hP
          have hD : va_D A0 (wAll h cs fI fL fA fQ fG fJ) := hD
          obtain rfl := hf_160
          refine lv_if_eq (tgt := 20) hx hb dX9_sheet_11 (by decide) (fun c9 => False.elim (by revert c9; decide +kernel)) (fun _ => ?_)
          refine lv_iload_n hx hb dX9_sheet_14 rfl (lv_at hl 3 rfl) ?_
          refine lv_bipush (v := nI 25) hx hb dX9_sheet_15 (by decide) ?_
          refine lv_icmp_le (tgt := 22) hx hb dX9_sheet_17 (by decide) (fun c_17_160 => ?_) (fun c_17_160 => ?_)
          · skip
            have t_t_161 : z.toInt ≤ 25 := zc_tle (K := nI 25) (by decide +kernel) c_17_160
            refine lv_iload_n hx hb dX9_sheet_22 rfl (lv_at hl 3 rfl) ?_
            refine lv_if_ge (tgt := 29) hx hb dX9_sheet_23 (by decide) (fun c_23_162 => ?_) (fun c_23_162 => ?_)
            · skip
              have t_t_163 : 0 ≤ z.toInt := zc_tge (K := 0) (by decide +kernel) c_23_162
              refine lv_aload_n hx hb dX9_sheet_29 rfl (lv_at hl 0 rfl) ?_
              refine va_get (D := (dC, dI)) (ci := 9) (v := .ref (h 109)) (C := RX9) (T := TX9) (N := 9) hx hb hts hinX9 hown hK hP 0 rfl rfl 8 (by decide) (hts (.fieldLink RX9 71 "MixedWords" "sheets" "[LMixedWords$Sheet;") (by decide +kernel)) (fun _ h9 => h9) rfl dX9_sheet_30 ?_
              refine lv_iload_n hx hb dX9_sheet_33 rfl (lv_at hl 1 rfl) ?_
              refine xa_aald (b := h 112) hx hb hK hP 53 5 rfl rfl rfl (by omega) (by decide) (if_pos (by omega)) dX9_sheet_34 ?_
              refine lv_iload_n hx hb dX9_sheet_35 rfl (lv_at hl 2 rfl) ?_
              refine lv_iload_n hx hb dX9_sheet_36 rfl (lv_at hl 3 rfl) ?_
              refine xj_v (wc := (wSh2 h cs fI fL fA fQ fG fJ)) (wr := [(h 100, .inr (9, [.ref (h 101), .ref (h 102), .ref (h 103), .ref (h 104), .ref (h 105), .ref (h 106), .ref (h 107), .ref (h 108), .ref (h 109)])), (h 101, .inr (3, [.int (fI 120), .int (fI 121), .int (fI 122), .int (fI 123), .ref (h 130), .ref (h 136)])), (h 130, .inl (cs 3, 5, .inr (.inr (.inr (.inr (fun i => if i < 5 then some (h (i + 131)) else none)))))), (h 131, .inl (cs 0, 4, .inl ((fG 0) 0))), (h 132, .inl (cs 0, 4, .inl ((fG 0) 1))), (h 133, .inl (cs 0, 4, .inl ((fG 0) 2))), (h 134, .inl (cs 0, 4, .inl ((fG 0) 3))), (h 135, .inl (cs 0, 4, .inl ((fG 0) 4))), (h 136, .inl (cs 0, 5, .inl (fA 136))), (h 102, .inr (0, [.ref (h 101), .ref (h 140), .ref (h 141), .ref (h 142), .ref (h 143), .int (fI 144), .int (fI 145), .int (fI 146)])), (h 140, .inl (cs 0, 40, .inl (fA 140))), (h 141, .inl (cs 0, 40, .inl (fA 141))), (h 142, .inl (cs 0, 40, .inl (fA 142))), (h 143, .inl (cs 0, 40, .inl (fA 143))), (h 103, .inr (7, [.ref (h 150), .int (fI 151)])), (h 150, .inl (cs 2, 90, .inl (fA 150))), (h 104, .inr (4, [.ref (h 103), .ref (h 160), .int (fI 166), .int (fI 167), .int (fI 168), .int (fI 169)])), (h 160, .inl (cs 3, 5, .inr (.inr (.inr (.inr (fun i => if i < 5 then some (h (i + 161)) else none)))))), (h 161, .inl (cs 0, 4, .inl ((fG 1) 0))), (h 162, .inl (cs 0, 4, .inl ((fG 1) 1))), (h 163, .inl (cs 0, 4, .inl ((fG 1) 2))), (h 164, .inl (cs 0, 4, .inl ((fG 1) 3))), (h 165, .inl (cs 0, 4, .inl ((fG 1) 4))), (h 105, .inr (8, [.ref (h 101), .ref (h 170), .ref (h 171), .ref (h 172), .int (fI 173), .int (fI 174)])), (h 170, .inl (cs 0, 256, .inl (fA 170))), (h 171, .inl (cs 0, 256, .inl (fA 171))), (h 172, .inl (cs 0, 256, .inl (fA 172))), (h 106, .inr (2, [.ref (h 180), .ref (h 185), .ref (h 186), .ref (h 187), .long (fL 188)])), (h 180, .inl (cs 4, 4, .inr (.inr (.inr (.inr (fun i => if i < 4 then some (h (i + 181)) else none)))))), (h 181, .inl (cs 1, 4, .inr (.inl ((fJ 0) 0)))), (h 182, .inl (cs 1, 4, .inr (.inl ((fJ 0) 1)))), (h 183, .inl (cs 1, 4, .inr (.inl ((fJ 0) 2)))), (h 184, .inl (cs 1, 4, .inr (.inl ((fJ 0) 3)))), (h 185, .inl (cs 1, 4, .inr (.inl (fQ 185)))), (h 186, .inl (cs 0, 4, .inl (fA 186))), (h 187, .inl (cs 1, 4, .inr (.inl (fQ 187)))), (h 107, .inr (6, [.ref (h 101), .ref (h 190), .ref (h 191), .ref (h 192)])), (h 190, .inl (cs 0, 5, .inl (fA 190))), (h 191, .inl (cs 0, 4, .inl (fA 191))), (h 192, .inl (cs 0, 4, .inl (fA 192))), (h 108, .inr (1, [.ref (h 101), .ref (h 200), .ref (h 206), .ref (h 211), .int (fI 212), .int (fI 213)])), (h 200, .inl (cs 3, 5, .inr (.inr (.inr (.inr (fun i => if i < 5 then some (h (i + 201)) else none)))))), (h 201, .inl (cs 0, 4, .inl ((fG 2) 0))), (h 202, .inl (cs 0, 4, .inl ((fG 2) 1))), (h 203, .inl (cs 0, 4, .inl ((fG 2) 2))), (h 204, .inl (cs 0, 4, .inl ((fG 2) 3))), (h 205, .inl (cs 0, 4, .inl ((fG 2) 4))), (h 206, .inl (cs 3, 4, .inr (.inr (.inr (.inr (fun i => if i < 4 then some (h (i + 207)) else none)))))), (h 207, .inl (cs 0, 4, .inl ((fG 3) 0))), (h 208, .inl (cs 0, 4, .inl ((fG 3) 1))), (h 209, .inl (cs 0, 4, .inl ((fG 3) 2))), (h 210, .inl (cs 0, 4, .inl ((fG 3) 3))), (h 211, .inl (cs 0, 5, .inl (fA 211))), (h 109, .inl (cs 5, 4, .inr (.inr (.inr (.inr (fun i => if i < 4 then some (h (i + 110)) else none)))))), (h 110, .inr (5, [.int (fI 220), .int (fI 224), .ref (h 228)])), (h 228, .inl (cs 1, 25, .inr (.inl (fQ 228)))), (h 111, .inr (5, [.int (fI 221), .int (fI 225), .ref (h 229)])), (h 229, .inl (cs 1, 25, .inr (.inl (fQ 229)))), (h 113, .inr (5, [.int (fI 223), .int (fI 227), .ref (h 231)])), (h 231, .inl (cs 1, 25, .inr (.inl (fQ 231))))]) hP hD hS hA [58, 59] [0, 1, 2, 3, 4, 5, 6, 7, 8, 9, 10, 11, 12, 13, 14, 15, 16, 17, 18, 19, 20, 21, 22, 23, 24, 25, 26, 27, 28, 29, 30, 31, 32, 33, 34, 35, 36, 37, 38, 39, 40, 41, 42, 43, 44, 45, 46, 47, 48, 49, 50, 51, 52, 53, 54, 55, 56, 57, 60, 61] rfl rfl (by decide) (by decide) (va_runV (As := [.int (nI 2), .int z]) (rest := []) ⟨hx, hb, hml, hown, hts⟩ (f_X5_renew2 l dC dI h cs H.size fI fL fA fQ fG fJ (nI 2) z) (cwV 2 hts gX9_sheet_X5_renew rfl rfl rfl (by decide +kernel) ⟨Nat.le_of_ble_eq_true rfl, Nat.le_of_ble_eq_true rfl⟩) (xpV (wc := (wSh2 h cs fI fL fA fQ fG fJ)) hP hD hK hN [58, 59] rfl (by decide) 58 (ci := 5) rfl rfl _) rfl rfl hl.1 rfl (lv_room (Nat.le_of_ble_eq_true rfl)) dX9_sheet_37 ⟨Nat.zero_le _, Nat.zero_le _⟩) (fun u_165 H locs hw hP hD hS => ?_)
              obtain ⟨i222_167, i226_168, hf_169, rfl⟩ := hw
              have hP : va_P (dC, dI) vwCl (wAll h cs (va_up (va_up fI 222 i222_167) 226 i226_168) fL fA fQ fG fJ) H := xP_sub hP [0, 1, 2, 3, 4, 5, 6, 7, 8, 9, 10, 11, 12, 13, 14, 15, 16, 17, 18, 19, 20, 21, 22, 23, 24, 25, 26, 27, 28, 29, 30, 31, 32, 33, 34, 35, 36, 37, 38, 39, 40, 41, 42, 43, 44, 45, 46, 47, 48, 49, 50, 51, 52, 53, 54, 55, 56, 57, 60, 61, 58, 59] rfl
              have hD : va_D A0 (wAll h cs (va_up (va_up fI 222 i222_167) 226 i226_168) fL fA fQ fG fJ) := hD.sub [0, 1, 2, 3, 4, 5, 6, 7, 8, 9, 10, 11, 12, 13, 14, 15, 16, 17, 18, 19, 20, 21, 22, 23, 24, 25, 26, 27, 28, 29, 30, 31, 32, 33, 34, 35, 36, 37, 38, 39, 40, 41, 42, 43, 44, 45, 46, 47, 48, 49, 50, 51, 52, 53, 54, 55, 56, 57, 60, 61, 58, 59] (by decide) rfl
              refine lv_iload_n hx hb dX9_sheet_40 rfl (lv_at hl 3 rfl) ?_
              exact xr_i (v := z) hx hb hr hlocks hK hS dX9_sheet_41 ((va_up (va_up fI 222 i222_167) 226 i226_168), fL, fA, fQ, fG, fJ) ⟨(va_up (va_up fI 222 i222_167) 226 i226_168), (by unfold an_sheet; rw [if_pos (⟨by decide +kernel, by omega⟩), if_neg (by omega)]), rfl⟩ hP hD
            · skip
              have t_f_169 : z.toInt < 0 := zc_fge (K := 0) (by decide +kernel) c_23_162
              refine lv_bipush (v := (-14)) hx hb dX9_sheet_26 (by decide) ?_
              exact xr_i (v := (-14)) hx hb hr hlocks hK hS dX9_sheet_28 (fI, fL, fA, fQ, fG, fJ) ⟨fI, (by unfold an_sheet; rw [if_pos (⟨by decide +kernel, by omega⟩), if_pos (by omega)]), rfl⟩ hP hD
          · skip
            have t_f_170 : 25 < z.toInt := zc_fle (K := nI 25) (by decide +kernel) c_17_160
            refine lv_iconst (v := (-1)) hx hb dX9_sheet_20 (by decide) ?_
            exact xr_i (v := (-1)) hx hb hr hlocks hK hS dX9_sheet_21 (fI, fL, fA, fQ, fG, fJ) ⟨fI, (by unfold an_sheet; rw [if_neg (by omega)]), rfl⟩ hP hD
      · skip
        refine lv_iload_n hx hb dX9_sheet_0 rfl (lv_at hl 1 rfl) ?_
        refine xj_i (wc := ([] : va_W)) (wr := (wAll h cs fI fL fA fQ fG fJ)) hP hD hS hA [] [0, 1, 2, 3, 4, 5, 6, 7, 8, 9, 10, 11, 12, 13, 14, 15, 16, 17, 18, 19, 20, 21, 22, 23, 24, 25, 26, 27, 28, 29, 30, 31, 32, 33, 34, 35, 36, 37, 38, 39, 40, 41, 42, 43, 44, 45, 46, 47, 48, 49, 50, 51, 52, 53, 54, 55, 56, 57, 58, 59, 60, 61] rfl rfl (by decide) (by decide) (va_runS (As := [.int (nI 2)]) (rest := []) ⟨hx, hb, hml, hown, hts⟩ (a_X9_isSheet_138 l dC dI h cs H.size I L A Q G J ) (va_cwS 1 hts gX9_sheet_X9_isSheet rfl rfl rfl (by decide +kernel) ⟨Nat.le_of_ble_eq_true rfl, Nat.le_of_ble_eq_true rfl⟩) (xpS (wc := ([] : va_W)) hP hD hK hN [] rfl (by decide) _) rfl rfl hl.1 rfl (lv_room (Nat.le_of_ble_eq_true rfl)) dX9_sheet_1 ⟨Nat.zero_le _, Nat.zero_le _⟩) (fun r_173 u_172 H locs hw hP hD hS => ?_)
        obtain ⟨hf_174, rfl⟩ := hw
        have hP : va_P (dC, dI) vwCl (wAll h cs fI fL fA fQ fG fJ) H := hP
        have hD : va_D A0 (wAll h cs fI fL fA fQ fG fJ) := hD
        obtain rfl := hf_174
        refine lv_if_eq (tgt := 20) hx hb dX9_sheet_4 (by decide) (fun c9 => False.elim (by revert c9; decide +kernel)) (fun _ => ?_)
        refine lv_iload_n hx hb dX9_sheet_7 rfl (lv_at hl 2 rfl) ?_
        refine xj_i (wc := ([] : va_W)) (wr := (wAll h cs fI fL fA fQ fG fJ)) hP hD hS hA [] [0, 1, 2, 3, 4, 5, 6, 7, 8, 9, 10, 11, 12, 13, 14, 15, 16, 17, 18, 19, 20, 21, 22, 23, 24, 25, 26, 27, 28, 29, 30, 31, 32, 33, 34, 35, 36, 37, 38, 39, 40, 41, 42, 43, 44, 45, 46, 47, 48, 49, 50, 51, 52, 53, 54, 55, 56, 57, 58, 59, 60, 61] rfl rfl (by decide) (by decide) (va_runS (As := [.int y]) (rest := []) ⟨hx, hb, hml, hown, hts⟩ (k_X9_isLane l dC dI h cs H.size I L A Q G J y) (va_cwS 1 hts gX9_sheet_X9_isLane rfl rfl rfl (by decide +kernel) ⟨Nat.le_of_ble_eq_true rfl, Nat.le_of_ble_eq_true rfl⟩) (xpS (wc := ([] : va_W)) hP hD hK hN [] rfl (by decide) _) rfl rfl hl.1 rfl (lv_room (Nat.le_of_ble_eq_true rfl)) dX9_sheet_8 ⟨Nat.zero_le _, Nat.zero_le _⟩) (fun r_176 u_175 H locs hw hP hD hS => ?_)
        obtain ⟨hf_177, rfl⟩ := hw
        have hP : va_P (dC, dI) vwCl (wAll h cs fI fL fA fQ fG fJ) H := hP
        have hD : va_D A0 (wAll h cs fI fL fA fQ fG fJ) := hD
        rcases hf_177 with ⟨rfl, i_178, hh_179, ee_180⟩ | ⟨rfl, -⟩
        · skip
          exact absurd (by rw [ee_180, nI_toInt (by omega)]; omega) hz_y
        · skip
          refine lv_if_eq (tgt := 20) hx hb dX9_sheet_11 (by decide) (fun _ => ?_) (fun c9 => False.elim (by revert c9; decide +kernel))
          refine lv_iconst (v := (-1)) hx hb dX9_sheet_20 (by decide) ?_
          exact xr_i (v := (-1)) hx hb hr hlocks hK hS dX9_sheet_21 (fI, fL, fA, fQ, fG, fJ) ⟨fI, (by unfold an_sheet; rw [if_neg (by omega)]), rfl⟩ hP hD
    · skip
      rcases splR y 0 2 (by decide) with ⟨i_y, h_y, g_y, rfl⟩ | hz_y
      · skip
        rcases (show i_y = 0 ∨ i_y = 1 ∨ i_y = 2 by omega) with rfl | rfl | rfl
        · skip
          refine lv_iload_n hx hb dX9_sheet_0 rfl (lv_at hl 1 rfl) ?_
          refine xj_i (wc := ([] : va_W)) (wr := (wAll h cs fI fL fA fQ fG fJ)) hP hD hS hA [] [0, 1, 2, 3, 4, 5, 6, 7, 8, 9, 10, 11, 12, 13, 14, 15, 16, 17, 18, 19, 20, 21, 22, 23, 24, 25, 26, 27, 28, 29, 30, 31, 32, 33, 34, 35, 36, 37, 38, 39, 40, 41, 42, 43, 44, 45, 46, 47, 48, 49, 50, 51, 52, 53, 54, 55, 56, 57, 58, 59, 60, 61] rfl rfl (by decide) (by decide) (va_runS (As := [.int (nI 3)]) (rest := []) ⟨hx, hb, hml, hown, hts⟩ (a_X9_isSheet_141 l dC dI h cs H.size I L A Q G J ) (va_cwS 1 hts gX9_sheet_X9_isSheet rfl rfl rfl (by decide +kernel) ⟨Nat.le_of_ble_eq_true rfl, Nat.le_of_ble_eq_true rfl⟩) (xpS (wc := ([] : va_W)) hP hD hK hN [] rfl (by decide) _) rfl rfl hl.1 rfl (lv_room (Nat.le_of_ble_eq_true rfl)) dX9_sheet_1 ⟨Nat.zero_le _, Nat.zero_le _⟩) (fun r_182 u_181 H locs hw hP hD hS => ?_)
          obtain ⟨hf_183, rfl⟩ := hw
          have hP : va_P (dC, dI) vwCl (wAll h cs fI fL fA fQ fG fJ) H := hP
          have hD : va_D A0 (wAll h cs fI fL fA fQ fG fJ) := hD
          obtain rfl := hf_183
          refine lv_if_eq (tgt := 20) hx hb dX9_sheet_4 (by decide) (fun c9 => False.elim (by revert c9; decide +kernel)) (fun _ => ?_)
          refine lv_iload_n hx hb dX9_sheet_7 rfl (lv_at hl 2 rfl) ?_
          refine xj_i (wc := ([] : va_W)) (wr := (wAll h cs fI fL fA fQ fG fJ)) hP hD hS hA [] [0, 1, 2, 3, 4, 5, 6, 7, 8, 9, 10, 11, 12, 13, 14, 15, 16, 17, 18, 19, 20, 21, 22, 23, 24, 25, 26, 27, 28, 29, 30, 31, 32, 33, 34, 35, 36, 37, 38, 39, 40, 41, 42, 43, 44, 45, 46, 47, 48, 49, 50, 51, 52, 53, 54, 55, 56, 57, 58, 59, 60, 61] rfl rfl (by decide) (by decide) (va_runS (As := [.int (nI 0)]) (rest := []) ⟨hx, hb, hml, hown, hts⟩ (a_X9_isLane_174 l dC dI h cs H.size I L A Q G J ) (va_cwS 1 hts gX9_sheet_X9_isLane rfl rfl rfl (by decide +kernel) ⟨Nat.le_of_ble_eq_true rfl, Nat.le_of_ble_eq_true rfl⟩) (xpS (wc := ([] : va_W)) hP hD hK hN [] rfl (by decide) _) rfl rfl hl.1 rfl (lv_room (Nat.le_of_ble_eq_true rfl)) dX9_sheet_8 ⟨Nat.zero_le _, Nat.zero_le _⟩) (fun r_185 u_184 H locs hw hP hD hS => ?_)
          obtain ⟨hf_186, rfl⟩ := hw
          have hP : va_P (dC, dI) vwCl (wAll h cs fI fL fA fQ fG fJ) H := hP
          have hD : va_D A0 (wAll h cs fI fL fA fQ fG fJ) := hD
          obtain rfl := hf_186
          refine lv_if_eq (tgt := 20) hx hb dX9_sheet_11 (by decide) (fun c9 => False.elim (by revert c9; decide +kernel)) (fun _ => ?_)
          refine lv_iload_n hx hb dX9_sheet_14 rfl (lv_at hl 3 rfl) ?_
          refine lv_bipush (v := nI 25) hx hb dX9_sheet_15 (by decide) ?_
          refine lv_icmp_le (tgt := 22) hx hb dX9_sheet_17 (by decide) (fun c_17_186 => ?_) (fun c_17_186 => ?_)
          · skip
            have t_t_187 : z.toInt ≤ 25 := zc_tle (K := nI 25) (by decide +kernel) c_17_186
            refine lv_iload_n hx hb dX9_sheet_22 rfl (lv_at hl 3 rfl) ?_
            refine lv_if_ge (tgt := 29) hx hb dX9_sheet_23 (by decide) (fun c_23_188 => ?_) (fun c_23_188 => ?_)
            · skip
              have t_t_189 : 0 ≤ z.toInt := zc_tge (K := 0) (by decide +kernel) c_23_188
              refine lv_aload_n hx hb dX9_sheet_29 rfl (lv_at hl 0 rfl) ?_
              refine va_get (D := (dC, dI)) (ci := 9) (v := .ref (h 109)) (C := RX9) (T := TX9) (N := 9) hx hb hts hinX9 hown hK hP 0 rfl rfl 8 (by decide) (hts (.fieldLink RX9 71 "MixedWords" "sheets" "[LMixedWords$Sheet;") (by decide +kernel)) (fun _ h9 => h9) rfl dX9_sheet_30 ?_
              refine lv_iload_n hx hb dX9_sheet_33 rfl (lv_at hl 1 rfl) ?_
              refine xa_aald (b := h 113) hx hb hK hP 53 5 rfl rfl rfl (by omega) (by decide) (if_pos (by omega)) dX9_sheet_34 ?_
              refine lv_iload_n hx hb dX9_sheet_35 rfl (lv_at hl 2 rfl) ?_
              refine lv_iload_n hx hb dX9_sheet_36 rfl (lv_at hl 3 rfl) ?_
              refine xj_v (wc := (wSh3 h cs fI fL fA fQ fG fJ)) (wr := [(h 100, .inr (9, [.ref (h 101), .ref (h 102), .ref (h 103), .ref (h 104), .ref (h 105), .ref (h 106), .ref (h 107), .ref (h 108), .ref (h 109)])), (h 101, .inr (3, [.int (fI 120), .int (fI 121), .int (fI 122), .int (fI 123), .ref (h 130), .ref (h 136)])), (h 130, .inl (cs 3, 5, .inr (.inr (.inr (.inr (fun i => if i < 5 then some (h (i + 131)) else none)))))), (h 131, .inl (cs 0, 4, .inl ((fG 0) 0))), (h 132, .inl (cs 0, 4, .inl ((fG 0) 1))), (h 133, .inl (cs 0, 4, .inl ((fG 0) 2))), (h 134, .inl (cs 0, 4, .inl ((fG 0) 3))), (h 135, .inl (cs 0, 4, .inl ((fG 0) 4))), (h 136, .inl (cs 0, 5, .inl (fA 136))), (h 102, .inr (0, [.ref (h 101), .ref (h 140), .ref (h 141), .ref (h 142), .ref (h 143), .int (fI 144), .int (fI 145), .int (fI 146)])), (h 140, .inl (cs 0, 40, .inl (fA 140))), (h 141, .inl (cs 0, 40, .inl (fA 141))), (h 142, .inl (cs 0, 40, .inl (fA 142))), (h 143, .inl (cs 0, 40, .inl (fA 143))), (h 103, .inr (7, [.ref (h 150), .int (fI 151)])), (h 150, .inl (cs 2, 90, .inl (fA 150))), (h 104, .inr (4, [.ref (h 103), .ref (h 160), .int (fI 166), .int (fI 167), .int (fI 168), .int (fI 169)])), (h 160, .inl (cs 3, 5, .inr (.inr (.inr (.inr (fun i => if i < 5 then some (h (i + 161)) else none)))))), (h 161, .inl (cs 0, 4, .inl ((fG 1) 0))), (h 162, .inl (cs 0, 4, .inl ((fG 1) 1))), (h 163, .inl (cs 0, 4, .inl ((fG 1) 2))), (h 164, .inl (cs 0, 4, .inl ((fG 1) 3))), (h 165, .inl (cs 0, 4, .inl ((fG 1) 4))), (h 105, .inr (8, [.ref (h 101), .ref (h 170), .ref (h 171), .ref (h 172), .int (fI 173), .int (fI 174)])), (h 170, .inl (cs 0, 256, .inl (fA 170))), (h 171, .inl (cs 0, 256, .inl (fA 171))), (h 172, .inl (cs 0, 256, .inl (fA 172))), (h 106, .inr (2, [.ref (h 180), .ref (h 185), .ref (h 186), .ref (h 187), .long (fL 188)])), (h 180, .inl (cs 4, 4, .inr (.inr (.inr (.inr (fun i => if i < 4 then some (h (i + 181)) else none)))))), (h 181, .inl (cs 1, 4, .inr (.inl ((fJ 0) 0)))), (h 182, .inl (cs 1, 4, .inr (.inl ((fJ 0) 1)))), (h 183, .inl (cs 1, 4, .inr (.inl ((fJ 0) 2)))), (h 184, .inl (cs 1, 4, .inr (.inl ((fJ 0) 3)))), (h 185, .inl (cs 1, 4, .inr (.inl (fQ 185)))), (h 186, .inl (cs 0, 4, .inl (fA 186))), (h 187, .inl (cs 1, 4, .inr (.inl (fQ 187)))), (h 107, .inr (6, [.ref (h 101), .ref (h 190), .ref (h 191), .ref (h 192)])), (h 190, .inl (cs 0, 5, .inl (fA 190))), (h 191, .inl (cs 0, 4, .inl (fA 191))), (h 192, .inl (cs 0, 4, .inl (fA 192))), (h 108, .inr (1, [.ref (h 101), .ref (h 200), .ref (h 206), .ref (h 211), .int (fI 212), .int (fI 213)])), (h 200, .inl (cs 3, 5, .inr (.inr (.inr (.inr (fun i => if i < 5 then some (h (i + 201)) else none)))))), (h 201, .inl (cs 0, 4, .inl ((fG 2) 0))), (h 202, .inl (cs 0, 4, .inl ((fG 2) 1))), (h 203, .inl (cs 0, 4, .inl ((fG 2) 2))), (h 204, .inl (cs 0, 4, .inl ((fG 2) 3))), (h 205, .inl (cs 0, 4, .inl ((fG 2) 4))), (h 206, .inl (cs 3, 4, .inr (.inr (.inr (.inr (fun i => if i < 4 then some (h (i + 207)) else none)))))), (h 207, .inl (cs 0, 4, .inl ((fG 3) 0))), (h 208, .inl (cs 0, 4, .inl ((fG 3) 1))), (h 209, .inl (cs 0, 4, .inl ((fG 3) 2))), (h 210, .inl (cs 0, 4, .inl ((fG 3) 3))), (h 211, .inl (cs 0, 5, .inl (fA 211))), (h 109, .inl (cs 5, 4, .inr (.inr (.inr (.inr (fun i => if i < 4 then some (h (i + 110)) else none)))))), (h 110, .inr (5, [.int (fI 220), .int (fI 224), .ref (h 228)])), (h 228, .inl (cs 1, 25, .inr (.inl (fQ 228)))), (h 111, .inr (5, [.int (fI 221), .int (fI 225), .ref (h 229)])), (h 229, .inl (cs 1, 25, .inr (.inl (fQ 229)))), (h 112, .inr (5, [.int (fI 222), .int (fI 226), .ref (h 230)])), (h 230, .inl (cs 1, 25, .inr (.inl (fQ 230))))]) hP hD hS hA [60, 61] [0, 1, 2, 3, 4, 5, 6, 7, 8, 9, 10, 11, 12, 13, 14, 15, 16, 17, 18, 19, 20, 21, 22, 23, 24, 25, 26, 27, 28, 29, 30, 31, 32, 33, 34, 35, 36, 37, 38, 39, 40, 41, 42, 43, 44, 45, 46, 47, 48, 49, 50, 51, 52, 53, 54, 55, 56, 57, 58, 59] rfl rfl (by decide) (by decide) (va_runV (As := [.int (nI 0), .int z]) (rest := []) ⟨hx, hb, hml, hown, hts⟩ (f_X5_renew3 l dC dI h cs H.size fI fL fA fQ fG fJ (nI 0) z) (cwV 2 hts gX9_sheet_X5_renew rfl rfl rfl (by decide +kernel) ⟨Nat.le_of_ble_eq_true rfl, Nat.le_of_ble_eq_true rfl⟩) (xpV (wc := (wSh3 h cs fI fL fA fQ fG fJ)) hP hD hK hN [60, 61] rfl (by decide) 60 (ci := 5) rfl rfl _) rfl rfl hl.1 rfl (lv_room (Nat.le_of_ble_eq_true rfl)) dX9_sheet_37 ⟨Nat.zero_le _, Nat.zero_le _⟩) (fun u_191 H locs hw hP hD hS => ?_)
              obtain ⟨i223_193, i227_194, hf_195, rfl⟩ := hw
              have hP : va_P (dC, dI) vwCl (wAll h cs (va_up (va_up fI 223 i223_193) 227 i227_194) fL fA fQ fG fJ) H := hP
              have hD : va_D A0 (wAll h cs (va_up (va_up fI 223 i223_193) 227 i227_194) fL fA fQ fG fJ) := hD
              refine lv_iload_n hx hb dX9_sheet_40 rfl (lv_at hl 3 rfl) ?_
              exact xr_i (v := z) hx hb hr hlocks hK hS dX9_sheet_41 ((va_up (va_up fI 223 i223_193) 227 i227_194), fL, fA, fQ, fG, fJ) ⟨(va_up (va_up fI 223 i223_193) 227 i227_194), (by unfold an_sheet; rw [if_pos (⟨by decide +kernel, by omega⟩), if_neg (by omega)]), rfl⟩ hP hD
            · skip
              have t_f_195 : z.toInt < 0 := zc_fge (K := 0) (by decide +kernel) c_23_188
              refine lv_bipush (v := (-14)) hx hb dX9_sheet_26 (by decide) ?_
              exact xr_i (v := (-14)) hx hb hr hlocks hK hS dX9_sheet_28 (fI, fL, fA, fQ, fG, fJ) ⟨fI, (by unfold an_sheet; rw [if_pos (⟨by decide +kernel, by omega⟩), if_pos (by omega)]), rfl⟩ hP hD
          · skip
            have t_f_196 : 25 < z.toInt := zc_fle (K := nI 25) (by decide +kernel) c_17_186
            refine lv_iconst (v := (-1)) hx hb dX9_sheet_20 (by decide) ?_
            exact xr_i (v := (-1)) hx hb hr hlocks hK hS dX9_sheet_21 (fI, fL, fA, fQ, fG, fJ) ⟨fI, (by unfold an_sheet; rw [if_neg (by omega)]), rfl⟩ hP hD
        · skip
          refine lv_iload_n hx hb dX9_sheet_0 rfl (lv_at hl 1 rfl) ?_
          refine xj_i (wc := ([] : va_W)) (wr := (wAll h cs fI fL fA fQ fG fJ)) hP hD hS hA [] [0, 1, 2, 3, 4, 5, 6, 7, 8, 9, 10, 11, 12, 13, 14, 15, 16, 17, 18, 19, 20, 21, 22, 23, 24, 25, 26, 27, 28, 29, 30, 31, 32, 33, 34, 35, 36, 37, 38, 39, 40, 41, 42, 43, 44, 45, 46, 47, 48, 49, 50, 51, 52, 53, 54, 55, 56, 57, 58, 59, 60, 61] rfl rfl (by decide) (by decide) (va_runS (As := [.int (nI 3)]) (rest := []) ⟨hx, hb, hml, hown, hts⟩ (a_X9_isSheet_141 l dC dI h cs H.size I L A Q G J ) (va_cwS 1 hts gX9_sheet_X9_isSheet rfl rfl rfl (by decide +kernel) ⟨Nat.le_of_ble_eq_true rfl, Nat.le_of_ble_eq_true rfl⟩) (xpS (wc := ([] : va_W)) hP hD hK hN [] rfl (by decide) _) rfl rfl hl.1 rfl (lv_room (Nat.le_of_ble_eq_true rfl)) dX9_sheet_1 ⟨Nat.zero_le _, Nat.zero_le _⟩) (fun r_199 u_198 H locs hw hP hD hS => ?_)
          obtain ⟨hf_200, rfl⟩ := hw
          have hP : va_P (dC, dI) vwCl (wAll h cs fI fL fA fQ fG fJ) H := hP
          have hD : va_D A0 (wAll h cs fI fL fA fQ fG fJ) := hD
          obtain rfl := hf_200
          refine lv_if_eq (tgt := 20) hx hb dX9_sheet_4 (by decide) (fun c9 => False.elim (by revert c9; decide +kernel)) (fun _ => ?_)
          refine lv_iload_n hx hb dX9_sheet_7 rfl (lv_at hl 2 rfl) ?_
          refine xj_i (wc := ([] : va_W)) (wr := (wAll h cs fI fL fA fQ fG fJ)) hP hD hS hA [] [0, 1, 2, 3, 4, 5, 6, 7, 8, 9, 10, 11, 12, 13, 14, 15, 16, 17, 18, 19, 20, 21, 22, 23, 24, 25, 26, 27, 28, 29, 30, 31, 32, 33, 34, 35, 36, 37, 38, 39, 40, 41, 42, 43, 44, 45, 46, 47, 48, 49, 50, 51, 52, 53, 54, 55, 56, 57, 58, 59, 60, 61] rfl rfl (by decide) (by decide) (va_runS (As := [.int (nI 1)]) (rest := []) ⟨hx, hb, hml, hown, hts⟩ (a_X9_isLane_175 l dC dI h cs H.size I L A Q G J ) (va_cwS 1 hts gX9_sheet_X9_isLane rfl rfl rfl (by decide +kernel) ⟨Nat.le_of_ble_eq_true rfl, Nat.le_of_ble_eq_true rfl⟩) (xpS (wc := ([] : va_W)) hP hD hK hN [] rfl (by decide) _) rfl rfl hl.1 rfl (lv_room (Nat.le_of_ble_eq_true rfl)) dX9_sheet_8 ⟨Nat.zero_le _, Nat.zero_le _⟩) (fun r_202 u_201 H locs hw hP hD hS => ?_)
          obtain ⟨hf_203, rfl⟩ := hw
          have hP : va_P (dC, dI) vwCl (wAll h cs fI fL fA fQ fG fJ) H := hP
          have hD : va_D A0 (wAll h cs fI fL fA fQ fG fJ) := hD
          obtain rfl := hf_203
          refine lv_if_eq (tgt := 20) hx hb dX9_sheet_11 (by decide) (fun c9 => False.elim (by revert c9; decide +kernel)) (fun _ => ?_)
          refine lv_iload_n hx hb dX9_sheet_14 rfl (lv_at hl 3 rfl) ?_
          refine lv_bipush (v := nI 25) hx hb dX9_sheet_15 (by decide) ?_
          refine lv_icmp_le (tgt := 22) hx hb dX9_sheet_17 (by decide) (fun c_17_203 => ?_) (fun c_17_203 => ?_)
          · skip
            have t_t_204 : z.toInt ≤ 25 := zc_tle (K := nI 25) (by decide +kernel) c_17_203
            refine lv_iload_n hx hb dX9_sheet_22 rfl (lv_at hl 3 rfl) ?_
            refine lv_if_ge (tgt := 29) hx hb dX9_sheet_23 (by decide) (fun c_23_205 => ?_) (fun c_23_205 => ?_)
            · skip
              have t_t_206 : 0 ≤ z.toInt := zc_tge (K := 0) (by decide +kernel) c_23_205
              refine lv_aload_n hx hb dX9_sheet_29 rfl (lv_at hl 0 rfl) ?_
              refine va_get (D := (dC, dI)) (ci := 9) (v := .ref (h 109)) (C := RX9) (T := TX9) (N := 9) hx hb hts hinX9 hown hK hP 0 rfl rfl 8 (by decide) (hts (.fieldLink RX9 71 "MixedWords" "sheets" "[LMixedWords$Sheet;") (by decide +kernel)) (fun _ h9 => h9) rfl dX9_sheet_30 ?_
              refine lv_iload_n hx hb dX9_sheet_33 rfl (lv_at hl 1 rfl) ?_
              refine xa_aald (b := h 113) hx hb hK hP 53 5 rfl rfl rfl (by omega) (by decide) (if_pos (by omega)) dX9_sheet_34 ?_
              refine lv_iload_n hx hb dX9_sheet_35 rfl (lv_at hl 2 rfl) ?_
              refine lv_iload_n hx hb dX9_sheet_36 rfl (lv_at hl 3 rfl) ?_
              refine xj_v (wc := (wSh3 h cs fI fL fA fQ fG fJ)) (wr := [(h 100, .inr (9, [.ref (h 101), .ref (h 102), .ref (h 103), .ref (h 104), .ref (h 105), .ref (h 106), .ref (h 107), .ref (h 108), .ref (h 109)])), (h 101, .inr (3, [.int (fI 120), .int (fI 121), .int (fI 122), .int (fI 123), .ref (h 130), .ref (h 136)])), (h 130, .inl (cs 3, 5, .inr (.inr (.inr (.inr (fun i => if i < 5 then some (h (i + 131)) else none)))))), (h 131, .inl (cs 0, 4, .inl ((fG 0) 0))), (h 132, .inl (cs 0, 4, .inl ((fG 0) 1))), (h 133, .inl (cs 0, 4, .inl ((fG 0) 2))), (h 134, .inl (cs 0, 4, .inl ((fG 0) 3))), (h 135, .inl (cs 0, 4, .inl ((fG 0) 4))), (h 136, .inl (cs 0, 5, .inl (fA 136))), (h 102, .inr (0, [.ref (h 101), .ref (h 140), .ref (h 141), .ref (h 142), .ref (h 143), .int (fI 144), .int (fI 145), .int (fI 146)])), (h 140, .inl (cs 0, 40, .inl (fA 140))), (h 141, .inl (cs 0, 40, .inl (fA 141))), (h 142, .inl (cs 0, 40, .inl (fA 142))), (h 143, .inl (cs 0, 40, .inl (fA 143))), (h 103, .inr (7, [.ref (h 150), .int (fI 151)])), (h 150, .inl (cs 2, 90, .inl (fA 150))), (h 104, .inr (4, [.ref (h 103), .ref (h 160), .int (fI 166), .int (fI 167), .int (fI 168), .int (fI 169)])), (h 160, .inl (cs 3, 5, .inr (.inr (.inr (.inr (fun i => if i < 5 then some (h (i + 161)) else none)))))), (h 161, .inl (cs 0, 4, .inl ((fG 1) 0))), (h 162, .inl (cs 0, 4, .inl ((fG 1) 1))), (h 163, .inl (cs 0, 4, .inl ((fG 1) 2))), (h 164, .inl (cs 0, 4, .inl ((fG 1) 3))), (h 165, .inl (cs 0, 4, .inl ((fG 1) 4))), (h 105, .inr (8, [.ref (h 101), .ref (h 170), .ref (h 171), .ref (h 172), .int (fI 173), .int (fI 174)])), (h 170, .inl (cs 0, 256, .inl (fA 170))), (h 171, .inl (cs 0, 256, .inl (fA 171))), (h 172, .inl (cs 0, 256, .inl (fA 172))), (h 106, .inr (2, [.ref (h 180), .ref (h 185), .ref (h 186), .ref (h 187), .long (fL 188)])), (h 180, .inl (cs 4, 4, .inr (.inr (.inr (.inr (fun i => if i < 4 then some (h (i + 181)) else none)))))), (h 181, .inl (cs 1, 4, .inr (.inl ((fJ 0) 0)))), (h 182, .inl (cs 1, 4, .inr (.inl ((fJ 0) 1)))), (h 183, .inl (cs 1, 4, .inr (.inl ((fJ 0) 2)))), (h 184, .inl (cs 1, 4, .inr (.inl ((fJ 0) 3)))), (h 185, .inl (cs 1, 4, .inr (.inl (fQ 185)))), (h 186, .inl (cs 0, 4, .inl (fA 186))), (h 187, .inl (cs 1, 4, .inr (.inl (fQ 187)))), (h 107, .inr (6, [.ref (h 101), .ref (h 190), .ref (h 191), .ref (h 192)])), (h 190, .inl (cs 0, 5, .inl (fA 190))), (h 191, .inl (cs 0, 4, .inl (fA 191))), (h 192, .inl (cs 0, 4, .inl (fA 192))), (h 108, .inr (1, [.ref (h 101), .ref (h 200), .ref (h 206), .ref (h 211), .int (fI 212), .int (fI 213)])), (h 200, .inl (cs 3, 5, .inr (.inr (.inr (.inr (fun i => if i < 5 then some (h (i + 201)) else none)))))), (h 201, .inl (cs 0, 4, .inl ((fG 2) 0))), (h 202, .inl (cs 0, 4, .inl ((fG 2) 1))), (h 203, .inl (cs 0, 4, .inl ((fG 2) 2))), (h 204, .inl (cs 0, 4, .inl ((fG 2) 3))), (h 205, .inl (cs 0, 4, .inl ((fG 2) 4))), (h 206, .inl (cs 3, 4, .inr (.inr (.inr (.inr (fun i => if i < 4 then some (h (i + 207)) else none)))))), (h 207, .inl (cs 0, 4, .inl ((fG 3) 0))), (h 208, .inl (cs 0, 4, .inl ((fG 3) 1))), (h 209, .inl (cs 0, 4, .inl ((fG 3) 2))), (h 210, .inl (cs 0, 4, .inl ((fG 3) 3))), (h 211, .inl (cs 0, 5, .inl (fA 211))), (h 109, .inl (cs 5, 4, .inr (.inr (.inr (.inr (fun i => if i < 4 then some (h (i + 110)) else none)))))), (h 110, .inr (5, [.int (fI 220), .int (fI 224), .ref (h 228)])), (h 228, .inl (cs 1, 25, .inr (.inl (fQ 228)))), (h 111, .inr (5, [.int (fI 221), .int (fI 225), .ref (h 229)])), (h 229, .inl (cs 1, 25, .inr (.inl (fQ 229)))), (h 112, .inr (5, [.int (fI 222), .int (fI 226), .ref (h 230)])), (h 230, .inl (cs 1, 25, .inr (.inl (fQ 230))))]) hP hD hS hA [60, 61] [0, 1, 2, 3, 4, 5, 6, 7, 8, 9, 10, 11, 12, 13, 14, 15, 16, 17, 18, 19, 20, 21, 22, 23, 24, 25, 26, 27, 28, 29, 30, 31, 32, 33, 34, 35, 36, 37, 38, 39, 40, 41, 42, 43, 44, 45, 46, 47, 48, 49, 50, 51, 52, 53, 54, 55, 56, 57, 58, 59] rfl rfl (by decide) (by decide) (va_runV (As := [.int (nI 1), .int z]) (rest := []) ⟨hx, hb, hml, hown, hts⟩ (f_X5_renew3 l dC dI h cs H.size fI fL fA fQ fG fJ (nI 1) z) (cwV 2 hts gX9_sheet_X5_renew rfl rfl rfl (by decide +kernel) ⟨Nat.le_of_ble_eq_true rfl, Nat.le_of_ble_eq_true rfl⟩) (xpV (wc := (wSh3 h cs fI fL fA fQ fG fJ)) hP hD hK hN [60, 61] rfl (by decide) 60 (ci := 5) rfl rfl _) rfl rfl hl.1 rfl (lv_room (Nat.le_of_ble_eq_true rfl)) dX9_sheet_37 ⟨Nat.zero_le _, Nat.zero_le _⟩) (fun u_208 H locs hw hP hD hS => ?_)
              obtain ⟨i223_210, i227_211, hf_212, rfl⟩ := hw
              have hP : va_P (dC, dI) vwCl (wAll h cs (va_up (va_up fI 223 i223_210) 227 i227_211) fL fA fQ fG fJ) H := hP
              have hD : va_D A0 (wAll h cs (va_up (va_up fI 223 i223_210) 227 i227_211) fL fA fQ fG fJ) := hD
              refine lv_iload_n hx hb dX9_sheet_40 rfl (lv_at hl 3 rfl) ?_
              exact xr_i (v := z) hx hb hr hlocks hK hS dX9_sheet_41 ((va_up (va_up fI 223 i223_210) 227 i227_211), fL, fA, fQ, fG, fJ) ⟨(va_up (va_up fI 223 i223_210) 227 i227_211), (by unfold an_sheet; rw [if_pos (⟨by decide +kernel, by omega⟩), if_neg (by omega)]), rfl⟩ hP hD
            · skip
              have t_f_212 : z.toInt < 0 := zc_fge (K := 0) (by decide +kernel) c_23_205
              refine lv_bipush (v := (-14)) hx hb dX9_sheet_26 (by decide) ?_
              exact xr_i (v := (-14)) hx hb hr hlocks hK hS dX9_sheet_28 (fI, fL, fA, fQ, fG, fJ) ⟨fI, (by unfold an_sheet; rw [if_pos (⟨by decide +kernel, by omega⟩), if_pos (by omega)]), rfl⟩ hP hD
          · skip
            have t_f_213 : 25 < z.toInt := zc_fle (K := nI 25) (by decide +kernel) c_17_203
            refine lv_iconst (v := (-1)) hx hb dX9_sheet_20 (by decide) ?_
            exact xr_i (v := (-1)) hx hb hr hlocks hK hS dX9_sheet_21 (fI, fL, fA, fQ, fG, fJ) ⟨fI, (by unfold an_sheet; rw [if_neg (by omega)]), rfl⟩ hP hD
        · skip
          refine lv_iload_n hx hb dX9_sheet_0 rfl (lv_at hl 1 rfl) ?_
          refine xj_i (wc := ([] : va_W)) (wr := (wAll h cs fI fL fA fQ fG fJ)) hP hD hS hA [] [0, 1, 2, 3, 4, 5, 6, 7, 8, 9, 10, 11, 12, 13, 14, 15, 16, 17, 18, 19, 20, 21, 22, 23, 24, 25, 26, 27, 28, 29, 30, 31, 32, 33, 34, 35, 36, 37, 38, 39, 40, 41, 42, 43, 44, 45, 46, 47, 48, 49, 50, 51, 52, 53, 54, 55, 56, 57, 58, 59, 60, 61] rfl rfl (by decide) (by decide) (va_runS (As := [.int (nI 3)]) (rest := []) ⟨hx, hb, hml, hown, hts⟩ (a_X9_isSheet_141 l dC dI h cs H.size I L A Q G J ) (va_cwS 1 hts gX9_sheet_X9_isSheet rfl rfl rfl (by decide +kernel) ⟨Nat.le_of_ble_eq_true rfl, Nat.le_of_ble_eq_true rfl⟩) (xpS (wc := ([] : va_W)) hP hD hK hN [] rfl (by decide) _) rfl rfl hl.1 rfl (lv_room (Nat.le_of_ble_eq_true rfl)) dX9_sheet_1 ⟨Nat.zero_le _, Nat.zero_le _⟩) (fun r_216 u_215 H locs hw hP hD hS => ?_)
          obtain ⟨hf_217, rfl⟩ := hw
          have hP : va_P (dC, dI) vwCl (wAll h cs fI fL fA fQ fG fJ) H := hP
          have hD : va_D A0 (wAll h cs fI fL fA fQ fG fJ) := hD
          obtain rfl := hf_217
          refine lv_if_eq (tgt := 20) hx hb dX9_sheet_4 (by decide) (fun c9 => False.elim (by revert c9; decide +kernel)) (fun _ => ?_)
          refine lv_iload_n hx hb dX9_sheet_7 rfl (lv_at hl 2 rfl) ?_
          refine xj_i (wc := ([] : va_W)) (wr := (wAll h cs fI fL fA fQ fG fJ)) hP hD hS hA [] [0, 1, 2, 3, 4, 5, 6, 7, 8, 9, 10, 11, 12, 13, 14, 15, 16, 17, 18, 19, 20, 21, 22, 23, 24, 25, 26, 27, 28, 29, 30, 31, 32, 33, 34, 35, 36, 37, 38, 39, 40, 41, 42, 43, 44, 45, 46, 47, 48, 49, 50, 51, 52, 53, 54, 55, 56, 57, 58, 59, 60, 61] rfl rfl (by decide) (by decide) (va_runS (As := [.int (nI 2)]) (rest := []) ⟨hx, hb, hml, hown, hts⟩ (a_X9_isLane_176 l dC dI h cs H.size I L A Q G J ) (va_cwS 1 hts gX9_sheet_X9_isLane rfl rfl rfl (by decide +kernel) ⟨Nat.le_of_ble_eq_true rfl, Nat.le_of_ble_eq_true rfl⟩) (xpS (wc := ([] : va_W)) hP hD hK hN [] rfl (by decide) _) rfl rfl hl.1 rfl (lv_room (Nat.le_of_ble_eq_true rfl)) dX9_sheet_8 ⟨Nat.zero_le _, Nat.zero_le _⟩) (fun r_219 u_218 H locs hw hP hD hS => ?_)
          obtain ⟨hf_220, rfl⟩ := hw
          have hP : va_P (dC, dI) vwCl (wAll h cs fI fL fA fQ fG fJ) H := hP
          have hD : va_D A0 (wAll h cs fI fL fA fQ fG fJ) := hD
          obtain rfl := hf_220
          refine lv_if_eq (tgt := 20) hx hb dX9_sheet_11 (by decide) (fun c9 => False.elim (by revert c9; decide +kernel)) (fun _ => ?_)
          refine lv_iload_n hx hb dX9_sheet_14 rfl (lv_at hl 3 rfl) ?_
          refine lv_bipush (v := nI 25) hx hb dX9_sheet_15 (by decide) ?_
          refine lv_icmp_le (tgt := 22) hx hb dX9_sheet_17 (by decide) (fun c_17_220 => ?_) (fun c_17_220 => ?_)
          · skip
            have t_t_221 : z.toInt ≤ 25 := zc_tle (K := nI 25) (by decide +kernel) c_17_220
            refine lv_iload_n hx hb dX9_sheet_22 rfl (lv_at hl 3 rfl) ?_
            refine lv_if_ge (tgt := 29) hx hb dX9_sheet_23 (by decide) (fun c_23_222 => ?_) (fun c_23_222 => ?_)
            · skip
              have t_t_223 : 0 ≤ z.toInt := zc_tge (K := 0) (by decide +kernel) c_23_222
              refine lv_aload_n hx hb dX9_sheet_29 rfl (lv_at hl 0 rfl) ?_
              refine va_get (D := (dC, dI)) (ci := 9) (v := .ref (h 109)) (C := RX9) (T := TX9) (N := 9) hx hb hts hinX9 hown hK hP 0 rfl rfl 8 (by decide) (hts (.fieldLink RX9 71 "MixedWords" "sheets" "[LMixedWords$Sheet;") (by decide +kernel)) (fun _ h9 => h9) rfl dX9_sheet_30 ?_
              refine lv_iload_n hx hb dX9_sheet_33 rfl (lv_at hl 1 rfl) ?_
              refine xa_aald (b := h 113) hx hb hK hP 53 5 rfl rfl rfl (by omega) (by decide) (if_pos (by omega)) dX9_sheet_34 ?_
              refine lv_iload_n hx hb dX9_sheet_35 rfl (lv_at hl 2 rfl) ?_
              refine lv_iload_n hx hb dX9_sheet_36 rfl (lv_at hl 3 rfl) ?_
              refine xj_v (wc := (wSh3 h cs fI fL fA fQ fG fJ)) (wr := [(h 100, .inr (9, [.ref (h 101), .ref (h 102), .ref (h 103), .ref (h 104), .ref (h 105), .ref (h 106), .ref (h 107), .ref (h 108), .ref (h 109)])), (h 101, .inr (3, [.int (fI 120), .int (fI 121), .int (fI 122), .int (fI 123), .ref (h 130), .ref (h 136)])), (h 130, .inl (cs 3, 5, .inr (.inr (.inr (.inr (fun i => if i < 5 then some (h (i + 131)) else none)))))), (h 131, .inl (cs 0, 4, .inl ((fG 0) 0))), (h 132, .inl (cs 0, 4, .inl ((fG 0) 1))), (h 133, .inl (cs 0, 4, .inl ((fG 0) 2))), (h 134, .inl (cs 0, 4, .inl ((fG 0) 3))), (h 135, .inl (cs 0, 4, .inl ((fG 0) 4))), (h 136, .inl (cs 0, 5, .inl (fA 136))), (h 102, .inr (0, [.ref (h 101), .ref (h 140), .ref (h 141), .ref (h 142), .ref (h 143), .int (fI 144), .int (fI 145), .int (fI 146)])), (h 140, .inl (cs 0, 40, .inl (fA 140))), (h 141, .inl (cs 0, 40, .inl (fA 141))), (h 142, .inl (cs 0, 40, .inl (fA 142))), (h 143, .inl (cs 0, 40, .inl (fA 143))), (h 103, .inr (7, [.ref (h 150), .int (fI 151)])), (h 150, .inl (cs 2, 90, .inl (fA 150))), (h 104, .inr (4, [.ref (h 103), .ref (h 160), .int (fI 166), .int (fI 167), .int (fI 168), .int (fI 169)])), (h 160, .inl (cs 3, 5, .inr (.inr (.inr (.inr (fun i => if i < 5 then some (h (i + 161)) else none)))))), (h 161, .inl (cs 0, 4, .inl ((fG 1) 0))), (h 162, .inl (cs 0, 4, .inl ((fG 1) 1))), (h 163, .inl (cs 0, 4, .inl ((fG 1) 2))), (h 164, .inl (cs 0, 4, .inl ((fG 1) 3))), (h 165, .inl (cs 0, 4, .inl ((fG 1) 4))), (h 105, .inr (8, [.ref (h 101), .ref (h 170), .ref (h 171), .ref (h 172), .int (fI 173), .int (fI 174)])), (h 170, .inl (cs 0, 256, .inl (fA 170))), (h 171, .inl (cs 0, 256, .inl (fA 171))), (h 172, .inl (cs 0, 256, .inl (fA 172))), (h 106, .inr (2, [.ref (h 180), .ref (h 185), .ref (h 186), .ref (h 187), .long (fL 188)])), (h 180, .inl (cs 4, 4, .inr (.inr (.inr (.inr (fun i => if i < 4 then some (h (i + 181)) else none)))))), (h 181, .inl (cs 1, 4, .inr (.inl ((fJ 0) 0)))), (h 182, .inl (cs 1, 4, .inr (.inl ((fJ 0) 1)))), (h 183, .inl (cs 1, 4, .inr (.inl ((fJ 0) 2)))), (h 184, .inl (cs 1, 4, .inr (.inl ((fJ 0) 3)))), (h 185, .inl (cs 1, 4, .inr (.inl (fQ 185)))), (h 186, .inl (cs 0, 4, .inl (fA 186))), (h 187, .inl (cs 1, 4, .inr (.inl (fQ 187)))), (h 107, .inr (6, [.ref (h 101), .ref (h 190), .ref (h 191), .ref (h 192)])), (h 190, .inl (cs 0, 5, .inl (fA 190))), (h 191, .inl (cs 0, 4, .inl (fA 191))), (h 192, .inl (cs 0, 4, .inl (fA 192))), (h 108, .inr (1, [.ref (h 101), .ref (h 200), .ref (h 206), .ref (h 211), .int (fI 212), .int (fI 213)])), (h 200, .inl (cs 3, 5, .inr (.inr (.inr (.inr (fun i => if i < 5 then some (h (i + 201)) else none)))))), (h 201, .inl (cs 0, 4, .inl ((fG 2) 0))), (h 202, .inl (cs 0, 4, .inl ((fG 2) 1))), (h 203, .inl (cs 0, 4, .inl ((fG 2) 2))), (h 204, .inl (cs 0, 4, .inl ((fG 2) 3))), (h 205, .inl (cs 0, 4, .inl ((fG 2) 4))), (h 206, .inl (cs 3, 4, .inr (.inr (.inr (.inr (fun i => if i < 4 then some (h (i + 207)) else none)))))), (h 207, .inl (cs 0, 4, .inl ((fG 3) 0))), (h 208, .inl (cs 0, 4, .inl ((fG 3) 1))), (h 209, .inl (cs 0, 4, .inl ((fG 3) 2))), (h 210, .inl (cs 0, 4, .inl ((fG 3) 3))), (h 211, .inl (cs 0, 5, .inl (fA 211))), (h 109, .inl (cs 5, 4, .inr (.inr (.inr (.inr (fun i => if i < 4 then some (h (i + 110)) else none)))))), (h 110, .inr (5, [.int (fI 220), .int (fI 224), .ref (h 228)])), (h 228, .inl (cs 1, 25, .inr (.inl (fQ 228)))), (h 111, .inr (5, [.int (fI 221), .int (fI 225), .ref (h 229)])), (h 229, .inl (cs 1, 25, .inr (.inl (fQ 229)))), (h 112, .inr (5, [.int (fI 222), .int (fI 226), .ref (h 230)])), (h 230, .inl (cs 1, 25, .inr (.inl (fQ 230))))]) hP hD hS hA [60, 61] [0, 1, 2, 3, 4, 5, 6, 7, 8, 9, 10, 11, 12, 13, 14, 15, 16, 17, 18, 19, 20, 21, 22, 23, 24, 25, 26, 27, 28, 29, 30, 31, 32, 33, 34, 35, 36, 37, 38, 39, 40, 41, 42, 43, 44, 45, 46, 47, 48, 49, 50, 51, 52, 53, 54, 55, 56, 57, 58, 59] rfl rfl (by decide) (by decide) (va_runV (As := [.int (nI 2), .int z]) (rest := []) ⟨hx, hb, hml, hown, hts⟩ (f_X5_renew3 l dC dI h cs H.size fI fL fA fQ fG fJ (nI 2) z) (cwV 2 hts gX9_sheet_X5_renew rfl rfl rfl (by decide +kernel) ⟨Nat.le_of_ble_eq_true rfl, Nat.le_of_ble_eq_true rfl⟩) (xpV (wc := (wSh3 h cs fI fL fA fQ fG fJ)) hP hD hK hN [60, 61] rfl (by decide) 60 (ci := 5) rfl rfl _) rfl rfl hl.1 rfl (lv_room (Nat.le_of_ble_eq_true rfl)) dX9_sheet_37 ⟨Nat.zero_le _, Nat.zero_le _⟩) (fun u_225 H locs hw hP hD hS => ?_)
              obtain ⟨i223_227, i227_228, hf_229, rfl⟩ := hw
              have hP : va_P (dC, dI) vwCl (wAll h cs (va_up (va_up fI 223 i223_227) 227 i227_228) fL fA fQ fG fJ) H := hP
              have hD : va_D A0 (wAll h cs (va_up (va_up fI 223 i223_227) 227 i227_228) fL fA fQ fG fJ) := hD
              refine lv_iload_n hx hb dX9_sheet_40 rfl (lv_at hl 3 rfl) ?_
              exact xr_i (v := z) hx hb hr hlocks hK hS dX9_sheet_41 ((va_up (va_up fI 223 i223_227) 227 i227_228), fL, fA, fQ, fG, fJ) ⟨(va_up (va_up fI 223 i223_227) 227 i227_228), (by unfold an_sheet; rw [if_pos (⟨by decide +kernel, by omega⟩), if_neg (by omega)]), rfl⟩ hP hD
            · skip
              have t_f_229 : z.toInt < 0 := zc_fge (K := 0) (by decide +kernel) c_23_222
              refine lv_bipush (v := (-14)) hx hb dX9_sheet_26 (by decide) ?_
              exact xr_i (v := (-14)) hx hb hr hlocks hK hS dX9_sheet_28 (fI, fL, fA, fQ, fG, fJ) ⟨fI, (by unfold an_sheet; rw [if_pos (⟨by decide +kernel, by omega⟩), if_pos (by omega)]), rfl⟩ hP hD
          · skip
            have t_f_230 : 25 < z.toInt := zc_fle (K := nI 25) (by decide +kernel) c_17_220
            refine lv_iconst (v := (-1)) hx hb dX9_sheet_20 (by decide) ?_
            exact xr_i (v := (-1)) hx hb hr hlocks hK hS dX9_sheet_21 (fI, fL, fA, fQ, fG, fJ) ⟨fI, (by unfold an_sheet; rw [if_neg (by omega)]), rfl⟩ hP hD
      · skip
        refine lv_iload_n hx hb dX9_sheet_0 rfl (lv_at hl 1 rfl) ?_
        refine xj_i (wc := ([] : va_W)) (wr := (wAll h cs fI fL fA fQ fG fJ)) hP hD hS hA [] [0, 1, 2, 3, 4, 5, 6, 7, 8, 9, 10, 11, 12, 13, 14, 15, 16, 17, 18, 19, 20, 21, 22, 23, 24, 25, 26, 27, 28, 29, 30, 31, 32, 33, 34, 35, 36, 37, 38, 39, 40, 41, 42, 43, 44, 45, 46, 47, 48, 49, 50, 51, 52, 53, 54, 55, 56, 57, 58, 59, 60, 61] rfl rfl (by decide) (by decide) (va_runS (As := [.int (nI 3)]) (rest := []) ⟨hx, hb, hml, hown, hts⟩ (a_X9_isSheet_141 l dC dI h cs H.size I L A Q G J ) (va_cwS 1 hts gX9_sheet_X9_isSheet rfl rfl rfl (by decide +kernel) ⟨Nat.le_of_ble_eq_true rfl, Nat.le_of_ble_eq_true rfl⟩) (xpS (wc := ([] : va_W)) hP hD hK hN [] rfl (by decide) _) rfl rfl hl.1 rfl (lv_room (Nat.le_of_ble_eq_true rfl)) dX9_sheet_1 ⟨Nat.zero_le _, Nat.zero_le _⟩) (fun r_233 u_232 H locs hw hP hD hS => ?_)
        obtain ⟨hf_234, rfl⟩ := hw
        have hP : va_P (dC, dI) vwCl (wAll h cs fI fL fA fQ fG fJ) H := hP
        have hD : va_D A0 (wAll h cs fI fL fA fQ fG fJ) := hD
        obtain rfl := hf_234
        refine lv_if_eq (tgt := 20) hx hb dX9_sheet_4 (by decide) (fun c9 => False.elim (by revert c9; decide +kernel)) (fun _ => ?_)
        refine lv_iload_n hx hb dX9_sheet_7 rfl (lv_at hl 2 rfl) ?_
        refine xj_i (wc := ([] : va_W)) (wr := (wAll h cs fI fL fA fQ fG fJ)) hP hD hS hA [] [0, 1, 2, 3, 4, 5, 6, 7, 8, 9, 10, 11, 12, 13, 14, 15, 16, 17, 18, 19, 20, 21, 22, 23, 24, 25, 26, 27, 28, 29, 30, 31, 32, 33, 34, 35, 36, 37, 38, 39, 40, 41, 42, 43, 44, 45, 46, 47, 48, 49, 50, 51, 52, 53, 54, 55, 56, 57, 58, 59, 60, 61] rfl rfl (by decide) (by decide) (va_runS (As := [.int y]) (rest := []) ⟨hx, hb, hml, hown, hts⟩ (k_X9_isLane l dC dI h cs H.size I L A Q G J y) (va_cwS 1 hts gX9_sheet_X9_isLane rfl rfl rfl (by decide +kernel) ⟨Nat.le_of_ble_eq_true rfl, Nat.le_of_ble_eq_true rfl⟩) (xpS (wc := ([] : va_W)) hP hD hK hN [] rfl (by decide) _) rfl rfl hl.1 rfl (lv_room (Nat.le_of_ble_eq_true rfl)) dX9_sheet_8 ⟨Nat.zero_le _, Nat.zero_le _⟩) (fun r_236 u_235 H locs hw hP hD hS => ?_)
        obtain ⟨hf_237, rfl⟩ := hw
        have hP : va_P (dC, dI) vwCl (wAll h cs fI fL fA fQ fG fJ) H := hP
        have hD : va_D A0 (wAll h cs fI fL fA fQ fG fJ) := hD
        rcases hf_237 with ⟨rfl, i_238, hh_239, ee_240⟩ | ⟨rfl, -⟩
        · skip
          exact absurd (by rw [ee_240, nI_toInt (by omega)]; omega) hz_y
        · skip
          refine lv_if_eq (tgt := 20) hx hb dX9_sheet_11 (by decide) (fun _ => ?_) (fun c9 => False.elim (by revert c9; decide +kernel))
          refine lv_iconst (v := (-1)) hx hb dX9_sheet_20 (by decide) ?_
          exact xr_i (v := (-1)) hx hb hr hlocks hK hS dX9_sheet_21 (fI, fL, fA, fQ, fG, fJ) ⟨fI, (by unfold an_sheet; rw [if_neg (by omega)]), rfl⟩ hP hD
  · skip
    refine lv_iload_n hx hb dX9_sheet_0 rfl (lv_at hl 1 rfl) ?_
    refine xj_i (wc := ([] : va_W)) (wr := (wAll h cs fI fL fA fQ fG fJ)) hP hD hS hA [] [0, 1, 2, 3, 4, 5, 6, 7, 8, 9, 10, 11, 12, 13, 14, 15, 16, 17, 18, 19, 20, 21, 22, 23, 24, 25, 26, 27, 28, 29, 30, 31, 32, 33, 34, 35, 36, 37, 38, 39, 40, 41, 42, 43, 44, 45, 46, 47, 48, 49, 50, 51, 52, 53, 54, 55, 56, 57, 58, 59, 60, 61] rfl rfl (by decide) (by decide) (va_runS (As := [.int x]) (rest := []) ⟨hx, hb, hml, hown, hts⟩ (k_X9_isSheet l dC dI h cs H.size I L A Q G J x) (va_cwS 1 hts gX9_sheet_X9_isSheet rfl rfl rfl (by decide +kernel) ⟨Nat.le_of_ble_eq_true rfl, Nat.le_of_ble_eq_true rfl⟩) (xpS (wc := ([] : va_W)) hP hD hK hN [] rfl (by decide) _) rfl rfl hl.1 rfl (lv_room (Nat.le_of_ble_eq_true rfl)) dX9_sheet_1 ⟨Nat.zero_le _, Nat.zero_le _⟩) (fun r_242 u_241 H locs hw hP hD hS => ?_)
    obtain ⟨hf_243, rfl⟩ := hw
    have hP : va_P (dC, dI) vwCl (wAll h cs fI fL fA fQ fG fJ) H := hP
    have hD : va_D A0 (wAll h cs fI fL fA fQ fG fJ) := hD
    rcases hf_243 with ⟨rfl, i_244, hh_245, ee_246⟩ | ⟨rfl, -⟩
    · skip
      exact absurd (by rw [ee_246, nI_toInt (by omega)]; omega) hz_x
    · skip
      refine lv_if_eq (tgt := 20) hx hb dX9_sheet_4 (by decide) (fun _ => ?_) (fun c9 => False.elim (by revert c9; decide +kernel))
      refine lv_iconst (v := (-1)) hx hb dX9_sheet_20 (by decide) ?_
      exact xr_i (v := (-1)) hx hb hr hlocks hK hS dX9_sheet_21 (fI, fL, fA, fQ, fG, fJ) ⟨fI, (by unfold an_sheet; rw [if_neg (by omega)]), rfl⟩ hP hD
