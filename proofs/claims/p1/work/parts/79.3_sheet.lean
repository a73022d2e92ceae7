def wSh0 (h : Nat → Nat) (cs : Nat → ClassId) (I : Nat → Int32) (L : Nat → Int64) (A : Nat → Nat → Int32) (Q : Nat → Nat → Int64) (G : Nat → Nat → Nat → Int32) (J : Nat → Nat → Nat → Int64) : va_W := [(h 110, .inr (5, [.int (I 220), .int (I 224), .ref (h 228)])), (h 228, .inl (cs 1, 25, .inr (.inl (Q 228))))]
def wD_158 (h : Nat → Nat) (cs : Nat → ClassId) (I : Nat → Int32) (L : Nat → Int64) (A : Nat → Nat → Int32) (Q : Nat → Nat → Int64) (G : Nat → Nat → Nat → Int32) (J : Nat → Nat → Nat → Int64) : va_W := [(h 228, .inl (cs 1, 25, .inr (.inl (Q 228))))]
theorem dJ7_fill_d0a16_0 : decode cJ7_fill_d0a16 0 = .ok (.iconst 0, 1) := by decide +kernel
theorem dJ7_fill_d0a16_1 : decode cJ7_fill_d0a16 1 = .ok (.istore_n 3, 1) := by decide +kernel
theorem dJ7_fill_d0a16_2 : decode cJ7_fill_d0a16 2 = .ok (.aload_n 0, 1) := by decide +kernel
theorem dJ7_fill_d0a16_3 : decode cJ7_fill_d0a16 3 = .ok (.arraylength, 1) := by decide +kernel
theorem dJ7_fill_d0a16_4 : decode cJ7_fill_d0a16 4 = .ok (.istore 4, 2) := by decide +kernel
theorem dJ7_fill_d0a16_6 : decode cJ7_fill_d0a16 6 = .ok (.iload_n 3, 1) := by decide +kernel
theorem dJ7_fill_d0a16_7 : decode cJ7_fill_d0a16 7 = .ok (.iload 4, 2) := by decide +kernel
theorem dJ7_fill_d0a16_9 : decode cJ7_fill_d0a16 9 = .ok (.if_icmp .ge 13, 3) := by decide +kernel
theorem dJ7_fill_d0a16_12 : decode cJ7_fill_d0a16 12 = .ok (.aload_n 0, 1) := by decide +kernel
theorem dJ7_fill_d0a16_13 : decode cJ7_fill_d0a16 13 = .ok (.iload_n 3, 1) := by decide +kernel
theorem dJ7_fill_d0a16_14 : decode cJ7_fill_d0a16 14 = .ok (.lload_n 1, 1) := by decide +kernel
theorem dJ7_fill_d0a16_15 : decode cJ7_fill_d0a16 15 = .ok (.lastore, 1) := by decide +kernel
theorem dJ7_fill_d0a16_16 : decode cJ7_fill_d0a16 16 = .ok (.iinc 3 1, 3) := by decide +kernel
theorem dJ7_fill_d0a16_19 : decode cJ7_fill_d0a16 19 = .ok (.goto (-13), 3) := by decide +kernel
theorem dJ7_fill_d0a16_22 : decode cJ7_fill_d0a16 22 = .ok (.return_, 1) := by decide +kernel
set_option maxHeartbeats 4000000 in
set_option maxRecDepth 100000 in
theorem a_J7_fill_d0a16_159 (l : Launch) (dC : Nat → ClassId) (dI : Nat → Nat → Nat) (h : Nat → Nat) (cs : Nat → ClassId) (sz : Nat) (I : Nat → Int32) (L : Nat → Int64) (A : Nat → Nat → Int32) (Q : Nat → Nat → Int64) (G : Nat → Nat → Nat → Int32) (J : Nat → Nat → Nat → Int64) : Met l yJ7_fill_d0a16 wsJ7_fill_d0a16 ({ frames := 0, cells := 0, slots := 0, locals := 0 }) (va_Pc [.ref (h 228), .long (0 : Int64)] (xPre (dC, dI) (wD_158 h cs fI fL fA fQ fG fJ) (tysA cs) sz)) (va_Qv (fun (u : CS) => (True) ∧ u = (fI, fL, fA, fQ, fG, fJ)) (xB (dC, dI) (tysA cs) (va_A (wD_158 h cs fI fL fA fQ fG fJ) sz) (fun u : CS => wD_158 h cs u.1 u.2.1 u.2.2.1 u.2.2.2.1 u.2.2.2.2.1 u.2.2.2.2.2)) (va_A (wD_158 h cs fI fL fA fQ fG fJ) sz)) 0 0 (va_A (wD_158 h cs fI fL fA fQ fG fJ) sz) := by
  refine Met.ofW (cc := cJ7_fill_d0a16) (maxL := 5) (ret := none) (by decide) rfl ?_
  intro p e s m args below meth c s₁ B hml hv
  obtain ⟨rfl, hsz, hP, hK, hD0, hN⟩ := hv
  have hx := B.exec
  have hb := B.bytes
  have hr := B.returns
  have hts := atoms_spec (ws := wsJ7_fill_d0a16) B.pre
  have hown : s.vm.findClass RJ7 = some m.cls := findClass_of_methodNamed B.named
  have hlocks := B.notSynchronized
  subst hsz
  have hD := hD0.self (sz := s.heap.size)
  generalize hAe : va_A (wD_158 h cs fI fL fA fQ fG fJ) s.heap.size = A0 at hD ⊢
  have hA : ∀ q : Nat, s.heap.size ≤ q → A0 q := fun q h => by rw [← hAe]; exact Or.inr h
  have hl := lv_entry ([.ref (h 228), .long (0 : Int64)]) (n := 5) (Nat.le_of_ble_eq_true rfl)
  rw [lg_entry_eq]
  generalize (lg_sl ([.ref (h 228), .long (0 : Int64)]) ++ List.replicate (5 - (lg_sl ([.ref (h 228), .long (0 : Int64)])).length) Slot.unset).toArray = ls at hl ⊢
  have hl : lv_has ls 5 [(0, .ref (h 228)), (1, .long (0 : Int64))] := hl
  generalize hH : s.heap = H at hP ⊢
  have hS : va_S A0 s.heap H [] := by rw [← hH]; exact va_S.rf
  refine lv_iconst (v := nI 0) hx hb dJ7_fill_d0a16_0 (by decide) ?_
  refine lv_istore_n (lv' := [(3, .int (nI 0)), (0, .ref (h 228)), (1, .long (0 : Int64))]) hx hb dJ7_fill_d0a16_1 rfl hl (by decide) rfl (fun ls hl => ?_)
  refine lv_aload_n hx hb dJ7_fill_d0a16_2 rfl (lv_at hl 1 rfl) ?_
  refine xa_alen hx hb hK hP 0 1 rfl rfl (n := 25) rfl dJ7_fill_d0a16_3 ?_
  refine lv_istore (lv' := [(4, .int (nI 25)), (3, .int (nI 0)), (0, .ref (h 228)), (1, .long (0 : Int64))]) hx hb dJ7_fill_d0a16_4 hl (by decide) rfl (fun ls hl => ?_)
  refine lv_iload_n hx hb dJ7_fill_d0a16_6 rfl (lv_at hl 1 rfl) ?_
  refine lv_iload hx hb dJ7_fill_d0a16_7 (lv_at hl 0 rfl) ?_
  refine lv_icmp_ge (tgt := 22) hx hb dJ7_fill_d0a16_9 (by decide) (fun c9 => False.elim (by revert c9; decide +kernel)) (fun _ => ?_)
  refine lv_aload_n hx hb dJ7_fill_d0a16_12 rfl (lv_at hl 2 rfl) ?_
  refine lv_iload_n hx hb dJ7_fill_d0a16_13 rfl (lv_at hl 1 rfl) ?_
  refine lv_lload_n hx hb dJ7_fill_d0a16_14 rfl (lv_at hl 3 rfl) ?_
  refine xa_lastS hx hb hK hP hD hS 0 1 rfl rfl (by omega) (by decide) (by decide +kernel) dJ7_fill_d0a16_15 (fun H locs hP hD hS => ?_)
  refine lv_iinc (v := nI 1) (lv' := [(3, .int (nI 1)), (4, .int (nI 25)), (0, .ref (h 228)), (1, .long (0 : Int64))]) hx hb dJ7_fill_d0a16_16 hl (k := 1) rfl (by decide +kernel) (by decide) rfl (fun ls hl => ?_)
  refine lv_goto (tgt := 6) hx hb dJ7_fill_d0a16_19 (by decide) ?_
  refine lv_iload_n hx hb dJ7_fill_d0a16_6 rfl (lv_at hl 0 rfl) ?_
  refine lv_iload hx hb dJ7_fill_d0a16_7 (lv_at hl 1 rfl) ?_
  refine lv_icmp_ge (tgt := 22) hx hb dJ7_fill_d0a16_9 (by decide) (fun c9 => False.elim (by revert c9; decide +kernel)) (fun _ => ?_)
  refine lv_aload_n hx hb dJ7_fill_d0a16_12 rfl (lv_at hl 2 rfl) ?_
  refine lv_iload_n hx hb dJ7_fill_d0a16_13 rfl (lv_at hl 0 rfl) ?_
  refine lv_lload_n hx hb dJ7_fill_d0a16_14 rfl (lv_at hl 3 rfl) ?_
  refine xa_lastS hx hb hK hP hD hS 0 1 rfl rfl (by omega) (by decide) (by decide +kernel) dJ7_fill_d0a16_15 (fun H locs hP hD hS => ?_)
  refine lv_iinc (v := nI 2) (lv' := [(3, .int (nI 2)), (4, .int (nI 25)), (0, .ref (h 228)), (1, .long (0 : Int64))]) hx hb dJ7_fill_d0a16_16 hl (k := 0) rfl (by decide +kernel) (by decide) rfl (fun ls hl => ?_)
  refine lv_goto (tgt := 6) hx hb dJ7_fill_d0a16_19 (by decide) ?_
  refine lv_iload_n hx hb dJ7_fill_d0a16_6 rfl (lv_at hl 0 rfl) ?_
  refine lv_iload hx hb dJ7_fill_d0a16_7 (lv_at hl 1 rfl) ?_
  refine lv_icmp_ge (tgt := 22) hx hb dJ7_fill_d0a16_9 (by decide) (fun c9 => False.elim (by revert c9; decide +kernel)) (fun _ => ?_)
  refine lv_aload_n hx hb dJ7_fill_d0a16_12 rfl (lv_at hl 2 rfl) ?_
  refine lv_iload_n hx hb dJ7_fill_d0a16_13 rfl (lv_at hl 0 rfl) ?_
  refine lv_lload_n hx hb dJ7_fill_d0a16_14 rfl (lv_at hl 3 rfl) ?_
  refine xa_lastS hx hb hK hP hD hS 0 1 rfl rfl (by omega) (by decide) (by decide +kernel) dJ7_fill_d0a16_15 (fun H locs hP hD hS => ?_)
  refine lv_iinc (v := nI 3) (lv' := [(3, .int (nI 3)), (4, .int (nI 25)), (0, .ref (h 228)), (1, .long (0 : Int64))]) hx hb dJ7_fill_d0a16_16 hl (k := 0) rfl (by decide +kernel) (by decide) rfl (fun ls hl => ?_)
  refine lv_goto (tgt := 6) hx hb dJ7_fill_d0a16_19 (by decide) ?_
  refine lv_iload_n hx hb dJ7_fill_d0a16_6 rfl (lv_at hl 0 rfl) ?_
  refine lv_iload hx hb dJ7_fill_d0a16_7 (lv_at hl 1 rfl) ?_
  refine lv_icmp_ge (tgt := 22) hx hb dJ7_fill_d0a16_9 (by decide) (fun c9 => False.elim (by revert c9; decide +kernel)) (fun _ => ?_)
  refine lv_aload_n hx hb dJ7_fill_d0a16_12 rfl (lv_at hl 2 rfl) ?_
  refine lv_iload_n hx hb dJ7_fill_d0a16_13 rfl (lv_at hl 0 rfl) ?_
  refine lv_lload_n hx hb dJ7_fill_d0a16_14 rfl (lv_at hl 3 rfl) ?_
  refine xa_lastS hx hb hK hP hD hS 0 1 rfl rfl (by omega) (by decide) (by decide +kernel) dJ7_fill_d0a16_15 (fun H locs hP hD hS => ?_)
  refine lv_iinc (v := nI 4) (lv' := [(3, .int (nI 4)), (4, .int (nI 25)), (0, .ref (h 228)), (1, .long (0 : Int64))]) hx hb dJ7_fill_d0a16_16 hl (k := 0) rfl (by decide +kernel) (by decide) rfl (fun ls hl => ?_)
  refine lv_goto (tgt := 6) hx hb dJ7_fill_d0a16_19 (by decide) ?_
  refine lv_iload_n hx hb dJ7_fill_d0a16_6 rfl (lv_at hl 0 rfl) ?_
  refine lv_iload hx hb dJ7_fill_d0a16_7 (lv_at hl 1 rfl) ?_
  refine lv_icmp_ge (tgt := 22) hx hb dJ7_fill_d0a16_9 (by decide) (fun c9 => False.elim (by revert c9; decide +kernel)) (fun _ => ?_)
  refine lv_aload_n hx hb dJ7_fill_d0a16_12 rfl (lv_at hl 2 rfl) ?_
  refine lv_iload_n hx hb dJ7_fill_d0a16_13 rfl (lv_at hl 0 rfl) ?_
  refine lv_lload_n hx hb dJ7_fill_d0a16_14 rfl (lv_at hl 3 rfl) ?_
  refine xa_lastS hx hb hK hP hD hS 0 1 rfl rfl (by omega) (by decide) (by decide +kernel) dJ7_fill_d0a16_15 (fun H locs hP hD hS => ?_)
  refine lv_iinc (v := nI 5) (lv' := [(3, .int (nI 5)), (4, .int (nI 25)), (0, .ref (h 228)), (1, .long (0 : Int64))]) hx hb dJ7_fill_d0a16_16 hl (k := 0) rfl (by decide +kernel) (by decide) rfl (fun ls hl => ?_)
  refine lv_goto (tgt := 6) hx hb dJ7_fill_d0a16_19 (by decide) ?_
  refine lv_iload_n hx hb dJ7_fill_d0a16_6 rfl (lv_at hl 0 rfl) ?_
  refine lv_iload hx hb dJ7_fill_d0a16_7 (lv_at hl 1 rfl) ?_
  refine lv_icmp_ge (tgt := 22) hx hb dJ7_fill_d0a16_9 (by decide) (fun c9 => False.elim (by revert c9; decide +kernel)) (fun _ => ?_)
  refine lv_aload_n hx hb dJ7_fill_d0a16_12 rfl (lv_at hl 2 rfl) ?_
  refine lv_iload_n hx hb dJ7_fill_d0a16_13 rfl (lv_at hl 0 rfl) ?_
  refine lv_lload_n hx hb dJ7_fill_d0a16_14 rfl (lv_at hl 3 rfl) ?_
  refine xa_lastS hx hb hK hP hD hS 0 1 rfl rfl (by omega) (by decide) (by decide +kernel) dJ7_fill_d0a16_15 (fun H locs hP hD hS => ?_)
  refine lv_iinc (v := nI 6) (lv' := [(3, .int (nI 6)), (4, .int (nI 25)), (0, .ref (h 228)), (1, .long (0 : Int64))]) hx hb dJ7_fill_d0a16_16 hl (k := 0) rfl (by decide +kernel) (by decide) rfl (fun ls hl => ?_)
  refine lv_goto (tgt := 6) hx hb dJ7_fill_d0a16_19 (by decide) ?_
  refine lv_iload_n hx hb dJ7_fill_d0a16_6 rfl (lv_at hl 0 rfl) ?_
  refine lv_iload hx hb dJ7_fill_d0a16_7 (lv_at hl 1 rfl) ?_
  refine lv_icmp_ge (tgt := 22) hx hb dJ7_fill_d0a16_9 (by decide) (fun c9 => False.elim (by revert c9; decide +kernel)) (fun _ => ?_)
  refine lv_aload_n hx hb dJ7_fill_d0a16_12 rfl (lv_at hl 2 rfl) ?_
  refine lv_iload_n hx hb dJ7_fill_d0a16_13 rfl (lv_at hl 0 rfl) ?_
  refine lv_lload_n hx hb dJ7_fill_d0a16_14 rfl (lv_at hl 3 rfl) ?_
  refine xa_lastS hx hb hK hP hD hS 0 1 rfl rfl (by omega) (by decide) (by decide +kernel) dJ7_fill_d0a16_15 (fun H locs hP hD hS => ?_)
  refine lv_iinc (v := nI 7) (lv' := [(3, .int (nI 7)), (4, .int (nI 25)), (0, .ref (h 228)), (1, .long (0 : Int64))]) hx hb dJ7_fill_d0a16_16 hl (k := 0) rfl (by decide +kernel) (by decide) rfl (fun ls hl => ?_)
  refine lv_goto (tgt := 6) hx hb dJ7_fill_d0a16_19 (by decide) ?_
  refine lv_iload_n hx hb dJ7_fill_d0a16_6 rfl (lv_at hl 0 rfl) ?_
  refine lv_iload hx hb dJ7_fill_d0a16_7 (lv_at hl 1 rfl) ?_
  refine lv_icmp_ge (tgt := 22) hx hb dJ7_fill_d0a16_9 (by decide) (fun c9 => False.elim (by revert c9; decide +kernel)) (fun _ => ?_)
  refine lv_aload_n hx hb dJ7_fill_d0a16_12 rfl (lv_at hl 2 rfl) ?_
  refine lv_iload_n hx hb dJ7_fill_d0a16_13 rfl (lv_at hl 0 rfl) ?_
  refine lv_lload_n hx hb dJ7_fill_d0a16_14 rfl (lv_at hl 3 rfl) ?_
  refine xa_lastS hx hb hK hP hD hS 0 1 rfl rfl (by omega) (by decide) (by decide +kernel) dJ7_fill_d0a16_15 (fun H locs hP hD hS => ?_)
  refine lv_iinc (v := nI 8) (lv' := [(3, .int (nI 8)), (4, .int (nI 25)), (0, .ref (h 228)), (1, .long (0 : Int64))]) hx hb dJ7_fill_d0a16_16 hl (k := 0) rfl (by decide +kernel) (by decide) rfl (fun ls hl => ?_)
  refine lv_goto (tgt := 6) hx hb dJ7_fill_d0a16_19 (by decide) ?_
  refine lv_iload_n hx hb dJ7_fill_d0a16_6 rfl (lv_at hl 0 rfl) ?_
  refine lv_iload hx hb dJ7_fill_d0a16_7 (lv_at hl 1 rfl) ?_
  refine lv_icmp_ge (tgt := 22) hx hb dJ7_fill_d0a16_9 (by decide) (fun c9 => False.elim (by revert c9; decide +kernel)) (fun _ => ?_)
  refine lv_aload_n hx hb dJ7_fill_d0a16_12 rfl (lv_at hl 2 rfl) ?_
  refine lv_iload_n hx hb dJ7_fill_d0a16_13 rfl (lv_at hl 0 rfl) ?_
  refine lv_lload_n hx hb dJ7_fill_d0a16_14 rfl (lv_at hl 3 rfl) ?_
  refine xa_lastS hx hb hK hP hD hS 0 1 rfl rfl (by omega) (by decide) (by decide +kernel) dJ7_fill_d0a16_15 (fun H locs hP hD hS => ?_)
  refine lv_iinc (v := nI 9) (lv' := [(3, .int (nI 9)), (4, .int (nI 25)), (0, .ref (h 228)), (1, .long (0 : Int64))]) hx hb dJ7_fill_d0a16_16 hl (k := 0) rfl (by decide +kernel) (by decide) rfl (fun ls hl => ?_)
  refine lv_goto (tgt := 6) hx hb dJ7_fill_d0a16_19 (by decide) ?_
  refine lv_iload_n hx hb dJ7_fill_d0a16_6 rfl (lv_at hl 0 rfl) ?_
  refine lv_iload hx hb dJ7_fill_d0a16_7 (lv_at hl 1 rfl) ?_
  refine lv_icmp_ge (tgt := 22) hx hb dJ7_fill_d0a16_9 (by decide) (fun c9 => False.elim (by revert c9; decide +kernel)) (fun _ => ?_)
  refine lv_aload_n hx hb dJ7_fill_d0a16_12 rfl (lv_at hl 2 rfl) ?_
  refine lv_iload_n hx hb dJ7_fill_d0a16_13 rfl (lv_at hl 0 rfl) ?_
  refine lv_lload_n hx hb dJ7_fill_d0a16_14 rfl (lv_at hl 3 rfl) ?_
  refine xa_lastS hx hb hK hP hD hS 0 1 rfl rfl (by omega) (by decide) (by decide +kernel) dJ7_fill_d0a16_15 (fun H locs hP hD hS => ?_)
  refine lv_iinc (v := nI 10) (lv' := [(3, .int (nI 10)), (4, .int (nI 25)), (0, .ref (h 228)), (1, .long (0 : Int64))]) hx hb dJ7_fill_d0a16_16 hl (k := 0) rfl (by decide +kernel) (by decide) rfl (fun ls hl => ?_)
  refine lv_goto (tgt := 6) hx hb dJ7_fill_d0a16_19 (by decide) ?_
  refine lv_iload_n hx hb dJ7_fill_d0a16_6 rfl (lv_at hl 0 rfl) ?_
  refine lv_iload hx hb dJ7_fill_d0a16_7 (lv_at hl 1 rfl) ?_
  refine lv_icmp_ge (tgt := 22) hx hb dJ7_fill_d0a16_9 (by decide) (fun c9 => False.elim (by revert c9; decide +kernel)) (fun _ => ?_)
  refine lv_aload_n hx hb dJ7_fill_d0a16_12 rfl (lv_at hl 2 rfl) ?_
  refine lv_iload_n hx hb dJ7_fill_d0a16_13 rfl (lv_at hl 0 rfl) ?_
  refine lv_lload_n hx hb dJ7_fill_d0a16_14 rfl (lv_at hl 3 rfl) ?_
  refine xa_lastS hx hb hK hP hD hS 0 1 rfl rfl (by omega) (by decide) (by decide +kernel) dJ7_fill_d0a16_15 (fun H locs hP hD hS => ?_)
  refine lv_iinc (v := nI 11) (lv' := [(3, .int (nI 11)), (4, .int (nI 25)), (0, .ref (h 228)), (1, .long (0 : Int64))]) hx hb dJ7_fill_d0a16_16 hl (k := 0) rfl (by decide +kernel) (by decide) rfl (fun ls hl => ?_)
  refine lv_goto (tgt := 6) hx hb dJ7_fill_d0a16_19 (by decide) ?_
  refine lv_iload_n hx hb dJ7_fill_d0a16_6 rfl (lv_at hl 0 rfl) ?_
  refine lv_iload hx hb dJ7_fill_d0a16_7 (lv_at hl 1 rfl) ?_
  refine lv_icmp_ge (tgt := 22) hx hb dJ7_fill_d0a16_9 (by decide) (fun c9 => False.elim (by revert c9; decide +kernel)) (fun _ => ?_)
  refine lv_aload_n hx hb dJ7_fill_d0a16_12 rfl (lv_at hl 2 rfl) ?_
  refine lv_iload_n hx hb dJ7_fill_d0a16_13 rfl (lv_at hl 0 rfl) ?_
  refine lv_lload_n hx hb dJ7_fill_d0a16_14 rfl (lv_at hl 3 rfl) ?_
  refine xa_lastS hx hb hK hP hD hS 0 1 rfl rfl (by omega) (by decide) (by decide +kernel) dJ7_fill_d0a16_15 (fun H locs hP hD hS => ?_)
  refine lv_iinc (v := nI 12) (lv' := [(3, .int (nI 12)), (4, .int (nI 25)), (0, .ref (h 228)), (1, .long (0 : Int64))]) hx hb dJ7_fill_d0a16_16 hl (k := 0) rfl (by decide +kernel) (by decide) rfl (fun ls hl => ?_)
  refine lv_goto (tgt := 6) hx hb dJ7_fill_d0a16_19 (by decide) ?_
  refine lv_iload_n hx hb dJ7_fill_d0a16_6 rfl (lv_at hl 0 rfl) ?_
  refine lv_iload hx hb dJ7_fill_d0a16_7 (lv_at hl 1 rfl) ?_
  refine lv_icmp_ge (tgt := 22) hx hb dJ7_fill_d0a16_9 (by decide) (fun c9 => False.elim (by revert c9; decide +kernel)) (fun _ => ?_)
  refine lv_aload_n hx hb dJ7_fill_d0a16_12 rfl (lv_at hl 2 rfl) ?_
  refine lv_iload_n hx hb dJ7_fill_d0a16_13 rfl (lv_at hl 0 rfl) ?_
  refine lv_lload_n hx hb dJ7_fill_d0a16_14 rfl (lv_at hl 3 rfl) ?_
  refine xa_lastS hx hb hK hP hD hS 0 1 rfl rfl (by omega) (by decide) (by decide +kernel) dJ7_fill_d0a16_15 (fun H locs hP hD hS => ?_)
  refine lv_iinc (v := nI 13) (lv' := [(3, .int (nI 13)), (4, .int (nI 25)), (0, .ref (h 228)), (1, .long (0 : Int64))]) hx hb dJ7_fill_d0a16_16 hl (k := 0) rfl (by decide +kernel) (by decide) rfl (fun ls hl => ?_)
  refine lv_goto (tgt := 6) hx hb dJ7_fill_d0a16_19 (by decide) ?_
  refine lv_iload_n hx hb dJ7_fill_d0a16_6 rfl (lv_at hl 0 rfl) ?_
  refine lv_iload hx hb dJ7_fill_d0a16_7 (lv_at hl 1 rfl) ?_
  refine lv_icmp_ge (tgt := 22) hx hb dJ7_fill_d0a16_9 (by decide) (fun c9 => False.elim (by revert c9; decide +kernel)) (fun _ => ?_)
  refine lv_aload_n hx hb dJ7_fill_d0a16_12 rfl (lv_at hl 2 rfl) ?_
  refine lv_iload_n hx hb dJ7_fill_d0a16_13 rfl (lv_at hl 0 rfl) ?_
  refine lv_lload_n hx hb dJ7_fill_d0a16_14 rfl (lv_at hl 3 rfl) ?_
  refine xa_lastS hx hb hK hP hD hS 0 1 rfl rfl (by omega) (by decide) (by decide +kernel) dJ7_fill_d0a16_15 (fun H locs hP hD hS => ?_)
  refine lv_iinc (v := nI 14) (lv' := [(3, .int (nI 14)), (4, .int (nI 25)), (0, .ref (h 228)), (1, .long (0 : Int64))]) hx hb dJ7_fill_d0a16_16 hl (k := 0) rfl (by decide +kernel) (by decide) rfl (fun ls hl => ?_)
  refine lv_goto (tgt := 6) hx hb dJ7_fill_d0a16_19 (by decide) ?_
  refine lv_iload_n hx hb dJ7_fill_d0a16_6 rfl (lv_at hl 0 rfl) ?_
  refine lv_iload hx hb dJ7_fill_d0a16_7 (lv_at hl 1 rfl) ?_
  refine lv_icmp_ge (tgt := 22) hx hb dJ7_fill_d0a16_9 (by decide) (fun c9 => False.elim (by revert c9; decide +kernel)) (fun _ => ?_)
  refine lv_aload_n hx hb dJ7_fill_d0a16_12 rfl (lv_at hl 2 rfl) ?_
  refine lv_iload_n hx hb dJ7_fill_d0a16_13 rfl (lv_at hl 0 rfl) ?_
  refine lv_lload_n hx hb dJ7_fill_d0a16_14 rfl (lv_at hl 3 rfl) ?_
  refine xa_lastS hx hb hK hP hD hS 0 1 rfl rfl (by omega) (by decide) (by decide +kernel) dJ7_fill_d0a16_15 (fun H locs hP hD hS => ?_)
  refine lv_iinc (v := nI 15) (lv' := [(3, .int (nI 15)), (4, .int (nI 25)), (0, .ref (h 228)), (1, .long (0 : Int64))]) hx hb dJ7_fill_d0a16_16 hl (k := 0) rfl (by decide +kernel) (by decide) rfl (fun ls hl => ?_)
  refine lv_goto (tgt := 6) hx hb dJ7_fill_d0a16_19 (by decide) ?_
  refine lv_iload_n hx hb dJ7_fill_d0a16_6 rfl (lv_at hl 0 rfl) ?_
  refine lv_iload hx hb dJ7_fill_d0a16_7 (lv_at hl 1 rfl) ?_
  refine lv_icmp_ge (tgt := 22) hx hb dJ7_fill_d0a16_9 (by decide) (fun c9 => False.elim (by revert c9; decide +kernel)) (fun _ => ?_)
  refine lv_aload_n hx hb dJ7_fill_d0a16_12 rfl (lv_at hl 2 rfl) ?_
  refine lv_iload_n hx hb dJ7_fill_d0a16_13 rfl (lv_at hl 0 rfl) ?_
  refine lv_lload_n hx hb dJ7_fill_d0a16_14 rfl (lv_at hl 3 rfl) ?_
  refine xa_lastS hx hb hK hP hD hS 0 1 rfl rfl (by omega) (by decide) (by decide +kernel) dJ7_fill_d0a16_15 (fun H locs hP hD hS => ?_)
  refine lv_iinc (v := nI 16) (lv' := [(3, .int (nI 16)), (4, .int (nI 25)), (0, .ref (h 228)), (1, .long (0 : Int64))]) hx hb dJ7_fill_d0a16_16 hl (k := 0) rfl (by decide +kernel) (by decide) rfl (fun ls hl => ?_)
  refine lv_goto (tgt := 6) hx hb dJ7_fill_d0a16_19 (by decide) ?_
  refine lv_iload_n hx hb dJ7_fill_d0a16_6 rfl (lv_at hl 0 rfl) ?_
  refine lv_iload hx hb dJ7_fill_d0a16_7 (lv_at hl 1 rfl) ?_
  refine lv_icmp_ge (tgt := 22) hx hb dJ7_fill_d0a16_9 (by decide) (fun c9 => False.elim (by revert c9; decide +kernel)) (fun _ => ?_)
  refine lv_aload_n hx hb dJ7_fill_d0a16_12 rfl (lv_at hl 2 rfl) ?_
  refine lv_iload_n hx hb dJ7_fill_d0a16_13 rfl (lv_at hl 0 rfl) ?_
  refine lv_lload_n hx hb dJ7_fill_d0a16_14 rfl (lv_at hl 3 rfl) ?_
  refine xa_lastS hx hb hK hP hD hS 0 1 rfl rfl (by omega) (by decide) (by decide +kernel) dJ7_fill_d0a16_15 (fun H locs hP hD hS => ?_)
  refine lv_iinc (v := nI 17) (lv' := [(3, .int (nI 17)), (4, .int (nI 25)), (0, .ref (h 228)), (1, .long (0 : Int64))]) hx hb dJ7_fill_d0a16_16 hl (k := 0) rfl (by decide +kernel) (by decide) rfl (fun ls hl => ?_)
  refine lv_goto (tgt := 6) hx hb dJ7_fill_d0a16_19 (by decide) ?_
  refine lv_iload_n hx hb dJ7_fill_d0a16_6 rfl (lv_at hl 0 rfl) ?_
  refine lv_iload hx hb dJ7_fill_d0a16_7 (lv_at hl 1 rfl) ?_
  refine lv_icmp_ge (tgt := 22) hx hb dJ7_fill_d0a16_9 (by decide) (fun c9 => False.elim (by revert c9; decide +kernel)) (fun _ => ?_)
  refine lv_aload_n hx hb dJ7_fill_d0a16_12 rfl (lv_at hl 2 rfl) ?_
  refine lv_iload_n hx hb dJ7_fill_d0a16_13 rfl (lv_at hl 0 rfl) ?_
  refine lv_lload_n hx hb dJ7_fill_d0a16_14 rfl (lv_at hl 3 rfl) ?_
  refine xa_lastS hx hb hK hP hD hS 0 1 rfl rfl (by omega) (by decide) (by decide +kernel) dJ7_fill_d0a16_15 (fun H locs hP hD hS => ?_)
  refine lv_iinc (v := nI 18) (lv' := [(3, .int (nI 18)), (4, .int (nI 25)), (0, .ref (h 228)), (1, .long (0 : Int64))]) hx hb dJ7_fill_d0a16_16 hl (k := 0) rfl (by decide +kernel) (by decide) rfl (fun ls hl => ?_)
  refine lv_goto (tgt := 6) hx hb dJ7_fill_d0a16_19 (by decide) ?_
  refine lv_iload_n hx hb dJ7_fill_d0a16_6 rfl (lv_at hl 0 rfl) ?_
  refine lv_iload hx hb dJ7_fill_d0a16_7 (lv_at hl 1 rfl) ?_
  refine lv_icmp_ge (tgt := 22) hx hb dJ7_fill_d0a16_9 (by decide) (fun c9 => False.elim (by revert c9; decide +kernel)) (fun _ => ?_)
  refine lv_aload_n hx hb dJ7_fill_d0a16_12 rfl (lv_at hl 2 rfl) ?_
  refine lv_iload_n hx hb dJ7_fill_d0a16_13 rfl (lv_at hl 0 rfl) ?_
  refine lv_lload_n hx hb dJ7_fill_d0a16_14 rfl (lv_at hl 3 rfl) ?_
  refine xa_lastS hx hb hK hP hD hS 0 1 rfl rfl (by omega) (by decide) (by decide +kernel) dJ7_fill_d0a16_15 (fun H locs hP hD hS => ?_)
  refine lv_iinc (v := nI 19) (lv' := [(3, .int (nI 19)), (4, .int (nI 25)), (0, .ref (h 228)), (1, .long (0 : Int64))]) hx hb dJ7_fill_d0a16_16 hl (k := 0) rfl (by decide +kernel) (by decide) rfl (fun ls hl => ?_)
  refine lv_goto (tgt := 6) hx hb dJ7_fill_d0a16_19 (by decide) ?_
  refine lv_iload_n hx hb dJ7_fill_d0a16_6 rfl (lv_at hl 0 rfl) ?_
  refine lv_iload hx hb dJ7_fill_d0a16_7 (lv_at hl 1 rfl) ?_
  refine lv_icmp_ge (tgt := 22) hx hb dJ7_fill_d0a16_9 (by decide) (fun c9 => False.elim (by revert c9; decide +kernel)) (fun _ => ?_)
  refine lv_aload_n hx hb dJ7_fill_d0a16_12 rfl (lv_at hl 2 rfl) ?_
  refine lv_iload_n hx hb dJ7_fill_d0a16_13 rfl (lv_at hl 0 rfl) ?_
  refine lv_lload_n hx hb dJ7_fill_d0a16_14 rfl (lv_at hl 3 rfl) ?_
  refine xa_lastS hx hb hK hP hD hS 0 1 rfl rfl (by omega) (by decide) (by decide +kernel) dJ7_fill_d0a16_15 (fun H locs hP hD hS => ?_)
  refine lv_iinc (v := nI 20) (lv' := [(3, .int (nI 20)), (4, .int (nI 25)), (0, .ref (h 228)), (1, .long (0 : Int64))]) hx hb dJ7_fill_d0a16_16 hl (k := 0) rfl (by decide +kernel) (by decide) rfl (fun ls hl => ?_)
  refine lv_goto (tgt := 6) hx hb dJ7_fill_d0a16_19 (by decide) ?_
  refine lv_iload_n hx hb dJ7_fill_d0a16_6 rfl (lv_at hl 0 rfl) ?_
  refine lv_iload hx hb dJ7_fill_d0a16_7 (lv_at hl 1 rfl) ?_
  refine lv_icmp_ge (tgt := 22) hx hb dJ7_fill_d0a16_9 (by decide) (fun c9 => False.elim (by revert c9; decide +kernel)) (fun _ => ?_)
  refine lv_aload_n hx hb dJ7_fill_d0a16_12 rfl (lv_at hl 2 rfl) ?_
  refine lv_iload_n hx hb dJ7_fill_d0a16_13 rfl (lv_at hl 0 rfl) ?_
  refine lv_lload_n hx hb dJ7_fill_d0a16_14 rfl (lv_at hl 3 rfl) ?_
  refine xa_lastS hx hb hK hP hD hS 0 1 rfl rfl (by omega) (by decide) (by decide +kernel) dJ7_fill_d0a16_15 (fun H locs hP hD hS => ?_)
  refine lv_iinc (v := nI 21) (lv' := [(3, .int (nI 21)), (4, .int (nI 25)), (0, .ref (h 228)), (1, .long (0 : Int64))]) hx hb dJ7_fill_d0a16_16 hl (k := 0) rfl (by decide +kernel) (by decide) rfl (fun ls hl => ?_)
  refine lv_goto (tgt := 6) hx hb dJ7_fill_d0a16_19 (by decide) ?_
  refine lv_iload_n hx hb dJ7_fill_d0a16_6 rfl (lv_at hl 0 rfl) ?_
  refine lv_iload hx hb dJ7_fill_d0a16_7 (lv_at hl 1 rfl) ?_
  refine lv_icmp_ge (tgt := 22) hx hb dJ7_fill_d0a16_9 (by decide) (fun c9 => False.elim (by revert c9; decide +kernel)) (fun _ => ?_)
  refine lv_aload_n hx hb dJ7_fill_d0a16_12 rfl (lv_at hl 2 rfl) ?_
  refine lv_iload_n hx hb dJ7_fill_d0a16_13 rfl (lv_at hl 0 rfl) ?_
  refine lv_lload_n hx hb dJ7_fill_d0a16_14 rfl (lv_at hl 3 rfl) ?_
  refine xa_lastS hx hb hK hP hD hS 0 1 rfl rfl (by omega) (by decide) (by decide +kernel) dJ7_fill_d0a16_15 (fun H locs hP hD hS => ?_)
  refine lv_iinc (v := nI 22) (lv' := [(3, .int (nI 22)), (4, .int (nI 25)), (0, .ref (h 228)), (1, .long (0 : Int64))]) hx hb dJ7_fill_d0a16_16 hl (k := 0) rfl (by decide +kernel) (by decide) rfl (fun ls hl => ?_)
  refine lv_goto (tgt := 6) hx hb dJ7_fill_d0a16_19 (by decide) ?_
  refine lv_iload_n hx hb dJ7_fill_d0a16_6 rfl (lv_at hl 0 rfl) ?_
  refine lv_iload hx hb dJ7_fill_d0a16_7 (lv_at hl 1 rfl) ?_
  refine lv_icmp_ge (tgt := 22) hx hb dJ7_fill_d0a16_9 (by decide) (fun c9 => False.elim (by revert c9; decide +kernel)) (fun _ => ?_)
  refine lv_aload_n hx hb dJ7_fill_d0a16_12 rfl (lv_at hl 2 rfl) ?_
  refine lv_iload_n hx hb dJ7_fill_d0a16_13 rfl (lv_at hl 0 rfl) ?_
  refine lv_lload_n hx hb dJ7_fill_d0a16_14 rfl (lv_at hl 3 rfl) ?_
  refine xa_lastS hx hb hK hP hD hS 0 1 rfl rfl (by omega) (by decide) (by decide +kernel) dJ7_fill_d0a16_15 (fun H locs hP hD hS => ?_)
  refine lv_iinc (v := nI 23) (lv' := [(3, .int (nI 23)), (4, .int (nI 25)), (0, .ref (h 228)), (1, .long (0 : Int64))]) hx hb dJ7_fill_d0a16_16 hl (k := 0) rfl (by decide +kernel) (by decide) rfl (fun ls hl => ?_)
  refine lv_goto (tgt := 6) hx hb dJ7_fill_d0a16_19 (by decide) ?_
  refine lv_iload_n hx hb dJ7_fill_d0a16_6 rfl (lv_at hl 0 rfl) ?_
  refine lv_iload hx hb dJ7_fill_d0a16_7 (lv_at hl 1 rfl) ?_
  refine lv_icmp_ge (tgt := 22) hx hb dJ7_fill_d0a16_9 (by decide) (fun c9 => False.elim (by revert c9; decide +kernel)) (fun _ => ?_)
  refine lv_aload_n hx hb dJ7_fill_d0a16_12 rfl (lv_at hl 2 rfl) ?_
  refine lv_iload_n hx hb dJ7_fill_d0a16_13 rfl (lv_at hl 0 rfl) ?_
  refine lv_lload_n hx hb dJ7_fill_d0a16_14 rfl (lv_at hl 3 rfl) ?_
  refine xa_lastS hx hb hK hP hD hS 0 1 rfl rfl (by omega) (by decide) (by decide +kernel) dJ7_fill_d0a16_15 (fun H locs hP hD hS => ?_)
  refine lv_iinc (v := nI 24) (lv' := [(3, .int (nI 24)), (4, .int (nI 25)), (0, .ref (h 228)), (1, .long (0 : Int64))]) hx hb dJ7_fill_d0a16_16 hl (k := 0) rfl (by decide +kernel) (by decide) rfl (fun ls hl => ?_)
  refine lv_goto (tgt := 6) hx hb dJ7_fill_d0a16_19 (by decide) ?_
  refine lv_iload_n hx hb dJ7_fill_d0a16_6 rfl (lv_at hl 0 rfl) ?_
  refine lv_iload hx hb dJ7_fill_d0a16_7 (lv_at hl 1 rfl) ?_
  refine lv_icmp_ge (tgt := 22) hx hb dJ7_fill_d0a16_9 (by decide) (fun c9 => False.elim (by revert c9; decide +kernel)) (fun _ => ?_)
  refine lv_aload_n hx hb dJ7_fill_d0a16_12 rfl (lv_at hl 2 rfl) ?_
  refine lv_iload_n hx hb dJ7_fill_d0a16_13 rfl (lv_at hl 0 rfl) ?_
  refine lv_lload_n hx hb dJ7_fill_d0a16_14 rfl (lv_at hl 3 rfl) ?_
  refine xa_lastS hx hb hK hP hD hS 0 1 rfl rfl (by omega) (by decide) (by decide +kernel) dJ7_fill_d0a16_15 (fun H locs hP hD hS => ?_)
  refine lv_iinc (v := nI 25) (lv' := [(3, .int (nI 25)), (4, .int (nI 25)), (0, .ref (h 228)), (1, .long (0 : Int64))]) hx hb dJ7_fill_d0a16_16 hl (k := 0) rfl (by decide +kernel) (by decide) rfl (fun ls hl => ?_)
  refine lv_goto (tgt := 6) hx hb dJ7_fill_d0a16_19 (by decide) ?_
  refine lv_iload_n hx hb dJ7_fill_d0a16_6 rfl (lv_at hl 0 rfl) ?_
  refine lv_iload hx hb dJ7_fill_d0a16_7 (lv_at hl 1 rfl) ?_
  refine lv_icmp_ge (tgt := 22) hx hb dJ7_fill_d0a16_9 (by decide) (fun _ => ?_) (fun c9 => False.elim (by revert c9; decide +kernel))
  exact xr_v hx hb hr hlocks hK hS dJ7_fill_d0a16_22 (fI, fL, fA, fQ, fG, fJ) ⟨trivial, rfl⟩ hP hD
set_option maxRecDepth 20000 in
theorem ggX5_renew_J7_fill_d0a16 : GoodIn wsX5_renew wsJ7_fill_d0a16 := goodIn_r _ [7] (by decide +kernel) (by decide +kernel)
set_option maxRecDepth 20000 in
theorem gX5_renew_J7_fill_d0a16 : GoodIn wsX5_renew (va_wsS RX5 22 yJ7_fill_d0a16 wsJ7_fill_d0a16) := goodIn_app (goodIn_of _ (by decide +kernel)) ggX5_renew_J7_fill_d0a16
theorem dX5_renew_0 : decode cX5_renew 0 = .ok (.aload_n 0, 1) := by decide +kernel
theorem dX5_renew_1 : decode cX5_renew 1 = .ok (.iload_n 1, 1) := by decide +kernel
theorem dX5_renew_2 : decode cX5_renew 2 = .ok (.putfield 11, 3) := by decide +kernel
theorem dX5_renew_5 : decode cX5_renew 5 = .ok (.aload_n 0, 1) := by decide +kernel
theorem dX5_renew_6 : decode cX5_renew 6 = .ok (.iload_n 2, 1) := by decide +kernel
theorem dX5_renew_7 : decode cX5_renew 7 = .ok (.putfield 15, 3) := by decide +kernel
theorem dX5_renew_10 : decode cX5_renew 10 = .ok (.aload_n 0, 1) := by decide +kernel
theorem dX5_renew_11 : decode cX5_renew 11 = .ok (.getfield 18, 3) := by decide +kernel
theorem dX5_renew_14 : decode cX5_renew 14 = .ok (.lconst 0, 1) := by decide +kernel
theorem dX5_renew_15 : decode cX5_renew 15 = .ok (.invokestatic 22, 3) := by decide +kernel
theorem dX5_renew_18 : decode cX5_renew 18 = .ok (.return_, 1) := by decide +kernel
set_option maxHeartbeats 4000000 in
set_option maxRecDepth 100000 in
theorem f_X5_renew0 (l : Launch) (dC : Nat → ClassId) (dI : Nat → Nat → Nat) (h : Nat → Nat) (cs : Nat → ClassId) (sz : Nat) (I : Nat → Int32) (L : Nat → Int64) (A : Nat → Nat → Int32) (Q : Nat → Nat → Int64) (G : Nat → Nat → Nat → Int32) (J : Nat → Nat → Nat → Int64) (y z : Int32) : Met l yX5_renew wsX5_renew ({ frames := 1, cells := 0, slots := 0, locals := 24 }) (va_Pc [.ref (h 110), .int y, .int z] (xPre (dC, dI) (wSh0 h cs fI fL fA fQ fG fJ) (tysA cs) sz)) (va_Qv (fun (u : CS) => ∃ zi9 : Nat → Int32, (True) ∧ u = (zi9, fL, fA, fQ, fG, fJ)) (xB (dC, dI) (tysA cs) (va_A (wSh0 h cs fI fL fA fQ fG fJ) sz) (fun u : CS => wSh0 h cs u.1 u.2.1 u.2.2.1 u.2.2.2.1 u.2.2.2.2.1 u.2.2.2.2.2)) (va_A (wSh0 h cs fI fL fA fQ fG fJ) sz)) 0 0 (va_A (wSh0 h cs fI fL fA fQ fG fJ) sz) := by
  refine Met.ofW (cc := cX5_renew) (maxL := 3) (ret := none) (by decide) rfl ?_
  intro p e s m args below meth c s₁ B hml hv
  obtain ⟨rfl, hsz, hP, hK, hD0, hN⟩ := hv
  have hx := B.exec
  have hb := B.bytes
  have hr := B.returns
  have hts := atoms_spec (ws := wsX5_renew) B.pre
  have hown : s.vm.findClass RX5 = some m.cls := findClass_of_methodNamed B.named
  have hlocks := B.notSynchronized
  subst hsz
  have hD := hD0.self (sz := s.heap.size)
  generalize hAe : va_A (wSh0 h cs fI fL fA fQ fG fJ) s.heap.size = A0 at hD ⊢
  have hA : ∀ q : Nat, s.heap.size ≤ q → A0 q := fun q h => by rw [← hAe]; exact Or.inr h
  have hl := lv_entry ([.ref (h 110), .int y, .int z]) (n := 3) (Nat.le_of_ble_eq_true rfl)
  rw [lg_entry_eq]
  generalize (lg_sl ([.ref (h 110), .int y, .int z]) ++ List.replicate (3 - (lg_sl ([.ref (h 110), .int y, .int z])).length) Slot.unset).toArray = ls at hl ⊢
  have hl : lv_has ls 3 [(0, .ref (h 110)), (1, .int y), (2, .int z)] := hl
  generalize hH : s.heap = H at hP ⊢
  have hS : va_S A0 s.heap H [] := by rw [← hH]; exact va_S.rf
  have hinX5 : ∀ w ∈ wsX50, w ∈ wsX5_renew := by decide +kernel
  refine lv_aload_n hx hb dX5_renew_0 rfl (lv_at hl 0 rfl) ?_
  refine lv_iload_n hx hb dX5_renew_1 rfl (lv_at hl 1 rfl) ?_
  refine va_put (D := (dC, dI)) (ci := 5) (v := .int y) (ty := .int) (C := RX5) (T := TX5) (N := 3) hx hb hts hinX5 tyX5 tyX5_ok nmX5 hown hK hP hD hS 0 rfl rfl 0 (by decide) (hts (.fieldLink RX5 11 "MixedWords$Sheet" "lane" "I") (by decide +kernel)) (fun _ h9 => h9) rfl (by decide +kernel) rfl rfl (Nat.le_of_ble_eq_true rfl) dX5_renew_2 (fun H locs hP hD hS => ?_)
  have hP : va_P (dC, dI) vwCl (wSh0 h cs (va_up fI 220 y) fL fA fQ fG fJ) H := hP
  have hD : va_D A0 (wSh0 h cs (va_up fI 220 y) fL fA fQ fG fJ) := hD
  refine lv_aload_n hx hb dX5_renew_5 rfl (lv_at hl 0 rfl) ?_
  refine lv_iload_n hx hb dX5_renew_6 rfl (lv_at hl 2 rfl) ?_
  refine va_put (D := (dC, dI)) (ci := 5) (v := .int z) (ty := .int) (C := RX5) (T := TX5) (N := 3) hx hb hts hinX5 tyX5 tyX5_ok nmX5 hown hK hP hD hS 0 rfl rfl 1 (by decide) (hts (.fieldLink RX5 15 "MixedWords$Sheet" "length" "I") (by decide +kernel)) (fun _ h9 => h9) rfl (by decide +kernel) rfl rfl (Nat.le_of_ble_eq_true rfl) dX5_renew_7 (fun H locs hP hD hS => ?_)
  have hP : va_P (dC, dI) vwCl (wSh0 h cs (va_up (va_up fI 220 y) 224 z) fL fA fQ fG fJ) H := hP
  have hD : va_D A0 (wSh0 h cs (va_up (va_up fI 220 y) 224 z) fL fA fQ fG fJ) := hD
  refine lv_aload_n hx hb dX5_renew_10 rfl (lv_at hl 0 rfl) ?_
  refine va_get (D := (dC, dI)) (ci := 5) (v := .ref (h 228)) (C := RX5) (T := TX5) (N := 3) hx hb hts hinX5 hown hK hP 0 rfl rfl 2 (by decide) (hts (.fieldLink RX5 18 "MixedWords$Sheet" "items" "[J") (by decide +kernel)) (fun _ h9 => h9) rfl dX5_renew_11 ?_
  refine lv_lconst (v := 0) hx hb dX5_renew_14 rfl ?_
  refine xj_v (wc := (wD_158 h cs fI fL fA fQ fG fJ)) (wr := [(h 110, .inr (5, [.int (y), .int (z), .ref (h 228)]))]) hP hD hS hA [1] [0] rfl rfl (by decide) (by decide) (va_runS (As := [.ref (h 228), .long (0 : Int64)]) (rest := []) ⟨hx, hb, hml, hown, hts⟩ (a_J7_fill_d0a16_159 l dC dI h cs H.size fI fL fA fQ fG fJ ) (va_cwS 2 hts gX5_renew_J7_fill_d0a16 rfl rfl rfl (by decide +kernel) ⟨Nat.le_of_ble_eq_true rfl, Nat.le_of_ble_eq_true rfl⟩) (xpS (wc := (wD_158 h cs fI fL fA fQ fG fJ)) hP hD hK hN [1] rfl (by decide) _) rfl rfl hl.1 rfl (lv_room (Nat.le_of_ble_eq_true rfl)) dX5_renew_15 ⟨Nat.zero_le _, Nat.zero_le _⟩) (fun u_1 H locs hw hP hD hS => ?_)
  obtain ⟨hf_3, rfl⟩ := hw
  have hP : va_P (dC, dI) vwCl (wSh0 h cs (va_up (va_up fI 220 y) 224 z) fL fA fQ fG fJ) H := hP
  have hD : va_D A0 (wSh0 h cs (va_up (va_up fI 220 y) 224 z) fL fA fQ fG fJ) := hD
  exact xr_v hx hb hr hlocks hK hS dX5_renew_18 ((va_up (va_up fI 220 y) 224 z), fL, fA, fQ, fG, fJ) ⟨(va_up (va_up fI 220 y) 224 z), trivial, rfl⟩ hP hD
def wSh1 (h : Nat → Nat) (cs : Nat → ClassId) (I : Nat → Int32) (L : Nat → Int64) (A : Nat → Nat → Int32) (Q : Nat → Nat → Int64) (G : Nat → Nat → Nat → Int32) (J : Nat → Nat → Nat → Int64) : va_W := [(h 111, .inr (5, [.int (I 221), .int (I 225), .ref (h 229)])), (h 229, .inl (cs 1, 25, .inr (.inl (Q 229))))]
def wD_160 (h : Nat → Nat) (cs : Nat → ClassId) (I : Nat → Int32) (L : Nat → Int64) (A : Nat → Nat → Int32) (Q : Nat → Nat → Int64) (G : Nat → Nat → Nat → Int32) (J : Nat → Nat → Nat → Int64) : va_W := [(h 229, .inl (cs 1, 25, .inr (.inl (Q 229))))]
set_option maxHeartbeats 4000000 in
set_option maxRecDepth 100000 in
theorem a_J7_fill_d0a16_161 (l : Launch) (dC : Nat → ClassId) (dI : Nat → Nat → Nat) (h : Nat → Nat) (cs : Nat → ClassId) (sz : Nat) (I : Nat → Int32) (L : Nat → Int64) (A : Nat → Nat → Int32) (Q : Nat → Nat → Int64) (G : Nat → Nat → Nat → Int32) (J : Nat → Nat → Nat → Int64) : Met l yJ7_fill_d0a16 wsJ7_fill_d0a16 ({ frames := 0, cells := 0, slots := 0, locals := 0 }) (va_Pc [.ref (h 229), .long (0 : Int64)] (xPre (dC, dI) (wD_160 h cs fI fL fA fQ fG fJ) (tysA cs) sz)) (va_Qv (fun (u : CS) => (True) ∧ u = (fI, fL, fA, fQ, fG, fJ)) (xB (dC, dI) (tysA cs) (va_A (wD_160 h cs fI fL fA fQ fG fJ) sz) (fun u : CS => wD_160 h cs u.1 u.2.1 u.2.2.1 u.2.2.2.1 u.2.2.2.2.1 u.2.2.2.2.2)) (va_A (wD_160 h cs fI fL fA fQ fG fJ) sz)) 0 0 (va_A (wD_160 h cs fI fL fA fQ fG fJ) sz) := by
  refine Met.ofW (cc := cJ7_fill_d0a16) (maxL := 5) (ret := none) (by decide) rfl ?_
  intro p e s m args below meth c s₁ B hml hv
  obtain ⟨rfl, hsz, hP, hK, hD0, hN⟩ := hv
  have hx := B.exec
  have hb := B.bytes
  have hr := B.returns
  have hts := atoms_spec (ws := wsJ7_fill_d0a16) B.pre
  have hown : s.vm.findClass RJ7 = some m.cls := findClass_of_methodNamed B.named
  have hlocks := B.notSynchronized
  subst hsz
  have hD := hD0.self (sz := s.heap.size)
  generalize hAe : va_A (wD_160 h cs fI fL fA fQ fG fJ) s.heap.size = A0 at hD ⊢
  have hA : ∀ q : Nat, s.heap.size ≤ q → A0 q := fun q h => by rw [← hAe]; exact Or.inr h
  have hl := lv_entry ([.ref (h 229), .long (0 : Int64)]) (n := 5) (Nat.le_of_ble_eq_true rfl)
  rw [lg_entry_eq]
  generalize (lg_sl ([.ref (h 229), .long (0 : Int64)]) ++ List.replicate (5 - (lg_sl ([.ref (h 229), .long (0 : Int64)])).length) Slot.unset).toArray = ls at hl ⊢
  have hl : lv_has ls 5 [(0, .ref (h 229)), (1, .long (0 : Int64))] := hl
  generalize hH : s.heap = H at hP ⊢
  have hS : va_S A0 s.heap H [] := by rw [← hH]; exact va_S.rf
  refine lv_iconst (v := nI 0) hx hb dJ7_fill_d0a16_0 (by decide) ?_
  refine lv_istore_n (lv' := [(3, .int (nI 0)), (0, .ref (h 229)), (1, .long (0 : Int64))]) hx hb dJ7_fill_d0a16_1 rfl hl (by decide) rfl (fun ls hl => ?_)
  refine lv_aload_n hx hb dJ7_fill_d0a16_2 rfl (lv_at hl 1 rfl) ?_
  refine xa_alen hx hb hK hP 0 1 rfl rfl (n := 25) rfl dJ7_fill_d0a16_3 ?_
  refine lv_istore (lv' := [(4, .int (nI 25)), (3, .int (nI 0)), (0, .ref (h 229)), (1, .long (0 : Int64))]) hx hb dJ7_fill_d0a16_4 hl (by decide) rfl (fun ls hl => ?_)
  refine lv_iload_n hx hb dJ7_fill_d0a16_6 rfl (lv_at hl 1 rfl) ?_
  refine lv_iload hx hb dJ7_fill_d0a16_7 (lv_at hl 0 rfl) ?_
  refine lv_icmp_ge (tgt := 22) hx hb dJ7_fill_d0a16_9 (by decide) (fun c9 => False.elim (by revert c9; decide +kernel)) (fun _ => ?_)
  refine lv_aload_n hx hb dJ7_fill_d0a16_12 rfl (lv_at hl 2 rfl) ?_
  refine lv_iload_n hx hb dJ7_fill_d0a16_13 rfl (lv_at hl 1 rfl) ?_
  refine lv_lload_n hx hb dJ7_fill_d0a16_14 rfl (lv_at hl 3 rfl) ?_
  refine xa_lastS hx hb hK hP hD hS 0 1 rfl rfl (by omega) (by decide) (by decide +kernel) dJ7_fill_d0a16_15 (fun H locs hP hD hS => ?_)
  refine lv_iinc (v := nI 1) (lv' := [(3, .int (nI 1)), (4, .int (nI 25)), (0, .ref (h 229)), (1, .long (0 : Int64))]) hx hb dJ7_fill_d0a16_16 hl (k := 1) rfl (by decide +kernel) (by decide) rfl (fun ls hl => ?_)
  refine lv_goto (tgt := 6) hx hb dJ7_fill_d0a16_19 (by decide) ?_
  refine lv_iload_n hx hb dJ7_fill_d0a16_6 rfl (lv_at hl 0 rfl) ?_
  refine lv_iload hx hb dJ7_fill_d0a16_7 (lv_at hl 1 rfl) ?_
  refine lv_icmp_ge (tgt := 22) hx hb dJ7_fill_d0a16_9 (by decide) (fun c9 => False.elim (by revert c9; decide +kernel)) (fun _ => ?_)
  refine lv_aload_n hx hb dJ7_fill_d0a16_12 rfl (lv_at hl 2 rfl) ?_
  refine lv_iload_n hx hb dJ7_fill_d0a16_13 rfl (lv_at hl 0 rfl) ?_
  refine lv_lload_n hx hb dJ7_fill_d0a16_14 rfl (lv_at hl 3 rfl) ?_
  refine xa_lastS hx hb hK hP hD hS 0 1 rfl rfl (by omega) (by decide) (by decide +kernel) dJ7_fill_d0a16_15 (fun H locs hP hD hS => ?_)
  refine lv_iinc (v := nI 2) (lv' := [(3, .int (nI 2)), (4, .int (nI 25)), (0, .ref (h 229)), (1, .long (0 : Int64))]) hx hb dJ7_fill_d0a16_16 hl (k := 0) rfl (by decide +kernel) (by decide) rfl (fun ls hl => ?_)
  refine lv_goto (tgt := 6) hx hb dJ7_fill_d0a16_19 (by decide) ?_
  refine lv_iload_n hx hb dJ7_fill_d0a16_6 rfl (lv_at hl 0 rfl) ?_
  refine lv_iload hx hb dJ7_fill_d0a16_7 (lv_at hl 1 rfl) ?_
  refine lv_icmp_ge (tgt := 22) hx hb dJ7_fill_d0a16_9 (by decide) (fun c9 => False.elim (by revert c9; decide +kernel)) (fun _ => ?_)
  refine lv_aload_n hx hb dJ7_fill_d0a16_12 rfl (lv_at hl 2 rfl) ?_
  refine lv_iload_n hx hb dJ7_fill_d0a16_13 rfl (lv_at hl 0 rfl) ?_
  refine lv_lload_n hx hb dJ7_fill_d0a16_14 rfl (lv_at hl 3 rfl) ?_
  refine xa_lastS hx hb hK hP hD hS 0 1 rfl rfl (by omega) (by decide) (by decide +kernel) dJ7_fill_d0a16_15 (fun H locs hP hD hS => ?_)
  refine lv_iinc (v := nI 3) (lv' := [(3, .int (nI 3)), (4, .int (nI 25)), (0, .ref (h 229)), (1, .long (0 : Int64))]) hx hb dJ7_fill_d0a16_16 hl (k := 0) rfl (by decide +kernel) (by decide) rfl (fun ls hl => ?_)
  refine lv_goto (tgt := 6) hx hb dJ7_fill_d0a16_19 (by decide) ?_
  refine lv_iload_n hx hb dJ7_fill_d0a16_6 rfl (lv_at hl 0 rfl) ?_
  refine lv_iload hx hb dJ7_fill_d0a16_7 (lv_at hl 1 rfl) ?_
  refine lv_icmp_ge (tgt := 22) hx hb dJ7_fill_d0a16_9 (by decide) (fun c9 => False.elim (by revert c9; decide +kernel)) (fun _ => ?_)
  refine lv_aload_n hx hb dJ7_fill_d0a16_12 rfl (lv_at hl 2 rfl) ?_
  refine lv_iload_n hx hb dJ7_fill_d0a16_13 rfl (lv_at hl 0 rfl) ?_
  refine lv_lload_n hx hb dJ7_fill_d0a16_14 rfl (lv_at hl 3 rfl) ?_
  refine xa_lastS hx hb hK hP hD hS 0 1 rfl rfl (by omega) (by decide) (by decide +kernel) dJ7_fill_d0a16_15 (fun H locs hP hD hS => ?_)
  refine lv_iinc (v := nI 4) (lv' := [(3, .int (nI 4)), (4, .int (nI 25)), (0, .ref (h 229)), (1, .long (0 : Int64))]) hx hb dJ7_fill_d0a16_16 hl (k := 0) rfl (by decide +kernel) (by decide) rfl (fun ls hl => ?_)
  refine lv_goto (tgt := 6) hx hb dJ7_fill_d0a16_19 (by decide) ?_
  refine lv_iload_n hx hb dJ7_fill_d0a16_6 rfl (lv_at hl 0 rfl) ?_
  refine lv_iload hx hb dJ7_fill_d0a16_7 (lv_at hl 1 rfl) ?_
  refine lv_icmp_ge (tgt := 22) hx hb dJ7_fill_d0a16_9 (by decide) (fun c9 => False.elim (by revert c9; decide +kernel)) (fun _ => ?_)
  refine lv_aload_n hx hb dJ7_fill_d0a16_12 rfl (lv_at hl 2 rfl) ?_
  refine lv_iload_n hx hb dJ7_fill_d0a16_13 rfl (lv_at hl 0 rfl) ?_
  refine lv_lload_n hx hb dJ7_fill_d0a16_14 rfl (lv_at hl 3 rfl) ?_
  refine xa_lastS hx hb hK hP hD hS 0 1 rfl rfl (by omega) (by decide) (by decide +kernel) dJ7_fill_d0a16_15 (fun H locs hP hD hS => ?_)
  refine lv_iinc (v := nI 5) (lv' := [(3, .int (nI 5)), (4, .int (nI 25)), (0, .ref (h 229)), (1, .long (0 : Int64))]) hx hb dJ7_fill_d0a16_16 hl (k := 0) rfl (by decide +kernel) (by decide) rfl (fun ls hl => ?_)
  refine lv_goto (tgt := 6) hx hb dJ7_fill_d0a16_19 (by decide) ?_
  refine lv_iload_n hx hb dJ7_fill_d0a16_6 rfl (lv_at hl 0 rfl) ?_
  refine lv_iload hx hb dJ7_fill_d0a16_7 (lv_at hl 1 rfl) ?_
  refine lv_icmp_ge (tgt := 22) hx hb dJ7_fill_d0a16_9 (by decide) (fun c9 => False.elim (by revert c9; decide +kernel)) (fun _ => ?_)
  refine lv_aload_n hx hb dJ7_fill_d0a16_12 rfl (lv_at hl 2 rfl) ?_
  refine lv_iload_n hx hb dJ7_fill_d0a16_13 rfl (lv_at hl 0 rfl) ?_
  refine lv_lload_n hx hb dJ7_fill_d0a16_14 rfl (lv_at hl 3 rfl) ?_
  refine xa_lastS hx hb hK hP hD hS 0 1 rfl rfl (by omega) (by decide) (by decide +kernel) dJ7_fill_d0a16_15 (fun H locs hP hD hS => ?_)
  refine lv_iinc (v := nI 6) (lv' := [(3, .int (nI 6)), (4, .int (nI 25)), (0, .ref (h 229)), (1, .long (0 : Int64))]) hx hb dJ7_fill_d0a16_16 hl (k := 0) rfl (by decide +kernel) (by decide) rfl (fun ls hl => ?_)
  refine lv_goto (tgt := 6) hx hb dJ7_fill_d0a16_19 (by decide) ?_
  refine lv_iload_n hx hb dJ7_fill_d0a16_6 rfl (lv_at hl 0 rfl) ?_
  refine lv_iload hx hb dJ7_fill_d0a16_7 (lv_at hl 1 rfl) ?_
  refine lv_icmp_ge (tgt := 22) hx hb dJ7_fill_d0a16_9 (by decide) (fun c9 => False.elim (by revert c9; decide +kernel)) (fun _ => ?_)
  refine lv_aload_n hx hb dJ7_fill_d0a16_12 rfl (lv_at hl 2 rfl) ?_
  refine lv_iload_n hx hb dJ7_fill_d0a16_13 rfl (lv_at hl 0 rfl) ?_
  refine lv_lload_n hx hb dJ7_fill_d0a16_14 rfl (lv_at hl 3 rfl) ?_
  refine xa_lastS hx hb hK hP hD hS 0 1 rfl rfl (by omega) (by decide) (by decide +kernel) dJ7_fill_d0a16_15 (fun H locs hP hD hS => ?_)
  refine lv_iinc (v := nI 7) (lv' := [(3, .int (nI 7)), (4, .int (nI 25)), (0, .ref (h 229)), (1, .long (0 : Int64))]) hx hb dJ7_fill_d0a16_16 hl (k := 0) rfl (by decide +kernel) (by decide) rfl (fun ls hl => ?_)
  refine lv_goto (tgt := 6) hx hb dJ7_fill_d0a16_19 (by decide) ?_
  refine lv_iload_n hx hb dJ7_fill_d0a16_6 rfl (lv_at hl 0 rfl) ?_
  refine lv_iload hx hb dJ7_fill_d0a16_7 (lv_at hl 1 rfl) ?_
  refine lv_icmp_ge (tgt := 22) hx hb dJ7_fill_d0a16_9 (by decide) (fun c9 => False.elim (by revert c9; decide +kernel)) (fun _ => ?_)
  refine lv_aload_n hx hb dJ7_fill_d0a16_12 rfl (lv_at hl 2 rfl) ?_
  refine lv_iload_n hx hb dJ7_fill_d0a16_13 rfl (lv_at hl 0 rfl) ?_
  refine lv_lload_n hx hb dJ7_fill_d0a16_14 rfl (lv_at hl 3 rfl) ?_
  refine xa_lastS hx hb hK hP hD hS 0 1 rfl rfl (by omega) (by decide) (by decide +kernel) dJ7_fill_d0a16_15 (fun H locs hP hD hS => ?_)
  refine lv_iinc (v := nI 8) (lv' := [(3, .int (nI 8)), (4, .int (nI 25)), (0, .ref (h 229)), (1, .long (0 : Int64))]) hx hb dJ7_fill_d0a16_16 hl (k := 0) rfl (by decide +kernel) (by decide) rfl (fun ls hl => ?_)
  refine lv_goto (tgt := 6) hx hb dJ7_fill_d0a16_19 (by decide) ?_
  refine lv_iload_n hx hb dJ7_fill_d0a16_6 rfl (lv_at hl 0 rfl) ?_
  refine lv_iload hx hb dJ7_fill_d0a16_7 (lv_at hl 1 rfl) ?_
  refine lv_icmp_ge (tgt := 22) hx hb dJ7_fill_d0a16_9 (by decide) (fun c9 => False.elim (by revert c9; decide +kernel)) (fun _ => ?_)
  refine lv_aload_n hx hb dJ7_fill_d0a16_12 rfl (lv_at hl 2 rfl) ?_
  refine lv_iload_n hx hb dJ7_fill_d0a16_13 rfl (lv_at hl 0 rfl) ?_
  refine lv_lload_n hx hb dJ7_fill_d0a16_14 rfl (lv_at hl 3 rfl) ?_
  refine xa_lastS hx hb hK hP hD hS 0 1 rfl rfl (by omega) (by decide) (by decide +kernel) dJ7_fill_d0a16_15 (fun H locs hP hD hS => ?_)
  refine lv_iinc (v := nI 9) (lv' := [(3, .int (nI 9)), (4, .int (nI 25)), (0, .ref (h 229)), (1, .long (0 : Int64))]) hx hb dJ7_fill_d0a16_16 hl (k := 0) rfl (by decide +kernel) (by decide) rfl (fun ls hl => ?_)
  refine lv_goto (tgt := 6) hx hb dJ7_fill_d0a16_19 (by decide) ?_
  refine lv_iload_n hx hb dJ7_fill_d0a16_6 rfl (lv_at hl 0 rfl) ?_
  refine lv_iload hx hb dJ7_fill_d0a16_7 (lv_at hl 1 rfl) ?_
  refine lv_icmp_ge (tgt := 22) hx hb dJ7_fill_d0a16_9 (by decide) (fun c9 => False.elim (by revert c9; decide +kernel)) (fun _ => ?_)
  refine lv_aload_n hx hb dJ7_fill_d0a16_12 rfl (lv_at hl 2 rfl) ?_
  refine lv_iload_n hx hb dJ7_fill_d0a16_13 rfl (lv_at hl 0 rfl) ?_
  refine lv_lload_n hx hb dJ7_fill_d0a16_14 rfl (lv_at hl 3 rfl) ?_
  refine xa_lastS hx hb hK hP hD hS 0 1 rfl rfl (by omega) (by decide) (by decide +kernel) dJ7_fill_d0a16_15 (fun H locs hP hD hS => ?_)
  refine lv_iinc (v := nI 10) (lv' := [(3, .int (nI 10)), (4, .int (nI 25)), (0, .ref (h 229)), (1, .long (0 : Int64))]) hx hb dJ7_fill_d0a16_16 hl (k := 0) rfl (by decide +kernel) (by decide) rfl (fun ls hl => ?_)
  refine lv_goto (tgt := 6) hx hb dJ7_fill_d0a16_19 (by decide) ?_
  refine lv_iload_n hx hb dJ7_fill_d0a16_6 rfl (lv_at hl 0 rfl) ?_
  refine lv_iload hx hb dJ7_fill_d0a16_7 (lv_at hl 1 rfl) ?_
  refine lv_icmp_ge (tgt := 22) hx hb dJ7_fill_d0a16_9 (by decide) (fun c9 => False.elim (by revert c9; decide +kernel)) (fun _ => ?_)
  refine lv_aload_n hx hb dJ7_fill_d0a16_12 rfl (lv_at hl 2 rfl) ?_
  refine lv_iload_n hx hb dJ7_fill_d0a16_13 rfl (lv_at hl 0 rfl) ?_
  refine lv_lload_n hx hb dJ7_fill_d0a16_14 rfl (lv_at hl 3 rfl) ?_
  refine xa_lastS hx hb hK hP hD hS 0 1 rfl rfl (by omega) (by decide) (by decide +kernel) dJ7_fill_d0a16_15 (fun H locs hP hD hS => ?_)
  refine lv_iinc (v := nI 11) (lv' := [(3, .int (nI 11)), (4, .int (nI 25)), (0, .ref (h 229)), (1, .long (0 : Int64))]) hx hb dJ7_fill_d0a16_16 hl (k := 0) rfl (by decide +kernel) (by decide) rfl (fun ls hl => ?_)
  refine lv_goto (tgt := 6) hx hb dJ7_fill_d0a16_19 (by decide) ?_
  refine lv_iload_n hx hb dJ7_fill_d0a16_6 rfl (lv_at hl 0 rfl) ?_
  refine lv_iload hx hb dJ7_fill_d0a16_7 (lv_at hl 1 rfl) ?_
  refine lv_icmp_ge (tgt := 22) hx hb dJ7_fill_d0a16_9 (by decide) (fun c9 => False.elim (by revert c9; decide +kernel)) (fun _ => ?_)
  refine lv_aload_n hx hb dJ7_fill_d0a16_12 rfl (lv_at hl 2 rfl) ?_
  refine lv_iload_n hx hb dJ7_fill_d0a16_13 rfl (lv_at hl 0 rfl) ?_
  refine lv_lload_n hx hb dJ7_fill_d0a16_14 rfl (lv_at hl 3 rfl) ?_
  refine xa_lastS hx hb hK hP hD hS 0 1 rfl rfl (by omega) (by decide) (by decide +kernel) dJ7_fill_d0a16_15 (fun H locs hP hD hS => ?_)
  refine lv_iinc (v := nI 12) (lv' := [(3, .int (nI 12)), (4, .int (nI 25)), (0, .ref (h 229)), (1, .long (0 : Int64))]) hx hb dJ7_fill_d0a16_16 hl (k := 0) rfl (by decide +kernel) (by decide) rfl (fun ls hl => ?_)
  refine lv_goto (tgt := 6) hx hb dJ7_fill_d0a16_19 (by decide) ?_
  refine lv_iload_n hx hb dJ7_fill_d0a16_6 rfl (lv_at hl 0 rfl) ?_
  refine lv_iload hx hb dJ7_fill_d0a16_7 (lv_at hl 1 rfl) ?_
  refine lv_icmp_ge (tgt := 22) hx hb dJ7_fill_d0a16_9 (by decide) (fun c9 => False.elim (by revert c9; decide +kernel)) (fun _ => ?_)
  refine lv_aload_n hx hb dJ7_fill_d0a16_12 rfl (lv_at hl 2 rfl) ?_
  refine lv_iload_n hx hb dJ7_fill_d0a16_13 rfl (lv_at hl 0 rfl) ?_
  refine lv_lload_n hx hb dJ7_fill_d0a16_14 rfl (lv_at hl 3 rfl) ?_
  refine xa_lastS hx hb hK hP hD hS 0 1 rfl rfl (by omega) (by decide) (by decide +kernel) dJ7_fill_d0a16_15 (fun H locs hP hD hS => ?_)
  refine lv_iinc (v := nI 13) (lv' := [(3, .int (nI 13)), (4, .int (nI 25)), (0, .ref (h 229)), (1, .long (0 : Int64))]) hx hb dJ7_fill_d0a16_16 hl (k := 0) rfl (by decide +kernel) (by decide) rfl (fun ls hl => ?_)
  refine lv_goto (tgt := 6) hx hb dJ7_fill_d0a16_19 (by decide) ?_
  refine lv_iload_n hx hb dJ7_fill_d0a16_6 rfl (lv_at hl 0 rfl) ?_
  refine lv_iload hx hb dJ7_fill_d0a16_7 (lv_at hl 1 rfl) ?_
  refine lv_icmp_ge (tgt := 22) hx hb dJ7_fill_d0a16_9 (by decide) (fun c9 => False.elim (by revert c9; decide +kernel)) (fun _ => ?_)
  refine lv_aload_n hx hb dJ7_fill_d0a16_12 rfl (lv_at hl 2 rfl) ?_
  refine lv_iload_n hx hb dJ7_fill_d0a16_13 rfl (lv_at hl 0 rfl) ?_
  refine lv_lload_n hx hb dJ7_fill_d0a16_14 rfl (lv_at hl 3 rfl) ?_
  refine xa_lastS hx hb hK hP hD hS 0 1 rfl rfl (by omega) (by decide) (by decide +kernel) dJ7_fill_d0a16_15 (fun H locs hP hD hS => ?_)
  refine lv_iinc (v := nI 14) (lv' := [(3, .int (nI 14)), (4, .int (nI 25)), (0, .ref (h 229)), (1, .long (0 : Int64))]) hx hb dJ7_fill_d0a16_16 hl (k := 0) rfl (by decide +kernel) (by decide) rfl (fun ls hl => ?_)
  refine lv_goto (tgt := 6) hx hb dJ7_fill_d0a16_19 (by decide) ?_
  refine lv_iload_n hx hb dJ7_fill_d0a16_6 rfl (lv_at hl 0 rfl) ?_
  refine lv_iload hx hb dJ7_fill_d0a16_7 (lv_at hl 1 rfl) ?_
  refine lv_icmp_ge (tgt := 22) hx hb dJ7_fill_d0a16_9 (by decide) (fun c9 => False.elim (by revert c9; decide +kernel)) (fun _ => ?_)
  refine lv_aload_n hx hb dJ7_fill_d0a16_12 rfl (lv_at hl 2 rfl) ?_
  refine lv_iload_n hx hb dJ7_fill_d0a16_13 rfl (lv_at hl 0 rfl) ?_
  refine lv_lload_n hx hb dJ7_fill_d0a16_14 rfl (lv_at hl 3 rfl) ?_
  refine xa_lastS hx hb hK hP hD hS 0 1 rfl rfl (by omega) (by decide) (by decide +kernel) dJ7_fill_d0a16_15 (fun H locs hP hD hS => ?_)
  refine lv_iinc (v := nI 15) (lv' := [(3, .int (nI 15)), (4, .int (nI 25)), (0, .ref (h 229)), (1, .long (0 : Int64))]) hx hb dJ7_fill_d0a16_16 hl (k := 0) rfl (by decide +kernel) (by decide) rfl (fun ls hl => ?_)
  refine lv_goto (tgt := 6) hx hb dJ7_fill_d0a16_19 (by decide) ?_
  refine lv_iload_n hx hb dJ7_fill_d0a16_6 rfl (lv_at hl 0 rfl) ?_
  refine lv_iload hx hb dJ7_fill_d0a16_7 (lv_at hl 1 rfl) ?_
  refine lv_icmp_ge (tgt := 22) hx hb dJ7_fill_d0a16_9 (by decide) (fun c9 => False.elim (by revert c9; decide +kernel)) (fun _ => ?_)
  refine lv_aload_n hx hb dJ7_fill_d0a16_12 rfl (lv_at hl 2 rfl) ?_
  refine lv_iload_n hx hb dJ7_fill_d0a16_13 rfl (lv_at hl 0 rfl) ?_
  refine lv_lload_n hx hb dJ7_fill_d0a16_14 rfl (lv_at hl 3 rfl) ?_
  refine xa_lastS hx hb hK hP hD hS 0 1 rfl rfl (by omega) (by decide) (by decide +kernel) dJ7_fill_d0a16_15 (fun H locs hP hD hS => ?_)
  refine lv_iinc (v := nI 16) (lv' := [(3, .int (nI 16)), (4, .int (nI 25)), (0, .ref (h 229)), (1, .long (0 : Int64))]) hx hb dJ7_fill_d0a16_16 hl (k := 0) rfl (by decide +kernel) (by decide) rfl (fun ls hl => ?_)
  refine lv_goto (tgt := 6) hx hb dJ7_fill_d0a16_19 (by decide) ?_
  refine lv_iload_n hx hb dJ7_fill_d0a16_6 rfl (lv_at hl 0 rfl) ?_
  refine lv_iload hx hb dJ7_fill_d0a16_7 (lv_at hl 1 rfl) ?_
  refine lv_icmp_ge (tgt := 22) hx hb dJ7_fill_d0a16_9 (by decide) (fun c9 => False.elim (by revert c9; decide +kernel)) (fun _ => ?_)
  refine lv_aload_n hx hb dJ7_fill_d0a16_12 rfl (lv_at hl 2 rfl) ?_
  refine lv_iload_n hx hb dJ7_fill_d0a16_13 rfl (lv_at hl 0 rfl) ?_
  refine lv_lload_n hx hb dJ7_fill_d0a16_14 rfl (lv_at hl 3 rfl) ?_
  refine xa_lastS hx hb hK hP hD hS 0 1 rfl rfl (by omega) (by decide) (by decide +kernel) dJ7_fill_d0a16_15 (fun H locs hP hD hS => ?_)
  refine lv_iinc (v := nI 17) (lv' := [(3, .int (nI 17)), (4, .int (nI 25)), (0, .ref (h 229)), (1, .long (0 : Int64))]) hx hb dJ7_fill_d0a16_16 hl (k := 0) rfl (by decide +kernel) (by decide) rfl (fun ls hl => ?_)
  refine lv_goto (tgt := 6) hx hb dJ7_fill_d0a16_19 (by decide) ?_
  refine lv_iload_n hx hb dJ7_fill_d0a16_6 rfl (lv_at hl 0 rfl) ?_
  refine lv_iload hx hb dJ7_fill_d0a16_7 (lv_at hl 1 rfl) ?_
  refine lv_icmp_ge (tgt := 22) hx hb dJ7_fill_d0a16_9 (by decide) (fun c9 => False.elim (by revert c9; decide +kernel)) (fun _ => ?_)
  refine lv_aload_n hx hb dJ7_fill_d0a16_12 rfl (lv_at hl 2 rfl) ?_
  refine lv_iload_n hx hb dJ7_fill_d0a16_13 rfl (lv_at hl 0 rfl) ?_
  refine lv_lload_n hx hb dJ7_fill_d0a16_14 rfl (lv_at hl 3 rfl) ?_
  refine xa_lastS hx hb hK hP hD hS 0 1 rfl rfl (by omega) (by decide) (by decide +kernel) dJ7_fill_d0a16_15 (fun H locs hP hD hS => ?_)
  refine lv_iinc (v := nI 18) (lv' := [(3, .int (nI 18)), (4, .int (nI 25)), (0, .ref (h 229)), (1, .long (0 : Int64))]) hx hb dJ7_fill_d0a16_16 hl (k := 0) rfl (by decide +kernel) (by decide) rfl (fun ls hl => ?_)
  refine lv_goto (tgt := 6) hx hb dJ7_fill_d0a16_19 (by decide) ?_
  refine lv_iload_n hx hb dJ7_fill_d0a16_6 rfl (lv_at hl 0 rfl) ?_
  refine lv_iload hx hb dJ7_fill_d0a16_7 (lv_at hl 1 rfl) ?_
  refine lv_icmp_ge (tgt := 22) hx hb dJ7_fill_d0a16_9 (by decide) (fun c9 => False.elim (by revert c9; decide +kernel)) (fun _ => ?_)
  refine lv_aload_n hx hb dJ7_fill_d0a16_12 rfl (lv_at hl 2 rfl) ?_
  refine lv_iload_n hx hb dJ7_fill_d0a16_13 rfl (lv_at hl 0 rfl) ?_
  refine lv_lload_n hx hb dJ7_fill_d0a16_14 rfl (lv_at hl 3 rfl) ?_
  refine xa_lastS hx hb hK hP hD hS 0 1 rfl rfl (by omega) (by decide) (by decide +kernel) dJ7_fill_d0a16_15 (fun H locs hP hD hS => ?_)
  refine lv_iinc (v := nI 19) (lv' := [(3, .int (nI 19)), (4, .int (nI 25)), (0, .ref (h 229)), (1, .long (0 : Int64))]) hx hb dJ7_fill_d0a16_16 hl (k := 0) rfl (by decide +kernel) (by decide) rfl (fun ls hl => ?_)
  refine lv_goto (tgt := 6) hx hb dJ7_fill_d0a16_19 (by decide) ?_
  refine lv_iload_n hx hb dJ7_fill_d0a16_6 rfl (lv_at hl 0 rfl) ?_
  refine lv_iload hx hb dJ7_fill_d0a16_7 (lv_at hl 1 rfl) ?_
  refine lv_icmp_ge (tgt := 22) hx hb dJ7_fill_d0a16_9 (by decide) (fun c9 => False.elim (by revert c9; decide +kernel)) (fun _ => ?_)
  refine lv_aload_n hx hb dJ7_fill_d0a16_12 rfl (lv_at hl 2 rfl) ?_
  refine lv_iload_n hx hb dJ7_fill_d0a16_13 rfl (lv_at hl 0 rfl) ?_
  refine lv_lload_n hx hb dJ7_fill_d0a16_14 rfl (lv_at hl 3 rfl) ?_
  refine xa_lastS hx hb hK hP hD hS 0 1 rfl rfl (by omega) (by decide) (by decide +kernel) dJ7_fill_d0a16_15 (fun H locs hP hD hS => ?_)
  refine lv_iinc (v := nI 20) (lv' := [(3, .int (nI 20)), (4, .int (nI 25)), (0, .ref (h 229)), (1, .long (0 : Int64))]) hx hb dJ7_fill_d0a16_16 hl (k := 0) rfl (by decide +kernel) (by decide) rfl (fun ls hl => ?_)
  refine lv_goto (tgt := 6) hx hb dJ7_fill_d0a16_19 (by decide) ?_
  refine lv_iload_n hx hb dJ7_fill_d0a16_6 rfl (lv_at hl 0 rfl) ?_
  refine lv_iload hx hb dJ7_fill_d0a16_7 (lv_at hl 1 rfl) ?_
  refine lv_icmp_ge (tgt := 22) hx hb dJ7_fill_d0a16_9 (by decide) (fun c9 => False.elim (by revert c9; decide +kernel)) (fun _ => ?_)
  refine lv_aload_n hx hb dJ7_fill_d0a16_12 rfl (lv_at hl 2 rfl) ?_
  refine lv_iload_n hx hb dJ7_fill_d0a16_13 rfl (lv_at hl 0 rfl) ?_
  refine lv_lload_n hx hb dJ7_fill_d0a16_14 rfl (lv_at hl 3 rfl) ?_
  refine xa_lastS hx hb hK hP hD hS 0 1 rfl rfl (by omega) (by decide) (by decide +kernel) dJ7_fill_d0a16_15 (fun H locs hP hD hS => ?_)
  refine lv_iinc (v := nI 21) (lv' := [(3, .int (nI 21)), (4, .int (nI 25)), (0, .ref (h 229)), (1, .long (0 : Int64))]) hx hb dJ7_fill_d0a16_16 hl (k := 0) rfl (by decide +kernel) (by decide) rfl (fun ls hl => ?_)
  refine lv_goto (tgt := 6) hx hb dJ7_fill_d0a16_19 (by decide) ?_
  refine lv_iload_n hx hb dJ7_fill_d0a16_6 rfl (lv_at hl 0 rfl) ?_
  refine lv_iload hx hb dJ7_fill_d0a16_7 (lv_at hl 1 rfl) ?_
  refine lv_icmp_ge (tgt := 22) hx hb dJ7_fill_d0a16_9 (by decide) (fun c9 => False.elim (by revert c9; decide +kernel)) (fun _ => ?_)
  refine lv_aload_n hx hb dJ7_fill_d0a16_12 rfl (lv_at hl 2 rfl) ?_
  refine lv_iload_n hx hb dJ7_fill_d0a16_13 rfl (lv_at hl 0 rfl) ?_
  refine lv_lload_n hx hb dJ7_fill_d0a16_14 rfl (lv_at hl 3 rfl) ?_
  refine xa_lastS hx hb hK hP hD hS 0 1 rfl rfl (by omega) (by decide) (by decide +kernel) dJ7_fill_d0a16_15 (fun H locs hP hD hS => ?_)
  refine lv_iinc (v := nI 22) (lv' := [(3, .int (nI 22)), (4, .int (nI 25)), (0, .ref (h 229)), (1, .long (0 : Int64))]) hx hb dJ7_fill_d0a16_16 hl (k := 0) rfl (by decide +kernel) (by decide) rfl (fun ls hl => ?_)
  refine lv_goto (tgt := 6) hx hb dJ7_fill_d0a16_19 (by decide) ?_
  refine lv_iload_n hx hb dJ7_fill_d0a16_6 rfl (lv_at hl 0 rfl) ?_
  refine lv_iload hx hb dJ7_fill_d0a16_7 (lv_at hl 1 rfl) ?_
  refine lv_icmp_ge (tgt := 22) hx hb dJ7_fill_d0a16_9 (by decide) (fun c9 => False.elim (by revert c9; decide +kernel)) (fun _ => ?_)
  refine lv_aload_n hx hb dJ7_fill_d0a16_12 rfl (lv_at hl 2 rfl) ?_
  refine lv_iload_n hx hb dJ7_fill_d0a16_13 rfl (lv_at hl 0 rfl) ?_
  refine lv_lload_n hx hb dJ7_fill_d0a16_14 rfl (lv_at hl 3 rfl) ?_
  refine xa_lastS hx hb hK hP hD hS 0 1 rfl rfl (by omega) (by decide) (by decide +kernel) dJ7_fill_d0a16_15 (fun H locs hP hD hS => ?_)
  refine lv_iinc (v := nI 23) (lv' := [(3, .int (nI 23)), (4, .int (nI 25)), (0, .ref (h 229)), (1, .long (0 : Int64))]) hx hb dJ7_fill_d0a16_16 hl (k := 0) rfl (by decide +kernel) (by decide) rfl (fun ls hl => ?_)
  refine lv_goto (tgt := 6) hx hb dJ7_fill_d0a16_19 (by decide) ?_
  refine lv_iload_n hx hb dJ7_fill_d0a16_6 rfl (lv_at hl 0 rfl) ?_
  refine lv_iload hx hb dJ7_fill_d0a16_7 (lv_at hl 1 rfl) ?_
  refine lv_icmp_ge (tgt := 22) hx hb dJ7_fill_d0a16_9 (by decide) (fun c9 => False.elim (by revert c9; decide +kernel)) (fun _ => ?_)
  refine lv_aload_n hx hb dJ7_fill_d0a16_12 rfl (lv_at hl 2 rfl) ?_
  refine lv_iload_n hx hb dJ7_fill_d0a16_13 rfl (lv_at hl 0 rfl) ?_
  refine lv_lload_n hx hb dJ7_fill_d0a16_14 rfl (lv_at hl 3 rfl) ?_
  refine xa_lastS hx hb hK hP hD hS 0 1 rfl rfl (by omega) (by decide) (by decide +kernel) dJ7_fill_d0a16_15 (fun H locs hP hD hS => ?_)
  refine lv_iinc (v := nI 24) (lv' := [(3, .int (nI 24)), (4, .int (nI 25)), (0, .ref (h 229)), (1, .long (0 : Int64))]) hx hb dJ7_fill_d0a16_16 hl (k := 0) rfl (by decide +kernel) (by decide) rfl (fun ls hl => ?_)
  refine lv_goto (tgt := 6) hx hb dJ7_fill_d0a16_19 (by decide) ?_
  refine lv_iload_n hx hb dJ7_fill_d0a16_6 rfl (lv_at hl 0 rfl) ?_
  refine lv_iload hx hb dJ7_fill_d0a16_7 (lv_at hl 1 rfl) ?_
  refine lv_icmp_ge (tgt := 22) hx hb dJ7_fill_d0a16_9 (by decide) (fun c9 => False.elim (by revert c9; decide +kernel)) (fun _ => ?_)
  refine lv_aload_n hx hb dJ7_fill_d0a16_12 rfl (lv_at hl 2 rfl) ?_
  refine lv_iload_n hx hb dJ7_fill_d0a16_13 rfl (lv_at hl 0 rfl) ?_
  refine lv_lload_n hx hb dJ7_fill_d0a16_14 rfl (lv_at hl 3 rfl) ?_
  refine xa_lastS hx hb hK hP hD hS 0 1 rfl rfl (by omega) (by decide) (by decide +kernel) dJ7_fill_d0a16_15 (fun H locs hP hD hS => ?_)
  refine lv_iinc (v := nI 25) (lv' := [(3, .int (nI 25)), (4, .int (nI 25)), (0, .ref (h 229)), (1, .long (0 : Int64))]) hx hb dJ7_fill_d0a16_16 hl (k := 0) rfl (by decide +kernel) (by decide) rfl (fun ls hl => ?_)
  refine lv_goto (tgt := 6) hx hb dJ7_fill_d0a16_19 (by decide) ?_
  refine lv_iload_n hx hb dJ7_fill_d0a16_6 rfl (lv_at hl 0 rfl) ?_
  refine lv_iload hx hb dJ7_fill_d0a16_7 (lv_at hl 1 rfl) ?_
  refine lv_icmp_ge (tgt := 22) hx hb dJ7_fill_d0a16_9 (by decide) (fun _ => ?_) (fun c9 => False.elim (by revert c9; decide +kernel))
  exact xr_v hx hb hr hlocks hK hS dJ7_fill_d0a16_22 (fI, fL, fA, fQ, fG, fJ) ⟨trivial, rfl⟩ hP hD
set_option maxHeartbeats 4000000 in
set_option maxRecDepth 100000 in
theorem f_X5_renew1 (l : Launch) (dC : Nat → ClassId) (dI : Nat → Nat → Nat) (h : Nat → Nat) (cs : Nat → ClassId) (sz : Nat) (I : Nat → Int32) (L : Nat → Int64) (A : Nat → Nat → Int32) (Q : Nat → Nat → Int64) (G : Nat → Nat → Nat → Int32) (J : Nat → Nat → Nat → Int64) (y z : Int32) : Met l yX5_renew wsX5_renew ({ frames := 1, cells := 0, slots := 0, locals := 24 }) (va_Pc [.ref (h 111), .int y, .int z] (xPre (dC, dI) (wSh1 h cs fI fL fA fQ fG fJ) (tysA cs) sz)) (va_Qv (fun (u : CS) => ∃ zi9 : Nat → Int32, (True) ∧ u = (zi9, fL, fA, fQ, fG, fJ)) (xB (dC, dI) (tysA cs) (va_A (wSh1 h cs fI fL fA fQ fG fJ) sz) (fun u : CS => wSh1 h cs u.1 u.2.1 u.2.2.1 u.2.2.2.1 u.2.2.2.2.1 u.2.2.2.2.2)) (va_A (wSh1 h cs fI fL fA fQ fG fJ) sz)) 0 0 (va_A (wSh1 h cs fI fL fA fQ fG fJ) sz) := by
  refine Met.ofW (cc := cX5_renew) (maxL := 3) (ret := none) (by decide) rfl ?_
  intro p e s m args below meth c s₁ B hml hv
  obtain ⟨rfl, hsz, hP, hK, hD0, hN⟩ := hv
  have hx := B.exec
  have hb := B.bytes
  have hr := B.returns
  have hts := atoms_spec (ws := wsX5_renew) B.pre
  have hown : s.vm.findClass RX5 = some m.cls := findClass_of_methodNamed B.named
  have hlocks := B.notSynchronized
  subst hsz
  have hD := hD0.self (sz := s.heap.size)
  generalize hAe : va_A (wSh1 h cs fI fL fA fQ fG fJ) s.heap.size = A0 at hD ⊢
  have hA : ∀ q : Nat, s.heap.size ≤ q → A0 q := fun q h => by rw [← hAe]; exact Or.inr h
  have hl := lv_entry ([.ref (h 111), .int y, .int z]) (n := 3) (Nat.le_of_ble_eq_true rfl)
  rw [lg_entry_eq]
  generalize (lg_sl ([.ref (h 111), .int y, .int z]) ++ List.replicate (3 - (lg_sl ([.ref (h 111), .int y, .int z])).length) Slot.unset).toArray = ls at hl ⊢
  have hl : lv_has ls 3 [(0, .ref (h 111)), (1, .int y), (2, .int z)] := hl
  generalize hH : s.heap = H at hP ⊢
  have hS : va_S A0 s.heap H [] := by rw [← hH]; exact va_S.rf
  have hinX5 : ∀ w ∈ wsX50, w ∈ wsX5_renew := by decide +kernel
  refine lv_aload_n hx hb dX5_renew_0 rfl (lv_at hl 0 rfl) ?_
  refine lv_iload_n hx hb dX5_renew_1 rfl (lv_at hl 1 rfl) ?_
  refine va_put (D := (dC, dI)) (ci := 5) (v := .int y) (ty := .int) (C := RX5) (T := TX5) (N := 3) hx hb hts hinX5 tyX5 tyX5_ok nmX5 hown hK hP hD hS 0 rfl rfl 0 (by decide) (hts (.fieldLink RX5 11 "MixedWords$Sheet" "lane" "I") (by decide +kernel)) (fun _ h9 => h9) rfl (by decide +kernel) rfl rfl (Nat.le_of_ble_eq_true rfl) dX5_renew_2 (fun H locs hP hD hS => ?_)
  have hP : va_P (dC, dI) vwCl (wSh1 h cs (va_up fI 221 y) fL fA fQ fG fJ) H := hP
  have hD : va_D A0 (wSh1 h cs (va_up fI 221 y) fL fA fQ fG fJ) := hD
  refine lv_aload_n hx hb dX5_renew_5 rfl (lv_at hl 0 rfl) ?_
  refine lv_iload_n hx hb dX5_renew_6 rfl (lv_at hl 2 rfl) ?_
  refine va_put (D := (dC, dI)) (ci := 5) (v := .int z) (ty := .int) (C := RX5) (T := TX5) (N := 3) hx hb hts hinX5 tyX5 tyX5_ok nmX5 hown hK hP hD hS 0 rfl rfl 1 (by decide) (hts (.fieldLink RX5 15 "MixedWords$Sheet" "length" "I") (by decide +kernel)) (fun _ h9 => h9) rfl (by decide +kernel) rfl rfl (Nat.le_of_ble_eq_true rfl) dX5_renew_7 (fun H locs hP hD hS => ?_)
  have hP : va_P (dC, dI) vwCl (wSh1 h cs (va_up (va_up fI 221 y) 225 z) fL fA fQ fG fJ) H := hP
  have hD : va_D A0 (wSh1 h cs (va_up (va_up fI 221 y) 225 z) fL fA fQ fG fJ) := hD
  refine lv_aload_n hx hb dX5_renew_10 rfl (lv_at hl 0 rfl) ?_
  refine va_get (D := (dC, dI)) (ci := 5) (v := .ref (h 229)) (C := RX5) (T := TX5) (N := 3) hx hb hts hinX5 hown hK hP 0 rfl rfl 2 (by decide) (hts (.fieldLink RX5 18 "MixedWords$Sheet" "items" "[J") (by decide +kernel)) (fun _ h9 => h9) rfl dX5_renew_11 ?_
  refine lv_lconst (v := 0) hx hb dX5_renew_14 rfl ?_
  refine xj_v (wc := (wD_160 h cs fI fL fA fQ fG fJ)) (wr := [(h 111, .inr (5, [.int (y), .int (z), .ref (h 229)]))]) hP hD hS hA [1] [0] rfl rfl (by decide) (by decide) (va_runS (As := [.ref (h 229), .long (0 : Int64)]) (rest := []) ⟨hx, hb, hml, hown, hts⟩ (a_J7_fill_d0a16_161 l dC dI h cs H.size fI fL fA fQ fG fJ ) (va_cwS 2 hts gX5_renew_J7_fill_d0a16 rfl rfl rfl (by decide +kernel) ⟨Nat.le_of_ble_eq_true rfl, Nat.le_of_ble_eq_true rfl⟩) (xpS (wc := (wD_160 h cs fI fL fA fQ fG fJ)) hP hD hK hN [1] rfl (by decide) _) rfl rfl hl.1 rfl (lv_room (Nat.le_of_ble_eq_true rfl)) dX5_renew_15 ⟨Nat.zero_le _, Nat.zero_le _⟩) (fun u_1 H locs hw hP hD hS => ?_)
  obtain ⟨hf_3, rfl⟩ := hw
  have hP : va_P (dC, dI) vwCl (wSh1 h cs (va_up (va_up fI 221 y) 225 z) fL fA fQ fG fJ) H := hP
  have hD : va_D A0 (wSh1 h cs (va_up (va_up fI 221 y) 225 z) fL fA fQ fG fJ) := hD
  exact xr_v hx hb hr hlocks hK hS dX5_renew_18 ((va_up (va_up fI 221 y) 225 z), fL, fA, fQ, fG, fJ) ⟨(va_up (va_up fI 221 y) 225 z), trivial, rfl⟩ hP hD
def wSh2 (h : Nat → Nat) (cs : Nat → ClassId) (I : Nat → Int32) (L : Nat → Int64) (A : Nat → Nat → Int32) (Q : Nat → Nat → Int64) (G : Nat → Nat → Nat → Int32) (J : Nat → Nat → Nat → Int64) : va_W := [(h 112, .inr (5, [.int (I 222), .int (I 226), .ref (h 230)])), (h 230, .inl (cs 1, 25, .inr (.inl (Q 230))))]
def wD_162 (h : Nat → Nat) (cs : Nat → ClassId) (I : Nat → Int32) (L : Nat → Int64) (A : Nat → Nat → Int32) (Q : Nat → Nat → Int64) (G : Nat → Nat → Nat → Int32) (J : Nat → Nat → Nat → Int64) : va_W := [(h 230, .inl (cs 1, 25, .inr (.inl (Q 230))))]
set_option maxHeartbeats 4000000 in
set_option maxRecDepth 100000 in
theorem a_J7_fill_d0a16_163 (l : Launch) (dC : Nat → ClassId) (dI : Nat → Nat → Nat) (h : Nat → Nat) (cs : Nat → ClassId) (sz : Nat) (I : Nat → Int32) (L : Nat → Int64) (A : Nat → Nat → Int32) (Q : Nat → Nat → Int64) (G : Nat → Nat → Nat → Int32) (J : Nat → Nat → Nat → Int64) : Met l yJ7_fill_d0a16 wsJ7_fill_d0a16 ({ frames := 0, cells := 0, slots := 0, locals := 0 }) (va_Pc [.ref (h 230), .long (0 : Int64)] (xPre (dC, dI) (wD_162 h cs fI fL fA fQ fG fJ) (tysA cs) sz)) (va_Qv (fun (u : CS) => (True) ∧ u = (fI, fL, fA, fQ, fG, fJ)) (xB (dC, dI) (tysA cs) (va_A (wD_162 h cs fI fL fA fQ fG fJ) sz) (fun u : CS => wD_162 h cs u.1 u.2.1 u.2.2.1 u.2.2.2.1 u.2.2.2.2.1 u.2.2.2.2.2)) (va_A (wD_162 h cs fI fL fA fQ fG fJ) sz)) 0 0 (va_A (wD_162 h cs fI fL fA fQ fG fJ) sz) := by
  refine Met.ofW (cc := cJ7_fill_d0a16) (maxL := 5) (ret := none) (by decide) rfl ?_
  intro p e s m args below meth c s₁ B hml hv
  obtain ⟨rfl, hsz, hP, hK, hD0, hN⟩ := hv
  have hx := B.exec
  have hb := B.bytes
  have hr := B.returns
  have hts := atoms_spec (ws := wsJ7_fill_d0a16) B.pre
  have hown : s.vm.findClass RJ7 = some m.cls := findClass_of_methodNamed B.named
  have hlocks := B.notSynchronized
  subst hsz
  have hD := hD0.self (sz := s.heap.size)
  generalize hAe : va_A (wD_162 h cs fI fL fA fQ fG fJ) s.heap.size = A0 at hD ⊢
  have hA : ∀ q : Nat, s.heap.size ≤ q → A0 q := fun q h => by rw [← hAe]; exact Or.inr h
  have hl := lv_entry ([.ref (h 230), .long (0 : Int64)]) (n := 5) (Nat.le_of_ble_eq_true rfl)
  rw [lg_entry_eq]
  generalize (lg_sl ([.ref (h 230), .long (0 : Int64)]) ++ List.replicate (5 - (lg_sl ([.ref (h 230), .long (0 : Int64)])).length) Slot.unset).toArray = ls at hl ⊢
  have hl : lv_has ls 5 [(0, .ref (h 230)), (1, .long (0 : Int64))] := hl
  generalize hH : s.heap = H at hP ⊢
  have hS : va_S A0 s.heap H [] := by rw [← hH]; exact va_S.rf
  refine lv_iconst (v := nI 0) hx hb dJ7_fill_d0a16_0 (by decide) ?_
  refine lv_istore_n (lv' := [(3, .int (nI 0)), (0, .ref (h 230)), (1, .long (0 : Int64))]) hx hb dJ7_fill_d0a16_1 rfl hl (by decide) rfl (fun ls hl => ?_)
  refine lv_aload_n hx hb dJ7_fill_d0a16_2 rfl (lv_at hl 1 rfl) ?_
  refine xa_alen hx hb hK hP 0 1 rfl rfl (n := 25) rfl dJ7_fill_d0a16_3 ?_
  refine lv_istore (lv' := [(4, .int (nI 25)), (3, .int (nI 0)), (0, .ref (h 230)), (1, .long (0 : Int64))]) hx hb dJ7_fill_d0a16_4 hl (by decide) rfl (fun ls hl => ?_)
  refine lv_iload_n hx hb dJ7_fill_d0a16_6 rfl (lv_at hl 1 rfl) ?_
  refine lv_iload hx hb dJ7_fill_d0a16_7 (lv_at hl 0 rfl) ?_
  refine lv_icmp_ge (tgt := 22) hx hb dJ7_fill_d0a16_9 (by decide) (fun c9 => False.elim (by revert c9; decide +kernel)) (fun _ => ?_)
  refine lv_aload_n hx hb dJ7_fill_d0a16_12 rfl (lv_at hl 2 rfl) ?_
  refine lv_iload_n hx hb dJ7_fill_d0a16_13 rfl (lv_at hl 1 rfl) ?_
  refine lv_lload_n hx hb dJ7_fill_d0a16_14 rfl (lv_at hl 3 rfl) ?_
  refine xa_lastS hx hb hK hP hD hS 0 1 rfl rfl (by omega) (by decide) (by decide +kernel) dJ7_fill_d0a16_15 (fun H locs hP hD hS => ?_)
  refine lv_iinc (v := nI 1) (lv' := [(3, .int (nI 1)), (4, .int (nI 25)), (0, .ref (h 230)), (1, .long (0 : Int64))]) hx hb dJ7_fill_d0a16_16 hl (k := 1) rfl (by decide +kernel) (by decide) rfl (fun ls hl => ?_)
  refine lv_goto (tgt := 6) hx hb dJ7_fill_d0a16_19 (by decide) ?_
  refine lv_iload_n hx hb dJ7_fill_d0a16_6 rfl (lv_at hl 0 rfl) ?_
  refine lv_iload hx hb dJ7_fill_d0a16_7 (lv_at hl 1 rfl) ?_
  refine lv_icmp_ge (tgt := 22) hx hb dJ7_fill_d0a16_9 (by decide) (fun c9 => False.elim (by revert c9; decide +kernel)) (fun _ => ?_)
  refine lv_aload_n hx hb dJ7_fill_d0a16_12 rfl (lv_at hl 2 rfl) ?_
  refine lv_iload_n hx hb dJ7_fill_d0a16_13 rfl (lv_at hl 0 rfl) ?_
  refine lv_lload_n hx hb dJ7_fill_d0a16_14 rfl (lv_at hl 3 rfl) ?_
  refine xa_lastS hx hb hK hP hD hS 0 1 rfl rfl (by omega) (by decide) (by decide +kernel) dJ7_fill_d0a16_15 (fun H locs hP hD hS => ?_)
  refine lv_iinc (v := nI 2) (lv' := [(3, .int (nI 2)), (4, .int (nI 25)), (0, .ref (h 230)), (1, .long (0 : Int64))]) hx hb dJ7_fill_d0a16_16 hl (k := 0) rfl (by decide +kernel) (by decide) rfl (fun ls hl => ?_)
  refine lv_goto (tgt := 6) hx hb dJ7_fill_d0a16_19 (by decide) ?_
  refine lv_iload_n hx hb dJ7_fill_d0a16_6 rfl (lv_at hl 0 rfl) ?_
  refine lv_iload hx hb dJ7_fill_d0a16_7 (lv_at hl 1 rfl) ?_
  refine lv_icmp_ge (tgt := 22) hx hb dJ7_fill_d0a16_9 (by decide) (fun c9 => False.elim (by revert c9; decide +kernel)) (fun _ => ?_)
  refine lv_aload_n hx hb dJ7_fill_d0a16_12 rfl (lv_at hl 2 rfl) ?_
  refine lv_iload_n hx hb dJ7_fill_d0a16_13 rfl (lv_at hl 0 rfl) ?_
  refine lv_lload_n hx hb dJ7_fill_d0a16_14 rfl (lv_at hl 3 rfl) ?_
  refine xa_lastS hx hb hK hP hD hS 0 1 rfl rfl (by omega) (by decide) (by decide +kernel) dJ7_fill_d0a16_15 (fun H locs hP hD hS => ?_)
  refine lv_iinc (v := nI 3) (lv' := [(3, .int (nI 3)), (4, .int (nI 25)), (0, .ref (h 230)), (1, .long (0 : Int64))]) hx hb dJ7_fill_d0a16_16 hl (k := 0) rfl (by decide +kernel) (by decide) rfl (fun ls hl => ?_)
  refine lv_goto (tgt := 6) hx hb dJ7_fill_d0a16_19 (by decide) ?_
  refine lv_iload_n hx hb dJ7_fill_d0a16_6 rfl (lv_at hl 0 rfl) ?_
  refine lv_iload hx hb dJ7_fill_d0a16_7 (lv_at hl 1 rfl) ?_
  refine lv_icmp_ge (tgt := 22) hx hb dJ7_fill_d0a16_9 (by decide) (fun c9 => False.elim (by revert c9; decide +kernel)) (fun _ => ?_)
  refine lv_aload_n hx hb dJ7_fill_d0a16_12 rfl (lv_at hl 2 rfl) ?_
  refine lv_iload_n hx hb dJ7_fill_d0a16_13 rfl (lv_at hl 0 rfl) ?_
  refine lv_lload_n hx hb dJ7_fill_d0a16_14 rfl (lv_at hl 3 rfl) ?_
  refine xa_lastS hx hb hK hP hD hS 0 1 rfl rfl (by omega) (by decide) (by decide +kernel) dJ7_fill_d0a16_15 (fun H locs hP hD hS => ?_)
  refine lv_iinc (v := nI 4) (lv' := [(3, .int (nI 4)), (4, .int (nI 25)), (0, .ref (h 230)), (1, .long (0 : Int64))]) hx hb dJ7_fill_d0a16_16 hl (k := 0) rfl (by decide +kernel) (by decide) rfl (fun ls hl => ?_)
  refine lv_goto (tgt := 6) hx hb dJ7_fill_d0a16_19 (by decide) ?_
  refine lv_iload_n hx hb dJ7_fill_d0a16_6 rfl (lv_at hl 0 rfl) ?_
  refine lv_iload hx hb dJ7_fill_d0a16_7 (lv_at hl 1 rfl) ?_
  refine lv_icmp_ge (tgt := 22) hx hb dJ7_fill_d0a16_9 (by decide) (fun c9 => False.elim (by revert c9; decide +kernel)) (fun _ => ?_)
  refine lv_aload_n hx hb dJ7_fill_d0a16_12 rfl (lv_at hl 2 rfl) ?_
  refine lv_iload_n hx hb dJ7_fill_d0a16_13 rfl (lv_at hl 0 rfl) ?_
  refine lv_lload_n hx hb dJ7_fill_d0a16_14 rfl (lv_at hl 3 rfl) ?_
  refine xa_lastS hx hb hK hP hD hS 0 1 rfl rfl (by omega) (by decide) (by decide +kernel) dJ7_fill_d0a16_15 (fun H locs hP hD hS => ?_)
  refine lv_iinc (v := nI 5) (lv' := [(3, .int (nI 5)), (4, .int (nI 25)), (0, .ref (h 230)), (1, .long (0 : Int64))]) hx hb dJ7_fill_d0a16_16 hl (k := 0) rfl (by decide +kernel) (by decide) rfl (fun ls hl => ?_)
  refine lv_goto (tgt := 6) hx hb dJ7_fill_d0a16_19 (by decide) ?_
  refine lv_iload_n hx hb dJ7_fill_d0a16_6 rfl (lv_at hl 0 rfl) ?_
  refine lv_iload hx hb dJ7_fill_d0a16_7 (lv_at hl 1 rfl) ?_
  refine lv_icmp_ge (tgt := 22) hx hb dJ7_fill_d0a16_9 (by decide) (fun c9 => False.elim (by revert c9; decide +kernel)) (fun _ => ?_)
  refine lv_aload_n hx hb dJ7_fill_d0a16_12 rfl (lv_at hl 2 rfl) ?_
  refine lv_iload_n hx hb dJ7_fill_d0a16_13 rfl (lv_at hl 0 rfl) ?_
  refine lv_lload_n hx hb dJ7_fill_d0a16_14 rfl (lv_at hl 3 rfl) ?_
  refine xa_lastS hx hb hK hP hD hS 0 1 rfl rfl (by omega) (by decide) (by decide +kernel) dJ7_fill_d0a16_15 (fun H locs hP hD hS => ?_)
  refine lv_iinc (v := nI 6) (lv' := [(3, .int (nI 6)), (4, .int (nI 25)), (0, .ref (h 230)), (1, .long (0 : Int64))]) hx hb dJ7_fill_d0a16_16 hl (k := 0) rfl (by decide +kernel) (by decide) rfl (fun ls hl => ?_)
  refine lv_goto (tgt := 6) hx hb dJ7_fill_d0a16_19 (by decide) ?_
  refine lv_iload_n hx hb dJ7_fill_d0a16_6 rfl (lv_at hl 0 rfl) ?_
  refine lv_iload hx hb dJ7_fill_d0a16_7 (lv_at hl 1 rfl) ?_
  refine lv_icmp_ge (tgt := 22) hx hb dJ7_fill_d0a16_9 (by decide) (fun c9 => False.elim (by revert c9; decide +kernel)) (fun _ => ?_)
  refine lv_aload_n hx hb dJ7_fill_d0a16_12 rfl (lv_at hl 2 rfl) ?_
  refine lv_iload_n hx hb dJ7_fill_d0a16_13 rfl (lv_at hl 0 rfl) ?_
  refine lv_lload_n hx hb dJ7_fill_d0a16_14 rfl (lv_at hl 3 rfl) ?_
  refine xa_lastS hx hb hK hP hD hS 0 1 rfl rfl (by omega) (by decide) (by decide +kernel) dJ7_fill_d0a16_15 (fun H locs hP hD hS => ?_)
  refine lv_iinc (v := nI 7) (lv' := [(3, .int (nI 7)), (4, .int (nI 25)), (0, .ref (h 230)), (1, .long (0 : Int64))]) hx hb dJ7_fill_d0a16_16 hl (k := 0) rfl (by decide +kernel) (by decide) rfl (fun ls hl => ?_)
  refine lv_goto (tgt := 6) hx hb dJ7_fill_d0a16_19 (by decide) ?_
  refine lv_iload_n hx hb dJ7_fill_d0a16_6 rfl (lv_at hl 0 rfl) ?_
  refine lv_iload hx hb dJ7_fill_d0a16_7 (lv_at hl 1 rfl) ?_
  refine lv_icmp_ge (tgt := 22) hx hb dJ7_fill_d0a16_9 (by decide) (fun c9 => False.elim (by revert c9; decide +kernel)) (fun _ => ?_)
  refine lv_aload_n hx hb dJ7_fill_d0a16_12 rfl (lv_at hl 2 rfl) ?_
  refine lv_iload_n hx hb dJ7_fill_d0a16_13 rfl (lv_at hl 0 rfl) ?_
  refine lv_lload_n hx hb dJ7_fill_d0a16_14 rfl (lv_at hl 3 rfl) ?_
  refine xa_lastS hx hb hK hP hD hS 0 1 rfl rfl (by omega) (by decide) (by decide +kernel) dJ7_fill_d0a16_15 (fun H locs hP hD hS => ?_)
  refine lv_iinc (v := nI 8) (lv' := [(3, .int (nI 8)), (4, .int (nI 25)), (0, .ref (h 230)), (1, .long (0 : Int64))]) hx hb dJ7_fill_d0a16_16 hl (k := 0) rfl (by decide +kernel) (by decide) rfl (fun ls hl => ?_)
  refine lv_goto (tgt := 6) hx hb dJ7_fill_d0a16_19 (by decide) ?_
  refine lv_iload_n hx hb dJ7_fill_d0a16_6 rfl (lv_at hl 0 rfl) ?_
  refine lv_iload hx hb dJ7_fill_d0a16_7 (lv_at hl 1 rfl) ?_
  refine lv_icmp_ge (tgt := 22) hx hb dJ7_fill_d0a16_9 (by decide) (fun c9 => False.elim (by revert c9; decide +kernel)) (fun _ => ?_)
  refine lv_aload_n hx hb dJ7_fill_d0a16_12 rfl (lv_at hl 2 rfl) ?_
  refine lv_iload_n hx hb dJ7_fill_d0a16_13 rfl (lv_at hl 0 rfl) ?_
  refine lv_lload_n hx hb dJ7_fill_d0a16_14 rfl (lv_at hl 3 rfl) ?_
  refine xa_lastS hx hb hK hP hD hS 0 1 rfl rfl (by omega) (by decide) (by decide +kernel) dJ7_fill_d0a16_15 (fun H locs hP hD hS => ?_)
  refine lv_iinc (v := nI 9) (lv' := [(3, .int (nI 9)), (4, .int (nI 25)), (0, .ref (h 230)), (1, .long (0 : Int64))]) hx hb dJ7_fill_d0a16_16 hl (k := 0) rfl (by decide +kernel) (by decide) rfl (fun ls hl => ?_)
  refine lv_goto (tgt := 6) hx hb dJ7_fill_d0a16_19 (by decide) ?_
  refine lv_iload_n hx hb dJ7_fill_d0a16_6 rfl (lv_at hl 0 rfl) ?_
  refine lv_iload hx hb dJ7_fill_d0a16_7 (lv_at hl 1 rfl) ?_
  refine lv_icmp_ge (tgt := 22) hx hb dJ7_fill_d0a16_9 (by decide) (fun c9 => False.elim (by revert c9; decide +kernel)) (fun _ => ?_)
  refine lv_aload_n hx hb dJ7_fill_d0a16_12 rfl (lv_at hl 2 rfl) ?_
  refine lv_iload_n hx hb dJ7_fill_d0a16_13 rfl (lv_at hl 0 rfl) ?_
  refine lv_lload_n hx hb dJ7_fill_d0a16_14 rfl (lv_at hl 3 rfl) ?_
  refine xa_lastS hx hb hK hP hD hS 0 1 rfl rfl (by omega) (by decide) (by decide +kernel) dJ7_fill_d0a16_15 (fun H locs hP hD hS => ?_)
  refine lv_iinc (v := nI 10) (lv' := [(3, .int (nI 10)), (4, .int (nI 25)), (0, .ref (h 230)), (1, .long (0 : Int64))]) hx hb dJ7_fill_d0a16_16 hl (k := 0) rfl (by decide +kernel) (by decide) rfl (fun ls hl => ?_)
  refine lv_goto (tgt := 6) hx hb dJ7_fill_d0a16_19 (by decide) ?_
  refine lv_iload_n hx hb dJ7_fill_d0a16_6 rfl (lv_at hl 0 rfl) ?_
  refine lv_iload hx hb dJ7_fill_d0a16_7 (lv_at hl 1 rfl) ?_
  refine lv_icmp_ge (tgt := 22) hx hb dJ7_fill_d0a16_9 (by decide) (fun c9 => False.elim (by revert c9; decide +kernel)) (fun _ => ?_)
  refine lv_aload_n hx hb dJ7_fill_d0a16_12 rfl (lv_at hl 2 rfl) ?_
  refine lv_iload_n hx hb dJ7_fill_d0a16_13 rfl (lv_at hl 0 rfl) ?_
  refine lv_lload_n hx hb dJ7_fill_d0a16_14 rfl (lv_at hl 3 rfl) ?_
  refine xa_lastS hx hb hK hP hD hS 0 1 rfl rfl (by omega) (by decide) (by decide +kernel) dJ7_fill_d0a16_15 (fun H locs hP hD hS => ?_)
  refine lv_iinc (v := nI 11) (lv' := [(3, .int (nI 11)), (4, .int (nI 25)), (0, .ref (h 230)), (1, .long (0 : Int64))]) hx hb dJ7_fill_d0a16_16 hl (k := 0) rfl (by decide +kernel) (by decide) rfl (fun ls hl => ?_)
  refine lv_goto (tgt := 6) hx hb dJ7_fill_d0a16_19 (by decide) ?_
  refine lv_iload_n hx hb dJ7_fill_d0a16_6 rfl (lv_at hl 0 rfl) ?_
  refine lv_iload hx hb dJ7_fill_d0a16_7 (lv_at hl 1 rfl) ?_
  refine lv_icmp_ge (tgt := 22) hx hb dJ7_fill_d0a16_9 (by decide) (fun c9 => False.elim (by revert c9; decide +kernel)) (fun _ => ?_)
  refine lv_aload_n hx hb dJ7_fill_d0a16_12 rfl (lv_at hl 2 rfl) ?_
  refine lv_iload_n hx hb dJ7_fill_d0a16_13 rfl (lv_at hl 0 rfl) ?_
  refine lv_lload_n hx hb dJ7_fill_d0a16_14 rfl (lv_at hl 3 rfl) ?_
  refine xa_lastS hx hb hK hP hD hS 0 1 rfl rfl (by omega) (by decide) (by decide +kernel) dJ7_fill_d0a16_15 (fun H locs hP hD hS => ?_)
  refine lv_iinc (v := nI 12) (lv' := [(3, .int (nI 12)), (4, .int (nI 25)), (0, .ref (h 230)), (1, .long (0 : Int64))]) hx hb dJ7_fill_d0a16_16 hl (k := 0) rfl (by decide +kernel) (by decide) rfl (fun ls hl => ?_)
  refine lv_goto (tgt := 6) hx hb dJ7_fill_d0a16_19 (by decide) ?_
  refine lv_iload_n hx hb dJ7_fill_d0a16_6 rfl (lv_at hl 0 rfl) ?_
  refine lv_iload hx hb dJ7_fill_d0a16_7 (lv_at hl 1 rfl) ?_
  refine lv_icmp_ge (tgt := 22) hx hb dJ7_fill_d0a16_9 (by decide) (fun c9 => False.elim (by revert c9; decide +kernel)) (fun _ => ?_)
  refine lv_aload_n hx hb dJ7_fill_d0a16_12 rfl (lv_at hl 2 rfl) ?_
  refine lv_iload_n hx hb dJ7_fill_d0a16_13 rfl (lv_at hl 0 rfl) ?_
  refine lv_lload_n hx hb dJ7_fill_d0a16_14 rfl (lv_at hl 3 rfl) ?_
  refine xa_lastS hx hb hK hP hD hS 0 1 rfl rfl (by omega) (by decide) (by decide +kernel) dJ7_fill_d0a16_15 (fun H locs hP hD hS => ?_)
  refine lv_iinc (v := nI 13) (lv' := [(3, .int (nI 13)), (4, .int (nI 25)), (0, .ref (h 230)), (1, .long (0 : Int64))]) hx hb dJ7_fill_d0a16_16 hl (k := 0) rfl (by decide +kernel) (by decide) rfl (fun ls hl => ?_)
  refine lv_goto (tgt := 6) hx hb dJ7_fill_d0a16_19 (by decide) ?_
  refine lv_iload_n hx hb dJ7_fill_d0a16_6 rfl (lv_at hl 0 rfl) ?_
  refine lv_iload hx hb dJ7_fill_d0a16_7 (lv_at hl 1 rfl) ?_
  refine lv_icmp_ge (tgt := 22) hx hb dJ7_fill_d0a16_9 (by decide) (fun c9 => False.elim (by revert c9; decide +kernel)) (fun _ => ?_)
  refine lv_aload_n hx hb dJ7_fill_d0a16_12 rfl (lv_at hl 2 rfl) ?_
  refine lv_iload_n hx hb dJ7_fill_d0a16_13 rfl (lv_at hl 0 rfl) ?_
  refine lv_lload_n hx hb dJ7_fill_d0a16_14 rfl (lv_at hl 3 rfl) ?_
  refine xa_lastS hx hb hK hP hD hS 0 1 rfl rfl (by omega) (by decide) (by decide +kernel) dJ7_fill_d0a16_15 (fun H locs hP hD hS => ?_)
  refine lv_iinc (v := nI 14) (lv' := [(3, .int (nI 14)), (4, .int (nI 25)), (0, .ref (h 230)), (1, .long (0 : Int64))]) hx hb dJ7_fill_d0a16_16 hl (k := 0) rfl (by decide +kernel) (by decide) rfl (fun ls hl => ?_)
  refine lv_goto (tgt := 6) hx hb dJ7_fill_d0a16_19 (by decide) ?_
  refine lv_iload_n hx hb dJ7_fill_d0a16_6 rfl (lv_at hl 0 rfl) ?_
  refine lv_iload hx hb dJ7_fill_d0a16_7 (lv_at hl 1 rfl) ?_
  refine lv_icmp_ge (tgt := 22) hx hb dJ7_fill_d0a16_9 (by decide) (fun c9 => False.elim (by revert c9; decide +kernel)) (fun _ => ?_)
  refine lv_aload_n hx hb dJ7_fill_d0a16_12 rfl (lv_at hl 2 rfl) ?_
  refine lv_iload_n hx hb dJ7_fill_d0a16_13 rfl (lv_at hl 0 rfl) ?_
  refine lv_lload_n hx hb dJ7_fill_d0a16_14 rfl (lv_at hl 3 rfl) ?_
  refine xa_lastS hx hb hK hP hD hS 0 1 rfl rfl (by omega) (by decide) (by decide +kernel) dJ7_fill_d0a16_15 (fun H locs hP hD hS => ?_)
  refine lv_iinc (v := nI 15) (lv' := [(3, .int (nI 15)), (4, .int (nI 25)), (0, .ref (h 230)), (1, .long (0 : Int64))]) hx hb dJ7_fill_d0a16_16 hl (k := 0) rfl (by decide +kernel) (by decide) rfl (fun ls hl => ?_)
  refine lv_goto (tgt := 6) hx hb dJ7_fill_d0a16_19 (by decide) ?_
  refine lv_iload_n hx hb dJ7_fill_d0a16_6 rfl (lv_at hl 0 rfl) ?_
  refine lv_iload hx hb dJ7_fill_d0a16_7 (lv_at hl 1 rfl) ?_
  refine lv_icmp_ge (tgt := 22) hx hb dJ7_fill_d0a16_9 (by decide) (fun c9 => False.elim (by revert c9; decide +kernel)) (fun _ => ?_)
  refine lv_aload_n hx hb dJ7_fill_d0a16_12 rfl (lv_at hl 2 rfl) ?_
  refine lv_iload_n hx hb dJ7_fill_d0a16_13 rfl (lv_at hl 0 rfl) ?_
  refine lv_lload_n hx hb dJ7_fill_d0a16_14 rfl (lv_at hl 3 rfl) ?_
  refine xa_lastS hx hb hK hP hD hS 0 1 rfl rfl (by omega) (by decide) (by decide +kernel) dJ7_fill_d0a16_15 (fun H locs hP hD hS => ?_)
  refine lv_iinc (v := nI 16) (lv' := [(3, .int (nI 16)), (4, .int (nI 25)), (0, .ref (h 230)), (1, .long (0 : Int64))]) hx hb dJ7_fill_d0a16_16 hl (k := 0) rfl (by decide +kernel) (by decide) rfl (fun ls hl => ?_)
  refine lv_goto (tgt := 6) hx hb dJ7_fill_d0a16_19 (by decide) ?_
  refine lv_iload_n hx hb dJ7_fill_d0a16_6 rfl (lv_at hl 0 rfl) ?_
  refine lv_iload hx hb dJ7_fill_d0a16_7 (lv_at hl 1 rfl) ?_
  refine lv_icmp_ge (tgt := 22) hx hb dJ7_fill_d0a16_9 (by decide) (fun c9 => False.elim (by revert c9; decide +kernel)) (fun _ => ?_)
  refine lv_aload_n hx hb dJ7_fill_d0a16_12 rfl (lv_at hl 2 rfl) ?_
  refine lv_iload_n hx hb dJ7_fill_d0a16_13 rfl (lv_at hl 0 rfl) ?_
  refine lv_lload_n hx hb dJ7_fill_d0a16_14 rfl (lv_at hl 3 rfl) ?_
  refine xa_lastS hx hb hK hP hD hS 0 1 rfl rfl (by omega) (by decide) (by decide +kernel) dJ7_fill_d0a16_15 (fun H locs hP hD hS => ?_)
  refine lv_iinc (v := nI 17) (lv' := [(3, .int (nI 17)), (4, .int (nI 25)), (0, .ref (h 230)), (1, .long (0 : Int64))]) hx hb dJ7_fill_d0a16_16 hl (k := 0) rfl (by decide +kernel) (by decide) rfl (fun ls hl => ?_)
  refine lv_goto (tgt := 6) hx hb dJ7_fill_d0a16_19 (by decide) ?_
  refine lv_iload_n hx hb dJ7_fill_d0a16_6 rfl (lv_at hl 0 rfl) ?_
  refine lv_iload hx hb dJ7_fill_d0a16_7 (lv_at hl 1 rfl) ?_
  refine lv_icmp_ge (tgt := 22) hx hb dJ7_fill_d0a16_9 (by decide) (fun c9 => False.elim (by revert c9; decide +kernel)) (fun _ => ?_)
  refine lv_aload_n hx hb dJ7_fill_d0a16_12 rfl (lv_at hl 2 rfl) ?_
  refine lv_iload_n hx hb dJ7_fill_d0a16_13 rfl (lv_at hl 0 rfl) ?_
  refine lv_lload_n hx hb dJ7_fill_d0a16_14 rfl (lv_at hl 3 rfl) ?_
  refine xa_lastS hx hb hK hP hD hS 0 1 rfl rfl (by omega) (by decide) (by decide +kernel) dJ7_fill_d0a16_15 (fun H locs hP hD hS => ?_)
  refine lv_iinc (v := nI 18) (lv' := [(3, .int (nI 18)), (4, .int (nI 25)), (0, .ref (h 230)), (1, .long (0 : Int64))]) hx hb dJ7_fill_d0a16_16 hl (k := 0) rfl (by decide +kernel) (by decide) rfl (fun ls hl => ?_)
  refine lv_goto (tgt := 6) hx hb dJ7_fill_d0a16_19 (by decide) ?_
  refine lv_iload_n hx hb dJ7_fill_d0a16_6 rfl (lv_at hl 0 rfl) ?_
  refine lv_iload hx hb dJ7_fill_d0a16_7 (lv_at hl 1 rfl) ?_
  refine lv_icmp_ge (tgt := 22) hx hb dJ7_fill_d0a16_9 (by decide) (fun c9 => False.elim (by revert c9; decide +kernel)) (fun _ => ?_)
  refine lv_aload_n hx hb dJ7_fill_d0a16_12 rfl (lv_at hl 2 rfl) ?_
  refine lv_iload_n hx hb dJ7_fill_d0a16_13 rfl (lv_at hl 0 rfl) ?_
  refine lv_lload_n hx hb dJ7_fill_d0a16_14 rfl (lv_at hl 3 rfl) ?_
  refine xa_lastS hx hb hK hP hD hS 0 1 rfl rfl (by omega) (by decide) (by decide +kernel) dJ7_fill_d0a16_15 (fun H locs hP hD hS => ?_)
  refine lv_iinc (v := nI 19) (lv' := [(3, .int (nI 19)), (4, .int (nI 25)), (0, .ref (h 230)), (1, .long (0 : Int64))]) hx hb dJ7_fill_d0a16_16 hl (k := 0) rfl (by decide +kernel) (by decide) rfl (fun ls hl => ?_)
  refine lv_goto (tgt := 6) hx hb dJ7_fill_d0a16_19 (by decide) ?_
  refine lv_iload_n hx hb dJ7_fill_d0a16_6 rfl (lv_at hl 0 rfl) ?_
  refine lv_iload hx hb dJ7_fill_d0a16_7 (lv_at hl 1 rfl) ?_
  refine lv_icmp_ge (tgt := 22) hx hb dJ7_fill_d0a16_9 (by decide) (fun c9 => False.elim (by revert c9; decide +kernel)) (fun _ => ?_)
  refine lv_aload_n hx hb dJ7_fill_d0a16_12 rfl (lv_at hl 2 rfl) ?_
  refine lv_iload_n hx hb dJ7_fill_d0a16_13 rfl (lv_at hl 0 rfl) ?_
  refine lv_lload_n hx hb dJ7_fill_d0a16_14 rfl (lv_at hl 3 rfl) ?_
  refine xa_lastS hx hb hK hP hD hS 0 1 rfl rfl (by omega) (by decide) (by decide +kernel) dJ7_fill_d0a16_15 (fun H locs hP hD hS => ?_)
  refine lv_iinc (v := nI 20) (lv' := [(3, .int (nI 20)), (4, .int (nI 25)), (0, .ref (h 230)), (1, .long (0 : Int64))]) hx hb dJ7_fill_d0a16_16 hl (k := 0) rfl (by decide +kernel) (by decide) rfl (fun ls hl => ?_)
  refine lv_goto (tgt := 6) hx hb dJ7_fill_d0a16_19 (by decide) ?_
  refine lv_iload_n hx hb dJ7_fill_d0a16_6 rfl (lv_at hl 0 rfl) ?_
  refine lv_iload hx hb dJ7_fill_d0a16_7 (lv_at hl 1 rfl) ?_
  refine lv_icmp_ge (tgt := 22) hx hb dJ7_fill_d0a16_9 (by decide) (fun c9 => False.elim (by revert c9; decide +kernel)) (fun _ => ?_)
  refine lv_aload_n hx hb dJ7_fill_d0a16_12 rfl (lv_at hl 2 rfl) ?_
  refine lv_iload_n hx hb dJ7_fill_d0a16_13 rfl (lv_at hl 0 rfl) ?_
  refine lv_lload_n hx hb dJ7_fill_d0a16_14 rfl (lv_at hl 3 rfl) ?_
  refine xa_lastS hx hb hK hP hD hS 0 1 rfl rfl (by omega) (by decide) (by decide +kernel) dJ7_fill_d0a16_15 (fun H locs hP hD hS => ?_)
  refine lv_iinc (v := nI 21) (lv' := [(3, .int (nI 21)), (4, .int (nI 25)), (0, .ref (h 230)), (1, .long (0 : Int64))]) hx hb dJ7_fill_d0a16_16 hl (k := 0) rfl (by decide +kernel) (by decide) rfl (fun ls hl => ?_)
  refine lv_goto (tgt := 6) hx hb dJ7_fill_d0a16_19 (by decide) ?_
  refine lv_iload_n hx hb dJ7_fill_d0a16_6 rfl (lv_at hl 0 rfl) ?_
  refine lv_iload hx hb dJ7_fill_d0a16_7 (lv_at hl 1 rfl) ?_
  refine lv_icmp_ge (tgt := 22) hx hb dJ7_fill_d0a16_9 (by decide) (fun c9 => False.elim (by revert c9; decide +kernel)) (fun _ => ?_)
  refine lv_aload_n hx hb dJ7_fill_d0a16_12 rfl (lv_at hl 2 rfl) ?_
  refine lv_iload_n hx hb dJ7_fill_d0a16_13 rfl (lv_at hl 0 rfl) ?_
  refine lv_lload_n hx hb dJ7_fill_d0a16_14 rfl (lv_at hl 3 rfl) ?_
  refine xa_lastS hx hb hK hP hD hS 0 1 rfl rfl (by omega) (by decide) (by decide +kernel) dJ7_fill_d0a16_15 (fun H locs hP hD hS => ?_)
  refine lv_iinc (v := nI 22) (lv' := [(3, .int (nI 22)), (4, .int (nI 25)), (0, .ref (h 230)), (1, .long (0 : Int64))]) hx hb dJ7_fill_d0a16_16 hl (k := 0) rfl (by decide +kernel) (by decide) rfl (fun ls hl => ?_)
  refine lv_goto (tgt := 6) hx hb dJ7_fill_d0a16_19 (by decide) ?_
  refine lv_iload_n hx hb dJ7_fill_d0a16_6 rfl (lv_at hl 0 rfl) ?_
  refine lv_iload hx hb dJ7_fill_d0a16_7 (lv_at hl 1 rfl) ?_
  refine lv_icmp_ge (tgt := 22) hx hb dJ7_fill_d0a16_9 (by decide) (fun c9 => False.elim (by revert c9; decide +kernel)) (fun _ => ?_)
  refine lv_aload_n hx hb dJ7_fill_d0a16_12 rfl (lv_at hl 2 rfl) ?_
  refine lv_iload_n hx hb dJ7_fill_d0a16_13 rfl (lv_at hl 0 rfl) ?_
  refine lv_lload_n hx hb dJ7_fill_d0a16_14 rfl (lv_at hl 3 rfl) ?_
  refine xa_lastS hx hb hK hP hD hS 0 1 rfl rfl (by omega) (by decide) (by decide +kernel) dJ7_fill_d0a16_15 (fun H locs hP hD hS => ?_)
  refine lv_iinc (v := nI 23) (lv' := [(3, .int (nI 23)), (4, .int (nI 25)), (0, .ref (h 230)), (1, .long (0 : Int64))]) hx hb dJ7_fill_d0a16_16 hl (k := 0) rfl (by decide +kernel) (by decide) rfl (fun ls hl => ?_)
  refine lv_goto (tgt := 6) hx hb dJ7_fill_d0a16_19 (by decide) ?_
  refine lv_iload_n hx hb dJ7_fill_d0a16_6 rfl (lv_at hl 0 rfl) ?_
  refine lv_iload hx hb dJ7_fill_d0a16_7 (lv_at hl 1 rfl) ?_
  refine lv_icmp_ge (tgt := 22) hx hb dJ7_fill_d0a16_9 (by decide) (fun c9 => False.elim (by revert c9; decide +kernel)) (fun _ => ?_)
  refine lv_aload_n hx hb dJ7_fill_d0a16_12 rfl (lv_at hl 2 rfl) ?_
  refine lv_iload_n hx hb dJ7_fill_d0a16_13 rfl (lv_at hl 0 rfl) ?_
  refine lv_lload_n hx hb dJ7_fill_d0a16_14 rfl (lv_at hl 3 rfl) ?_
  refine xa_lastS hx hb hK hP hD hS 0 1 rfl rfl (by omega) (by decide) (by decide +kernel) dJ7_fill_d0a16_15 (fun H locs hP hD hS => ?_)
  refine lv_iinc (v := nI 24) (lv' := [(3, .int (nI 24)), (4, .int (nI 25)), (0, .ref (h 230)), (1, .long (0 : Int64))]) hx hb dJ7_fill_d0a16_16 hl (k := 0) rfl (by decide +kernel) (by decide) rfl (fun ls hl => ?_)
  refine lv_goto (tgt := 6) hx hb dJ7_fill_d0a16_19 (by decide) ?_
  refine lv_iload_n hx hb dJ7_fill_d0a16_6 rfl (lv_at hl 0 rfl) ?_
  refine lv_iload hx hb dJ7_fill_d0a16_7 (lv_at hl 1 rfl) ?_
  refine lv_icmp_ge (tgt := 22) hx hb dJ7_fill_d0a16_9 (by decide) (fun c9 => False.elim (by revert c9; decide +kernel)) (fun _ => ?_)
  refine lv_aload_n hx hb dJ7_fill_d0a16_12 rfl (lv_at hl 2 rfl) ?_
  refine lv_iload_n hx hb dJ7_fill_d0a16_13 rfl (lv_at hl 0 rfl) ?_
  refine lv_lload_n hx hb dJ7_fill_d0a16_14 rfl (lv_at hl 3 rfl) ?_
  refine xa_lastS hx hb hK hP hD hS 0 1 rfl rfl (by omega) (by decide) (by decide +kernel) dJ7_fill_d0a16_15 (fun H locs hP hD hS => ?_)
  refine lv_iinc (v := nI 25) (lv' := [(3, .int (nI 25)), (4, .int (nI 25)), (0, .ref (h 230)), (1, .long (0 : Int64))]) hx hb dJ7_fill_d0a16_16 hl (k := 0) rfl (by decide +kernel) (by decide) rfl (fun ls hl => ?_)
  refine lv_goto (tgt := 6) hx hb dJ7_fill_d0a16_19 (by decide) ?_
  refine lv_iload_n hx hb dJ7_fill_d0a16_6 rfl (lv_at hl 0 rfl) ?_
  refine lv_iload hx hb dJ7_fill_d0a16_7 (lv_at hl 1 rfl) ?_
  refine lv_icmp_ge (tgt := 22) hx hb dJ7_fill_d0a16_9 (by decide) (fun _ => ?_) (fun c9 => False.elim (by revert c9; decide +kernel))
  exact xr_v hx hb hr hlocks hK hS dJ7_fill_d0a16_22 (fI, fL, fA, fQ, fG, fJ) ⟨trivial, rfl⟩ hP hD
set_option maxHeartbeats 4000000 in
set_option maxRecDepth 100000 in
theorem f_X5_renew2 (l : Launch) (dC : Nat → ClassId) (dI : Nat → Nat → Nat) (h : Nat → Nat) (cs : Nat → ClassId) (sz : Nat) (I : Nat → Int32) (L : Nat → Int64) (A : Nat → Nat → Int32) (Q : Nat → Nat → Int64) (G : Nat → Nat → Nat → Int32) (J : Nat → Nat → Nat → Int64) (y z : Int32) : Met l yX5_renew wsX5_renew ({ frames := 1, cells := 0, slots := 0, locals := 24 }) (va_Pc [.ref (h 112), .int y, .int z] (xPre (dC, dI) (wSh2 h cs fI fL fA fQ fG fJ) (tysA cs) sz)) (va_Qv (fun (u : CS) => ∃ zi9 : Nat → Int32, (True) ∧ u = (zi9, fL, fA, fQ, fG, fJ)) (xB (dC, dI) (tysA cs) (va_A (wSh2 h cs fI fL fA fQ fG fJ) sz) (fun u : CS => wSh2 h cs u.1 u.2.1 u.2.2.1 u.2.2.2.1 u.2.2.2.2.1 u.2.2.2.2.2)) (va_A (wSh2 h cs fI fL fA fQ fG fJ) sz)) 0 0 (va_A (wSh2 h cs fI fL fA fQ fG fJ) sz) := by
  refine Met.ofW (cc := cX5_renew) (maxL := 3) (ret := none) (by decide) rfl ?_
  intro p e s m args below meth c s₁ B hml hv
  obtain ⟨rfl, hsz, hP, hK, hD0, hN⟩ := hv
  have hx := B.exec
  have hb := B.bytes
  have hr := B.returns
  have hts := atoms_spec (ws := wsX5_renew) B.pre
  have hown : s.vm.findClass RX5 = some m.cls := findClass_of_methodNamed B.named
  have hlocks := B.notSynchronized
  subst hsz
  have hD := hD0.self (sz := s.heap.size)
  generalize hAe : va_A (wSh2 h cs fI fL fA fQ fG fJ) s.heap.size = A0 at hD ⊢
  have hA : ∀ q : Nat, s.heap.size ≤ q → A0 q := fun q h => by rw [← hAe]; exact Or.inr h
  have hl := lv_entry ([.ref (h 112), .int y, .int z]) (n := 3) (Nat.le_of_ble_eq_true rfl)
  rw [lg_entry_eq]
  generalize (lg_sl ([.ref (h 112), .int y, .int z]) ++ List.replicate (3 - (lg_sl ([.ref (h 112), .int y, .int z])).length) Slot.unset).toArray = ls at hl ⊢
  have hl : lv_has ls 3 [(0, .ref (h 112)), (1, .int y), (2, .int z)] := hl
  generalize hH : s.heap = H at hP ⊢
  have hS : va_S A0 s.heap H [] := by rw [← hH]; exact va_S.rf
  have hinX5 : ∀ w ∈ wsX50, w ∈ wsX5_renew := by decide +kernel
  refine lv_aload_n hx hb dX5_renew_0 rfl (lv_at hl 0 rfl) ?_
  refine lv_iload_n hx hb dX5_renew_1 rfl (lv_at hl 1 rfl) ?_
  refine va_put (D := (dC, dI)) (ci := 5) (v := .int y) (ty := .int) (C := RX5) (T := TX5) (N := 3) hx hb hts hinX5 tyX5 tyX5_ok nmX5 hown hK hP hD hS 0 rfl rfl 0 (by decide) (hts (.fieldLink RX5 11 "MixedWords$Sheet" "lane" "I") (by decide +kernel)) (fun _ h9 => h9) rfl (by decide +kernel) rfl rfl (Nat.le_of_ble_eq_true rfl) dX5_renew_2 (fun H locs hP hD hS => ?_)
  have hP : va_P (dC, dI) vwCl (wSh2 h cs (va_up fI 222 y) fL fA fQ fG fJ) H := hP
  have hD : va_D A0 (wSh2 h cs (va_up fI 222 y) fL fA fQ fG fJ) := hD
  refine lv_aload_n hx hb dX5_renew_5 rfl (lv_at hl 0 rfl) ?_
  refine lv_iload_n hx hb dX5_renew_6 rfl (lv_at hl 2 rfl) ?_
  refine va_put (D := (dC, dI)) (ci := 5) (v := .int z) (ty := .int) (C := RX5) (T := TX5) (N := 3) hx hb hts hinX5 tyX5 tyX5_ok nmX5 hown hK hP hD hS 0 rfl rfl 1 (by decide) (hts (.fieldLink RX5 15 "MixedWords$Sheet" "length" "I") (by decide +kernel)) (fun _ h9 => h9) rfl (by decide +kernel) rfl rfl (Nat.le_of_ble_eq_true rfl) dX5_renew_7 (fun H locs hP hD hS => ?_)
  have hP : va_P (dC, dI) vwCl (wSh2 h cs (va_up (va_up fI 222 y) 226 z) fL fA fQ fG fJ) H := hP
  have hD : va_D A0 (wSh2 h cs (va_up (va_up fI 222 y) 226 z) fL fA fQ fG fJ) := hD
  refine lv_aload_n hx hb dX5_renew_10 rfl (lv_at hl 0 rfl) ?_
  refine va_get (D := (dC, dI)) (ci := 5) (v := .ref (h 230)) (C := RX5) (T := TX5) (N := 3) hx hb hts hinX5 hown hK hP 0 rfl rfl 2 (by decide) (hts (.fieldLink RX5 18 "MixedWords$Sheet" "items" "[J") (by decide +kernel)) (fun _ h9 => h9) rfl dX5_renew_11 ?_
  refine lv_lconst (v := 0) hx hb dX5_renew_14 rfl ?_
  refine xj_v (wc := (wD_162 h cs fI fL fA fQ fG fJ)) (wr := [(h 112, .inr (5, [.int (y), .int (z), .ref (h 230)]))]) hP hD hS hA [1] [0] rfl rfl (by decide) (by decide) (va_runS (As := [.ref (h 230), .long (0 : Int64)]) (rest := []) ⟨hx, hb, hml, hown, hts⟩ (a_J7_fill_d0a16_163 l dC dI h cs H.size fI fL fA fQ fG fJ ) (va_cwS 2 hts gX5_renew_J7_fill_d0a16 rfl rfl rfl (by decide +kernel) ⟨Nat.le_of_ble_eq_true rfl, Nat.le_of_ble_eq_true rfl⟩) (xpS (wc := (wD_162 h cs fI fL fA fQ fG fJ)) hP hD hK hN [1] rfl (by decide) _) rfl rfl hl.1 rfl (lv_room (Nat.le_of_ble_eq_true rfl)) dX5_renew_15 ⟨Nat.zero_le _, Nat.zero_le _⟩) (fun u_1 H locs hw hP hD hS => ?_)
  obtain ⟨hf_3, rfl⟩ := hw
  have hP : va_P (dC, dI) vwCl (wSh2 h cs (va_up (va_up fI 222 y) 226 z) fL fA fQ fG fJ) H := hP
  have hD : va_D A0 (wSh2 h cs (va_up (va_up fI 222 y) 226 z) fL fA fQ fG fJ) := hD
  exact xr_v hx hb hr hlocks hK hS dX5_renew_18 ((va_up (va_up fI 222 y) 226 z), fL, fA, fQ, fG, fJ) ⟨(va_up (va_up fI 222 y) 226 z), trivial, rfl⟩ hP hD
def wSh3 (h : Nat → Nat) (cs : Nat → ClassId) (I : Nat → Int32) (L : Nat → Int64) (A : Nat → Nat → Int32) (Q : Nat → Nat → Int64) (G : Nat → Nat → Nat → Int32) (J : Nat → Nat → Nat → Int64) : va_W := [(h 113, .inr (5, [.int (I 223), .int (I 227), .ref (h 231)])), (h 231, .inl (cs 1, 25, .inr (.inl (Q 231))))]
def wD_164 (h : Nat → Nat) (cs : Nat → ClassId) (I : Nat → Int32) (L : Nat → Int64) (A : Nat → Nat → Int32) (Q : Nat → Nat → Int64) (G : Nat → Nat → Nat → Int32) (J : Nat → Nat → Nat → Int64) : va_W := [(h 231, .inl (cs 1, 25, .inr (.inl (Q 231))))]
set_option maxHeartbeats 4000000 in
set_option maxRecDepth 100000 in
theorem a_J7_fill_d0a16_165 (l : Launch) (dC : Nat → ClassId) (dI : Nat → Nat → Nat) (h : Nat → Nat) (cs : Nat → ClassId) (sz : Nat) (I : Nat → Int32) (L : Nat → Int64) (A : Nat → Nat → Int32) (Q : Nat → Nat → Int64) (G : Nat → Nat → Nat → Int32) (J : Nat → Nat → Nat → Int64) : Met l yJ7_fill_d0a16 wsJ7_fill_d0a16 ({ frames := 0, cells := 0, slots := 0, locals := 0 }) (va_Pc [.ref (h 231), .long (0 : Int64)] (xPre (dC, dI) (wD_164 h cs fI fL fA fQ fG fJ) (tysA cs) sz)) (va_Qv (fun (u : CS) => (True) ∧ u = (fI, fL, fA, fQ, fG, fJ)) (xB (dC, dI) (tysA cs) (va_A (wD_164 h cs fI fL fA fQ fG fJ) sz) (fun u : CS => wD_164 h cs u.1 u.2.1 u.2.2.1 u.2.2.2.1 u.2.2.2.2.1 u.2.2.2.2.2)) (va_A (wD_164 h cs fI fL fA fQ fG fJ) sz)) 0 0 (va_A (wD_164 h cs fI fL fA fQ fG fJ) sz) := by
  refine Met.ofW (cc := cJ7_fill_d0a16) (maxL := 5) (ret := none) (by decide) rfl ?_
  intro p e s m args below meth c s₁ B hml hv
  obtain ⟨rfl, hsz, hP, hK, hD0, hN⟩ := hv
  have hx := B.exec
  have hb := B.bytes
  have hr := B.returns
  have hts := atoms_spec (ws := wsJ7_fill_d0a16) B.pre
  have hown : s.vm.findClass RJ7 = some m.cls := findClass_of_methodNamed B.named
  have hlocks := B.notSynchronized
  subst hsz
  have hD := hD0.self (sz := s.heap.size)
  generalize hAe : va_A (wD_164 h cs fI fL fA fQ fG fJ) s.heap.size = A0 at hD ⊢
  have hA : ∀ q : Nat, s.heap.size ≤ q → A0 q := fun q h => by rw [← hAe]; exact Or.inr h
  have hl := lv_entry ([.ref (h 231), .long (0 : Int64)]) (n := 5) (Nat.le_of_ble_eq_true rfl)
  rw [lg_entry_eq]
  generalize (lg_sl ([.ref (h 231), .long (0 : Int64)]) ++ List.replicate (5 - (lg_sl ([.ref (h 231), .long (0 : Int64)])).length) Slot.unset).toArray = ls at hl ⊢
  have hl : lv_has ls 5 [(0, .ref (h 231)), (1, .long (0 : Int64))] := hl
  generalize hH : s.heap = H at hP ⊢
  have hS : va_S A0 s.heap H [] := by rw [← hH]; exact va_S.rf
  refine lv_iconst (v := nI 0) hx hb dJ7_fill_d0a16_0 (by decide) ?_
  refine lv_istore_n (lv' := [(3, .int (nI 0)), (0, .ref (h 231)), (1, .long (0 : Int64))]) hx hb dJ7_fill_d0a16_1 rfl hl (by decide) rfl (fun ls hl => ?_)
  refine lv_aload_n hx hb dJ7_fill_d0a16_2 rfl (lv_at hl 1 rfl) ?_
  refine xa_alen hx hb hK hP 0 1 rfl rfl (n := 25) rfl dJ7_fill_d0a16_3 ?_
  refine lv_istore (lv' := [(4, .int (nI 25)), (3, .int (nI 0)), (0, .ref (h 231)), (1, .long (0 : Int64))]) hx hb dJ7_fill_d0a16_4 hl (by decide) rfl (fun ls hl => ?_)
  refine lv_iload_n hx hb dJ7_fill_d0a16_6 rfl (lv_at hl 1 rfl) ?_
  refine lv_iload hx hb dJ7_fill_d0a16_7 (lv_at hl 0 rfl) ?_
  refine lv_icmp_ge (tgt := 22) hx hb dJ7_fill_d0a16_9 (by decide) (fun c9 => False.elim (by revert c9; decide +kernel)) (fun _ => ?_)
  refine lv_aload_n hx hb dJ7_fill_d0a16_12 rfl (lv_at hl 2 rfl) ?_
  refine lv_iload_n hx hb dJ7_fill_d0a16_13 rfl (lv_at hl 1 rfl) ?_
  refine lv_lload_n hx hb dJ7_fill_d0a16_14 rfl (lv_at hl 3 rfl) ?_
  refine xa_lastS hx hb hK hP hD hS 0 1 rfl rfl (by omega) (by decide) (by decide +kernel) dJ7_fill_d0a16_15 (fun H locs hP hD hS => ?_)
  refine lv_iinc (v := nI 1) (lv' := [(3, .int (nI 1)), (4, .int (nI 25)), (0, .ref (h 231)), (1, .long (0 : Int64))]) hx hb dJ7_fill_d0a16_16 hl (k := 1) rfl (by decide +kernel) (by decide) rfl (fun ls hl => ?_)
  refine lv_goto (tgt := 6) hx hb dJ7_fill_d0a16_19 (by decide) ?_
  refine lv_iload_n hx hb dJ7_fill_d0a16_6 rfl (lv_at hl 0 rfl) ?_
  refine lv_iload hx hb dJ7_fill_d0a16_7 (lv_at hl 1 rfl) ?_
  refine lv_icmp_ge (tgt := 22) hx hb dJ7_fill_d0a16_9 (by decide) (fun c9 => False.elim (by revert c9; decide +kernel)) (fun _ => ?_)
  refine lv_aload_n hx hb dJ7_fill_d0a16_12 rfl (lv_at hl 2 rfl) ?_
  refine lv_iload_n hx hb dJ7_fill_d0a16_13 rfl (lv_at hl 0 rfl) ?_
  refine lv_lload_n hx hb dJ7_fill_d0a16_14 rfl (lv_at hl 3 rfl) ?_
  refine xa_lastS hx hb hK hP hD hS 0 1 rfl rfl (by omega) (by decide) (by decide +kernel) dJ7_fill_d0a16_15 (fun H locs hP hD hS => ?_)
  refine lv_iinc (v := nI 2) (lv' := [(3, .int (nI 2)), (4, .int (nI 25)), (0, .ref (h 231)), (1, .long (0 : Int64))]) hx hb dJ7_fill_d0a16_16 hl (k := 0) rfl (by decide +kernel) (by decide) rfl (fun ls hl => ?_)
  refine lv_goto (tgt := 6) hx hb dJ7_fill_d0a16_19 (by decide) ?_
  refine lv_iload_n hx hb dJ7_fill_d0a16_6 rfl (lv_at hl 0 rfl) ?_
  refine lv_iload hx hb dJ7_fill_d0a16_7 (lv_at hl 1 rfl) ?_
  refine lv_icmp_ge (tgt := 22) hx hb dJ7_fill_d0a16_9 (by decide) (fun c9 => False.elim (by revert c9; decide +kernel)) (fun _ => ?_)
  refine lv_aload_n hx hb dJ7_fill_d0a16_12 rfl (lv_at hl 2 rfl) ?_
  refine lv_iload_n hx hb dJ7_fill_d0a16_13 rfl (lv_at hl 0 rfl) ?_
  refine lv_lload_n hx hb dJ7_fill_d0a16_14 rfl (lv_at hl 3 rfl) ?_
  refine xa_lastS hx hb hK hP hD hS 0 1 rfl rfl (by omega) (by decide) (by decide +kernel) dJ7_fill_d0a16_15 (fun H locs hP hD hS => ?_)
  refine lv_iinc (v := nI 3) (lv' := [(3, .int (nI 3)), (4, .int (nI 25)), (0, .ref (h 231)), (1, .long (0 : Int64))]) hx hb dJ7_fill_d0a16_16 hl (k := 0) rfl (by decide +kernel) (by decide) rfl (fun ls hl => ?_)
  refine lv_goto (tgt := 6) hx hb dJ7_fill_d0a16_19 (by decide) ?_
  refine lv_iload_n hx hb dJ7_fill_d0a16_6 rfl (lv_at hl 0 rfl) ?_
  refine lv_iload hx hb dJ7_fill_d0a16_7 (lv_at hl 1 rfl) ?_
  refine lv_icmp_ge (tgt := 22) hx hb dJ7_fill_d0a16_9 (by decide) (fun c9 => False.elim (by revert c9; decide +kernel)) (fun _ => ?_)
  refine lv_aload_n hx hb dJ7_fill_d0a16_12 rfl (lv_at hl 2 rfl) ?_
  refine lv_iload_n hx hb dJ7_fill_d0a16_13 rfl (lv_at hl 0 rfl) ?_
  refine lv_lload_n hx hb dJ7_fill_d0a16_14 rfl (lv_at hl 3 rfl) ?_
  refine xa_lastS hx hb hK hP hD hS 0 1 rfl rfl (by omega) (by decide) (by decide +kernel) dJ7_fill_d0a16_15 (fun H locs hP hD hS => ?_)
  refine lv_iinc (v := nI 4) (lv' := [(3, .int (nI 4)), (4, .int (nI 25)), (0, .ref (h 231)), (1, .long (0 : Int64))]) hx hb dJ7_fill_d0a16_16 hl (k := 0) rfl (by decide +kernel) (by decide) rfl (fun ls hl => ?_)
  refine lv_goto (tgt := 6) hx hb dJ7_fill_d0a16_19 (by decide) ?_
  refine lv_iload_n hx hb dJ7_fill_d0a16_6 rfl (lv_at hl 0 rfl) ?_
  refine lv_iload hx hb dJ7_fill_d0a16_7 (lv_at hl 1 rfl) ?_
  refine lv_icmp_ge (tgt := 22) hx hb dJ7_fill_d0a16_9 (by decide) (fun c9 => False.elim (by revert c9; decide +kernel)) (fun _ => ?_)
  refine lv_aload_n hx hb dJ7_fill_d0a16_12 rfl (lv_at hl 2 rfl) ?_
  refine lv_iload_n hx hb dJ7_fill_d0a16_13 rfl (lv_at hl 0 rfl) ?_
  refine lv_lload_n hx hb dJ7_fill_d0a16_14 rfl (lv_at hl 3 rfl) ?_
  refine xa_lastS hx hb hK hP hD hS 0 1 rfl rfl (by omega) (by decide) (by decide +kernel) dJ7_fill_d0a16_15 (fun H locs hP hD hS => ?_)
  refine lv_iinc (v := nI 5) (lv' := [(3, .int (nI 5)), (4, .int (nI 25)), (0, .ref (h 231)), (1, .long (0 : Int64))]) hx hb dJ7_fill_d0a16_16 hl (k := 0) rfl (by decide +kernel) (by decide) rfl (fun ls hl => ?_)
  refine lv_goto (tgt := 6) hx hb dJ7_fill_d0a16_19 (by decide) ?_
  refine lv_iload_n hx hb dJ7_fill_d0a16_6 rfl (lv_at hl 0 rfl) ?_
  refine lv_iload hx hb dJ7_fill_d0a16_7 (lv_at hl 1 rfl) ?_
  refine lv_icmp_ge (tgt := 22) hx hb dJ7_fill_d0a16_9 (by decide) (fun c9 => False.elim (by revert c9; decide +kernel)) (fun _ => ?_)
  refine lv_aload_n hx hb dJ7_fill_d0a16_12 rfl (lv_at hl 2 rfl) ?_
  refine lv_iload_n hx hb dJ7_fill_d0a16_13 rfl (lv_at hl 0 rfl) ?_
  refine lv_lload_n hx hb dJ7_fill_d0a16_14 rfl (lv_at hl 3 rfl) ?_
  refine xa_lastS hx hb hK hP hD hS 0 1 rfl rfl (by omega) (by decide) (by decide +kernel) dJ7_fill_d0a16_15 (fun H locs hP hD hS => ?_)
  refine lv_iinc (v := nI 6) (lv' := [(3, .int (nI 6)), (4, .int (nI 25)), (0, .ref (h 231)), (1, .long (0 : Int64))]) hx hb dJ7_fill_d0a16_16 hl (k := 0) rfl (by decide +kernel) (by decide) rfl (fun ls hl => ?_)
  refine lv_goto (tgt := 6) hx hb dJ7_fill_d0a16_19 (by decide) ?_
  refine lv_iload_n hx hb dJ7_fill_d0a16_6 rfl (lv_at hl 0 rfl) ?_
  refine lv_iload hx hb dJ7_fill_d0a16_7 (lv_at hl 1 rfl) ?_
  refine lv_icmp_ge (tgt := 22) hx hb dJ7_fill_d0a16_9 (by decide) (fun c9 => False.elim (by revert c9; decide +kernel)) (fun _ => ?_)
  refine lv_aload_n hx hb dJ7_fill_d0a16_12 rfl (lv_at hl 2 rfl) ?_
  refine lv_iload_n hx hb dJ7_fill_d0a16_13 rfl (lv_at hl 0 rfl) ?_
  refine lv_lload_n hx hb dJ7_fill_d0a16_14 rfl (lv_at hl 3 rfl) ?_
  refine xa_lastS hx hb hK hP hD hS 0 1 rfl rfl (by omega) (by decide) (by decide +kernel) dJ7_fill_d0a16_15 (fun H locs hP hD hS => ?_)
  refine lv_iinc (v := nI 7) (lv' := [(3, .int (nI 7)), (4, .int (nI 25)), (0, .ref (h 231)), (1, .long (0 : Int64))]) hx hb dJ7_fill_d0a16_16 hl (k := 0) rfl (by decide +kernel) (by decide) rfl (fun ls hl => ?_)
  refine lv_goto (tgt := 6) hx hb dJ7_fill_d0a16_19 (by decide) ?_
  refine lv_iload_n hx hb dJ7_fill_d0a16_6 rfl (lv_at hl 0 rfl) ?_
  refine lv_iload hx hb dJ7_fill_d0a16_7 (lv_at hl 1 rfl) ?_
  refine lv_icmp_ge (tgt := 22) hx hb dJ7_fill_d0a16_9 (by decide) (fun c9 => False.elim (by revert c9; decide +kernel)) (fun _ => ?_)
  refine lv_aload_n hx hb dJ7_fill_d0a16_12 rfl (lv_at hl 2 rfl) ?_
  refine lv_iload_n hx hb dJ7_fill_d0a16_13 rfl (lv_at hl 0 rfl) ?_
  refine lv_lload_n hx hb dJ7_fill_d0a16_14 rfl (lv_at hl 3 rfl) ?_
  refine xa_lastS hx hb hK hP hD hS 0 1 rfl rfl (by omega) (by decide) (by decide +kernel) dJ7_fill_d0a16_15 (fun H locs hP hD hS => ?_)
  refine lv_iinc (v := nI 8) (lv' := [(3, .int (nI 8)), (4, .int (nI 25)), (0, .ref (h 231)), (1, .long (0 : Int64))]) hx hb dJ7_fill_d0a16_16 hl (k := 0) rfl (by decide +kernel) (by decide) rfl (fun ls hl => ?_)
  refine lv_goto (tgt := 6) hx hb dJ7_fill_d0a16_19 (by decide) ?_
  refine lv_iload_n hx hb dJ7_fill_d0a16_6 rfl (lv_at hl 0 rfl) ?_
  refine lv_iload hx hb dJ7_fill_d0a16_7 (lv_at hl 1 rfl) ?_
  refine lv_icmp_ge (tgt := 22) hx hb dJ7_fill_d0a16_9 (by decide) (fun c9 => False.elim (by revert c9; decide +kernel)) (fun _ => ?_)
  refine lv_aload_n hx hb dJ7_fill_d0a16_12 rfl (lv_at hl 2 rfl) ?_
  refine lv_iload_n hx hb dJ7_fill_d0a16_13 rfl (lv_at hl 0 rfl) ?_
  refine lv_lload_n hx hb dJ7_fill_d0a16_14 rfl (lv_at hl 3 rfl) ?_
  refine xa_lastS hx hb hK hP hD hS 0 1 rfl rfl (by omega) (by decide) (by decide +kernel) dJ7_fill_d0a16_15 (fun H locs hP hD hS => ?_)
  refine lv_iinc (v := nI 9) (lv' := [(3, .int (nI 9)), (4, .int (nI 25)), (0, .ref (h 231)), (1, .long (0 : Int64))]) hx hb dJ7_fill_d0a16_16 hl (k := 0) rfl (by decide +kernel) (by decide) rfl (fun ls hl => ?_)
  refine lv_goto (tgt := 6) hx hb dJ7_fill_d0a16_19 (by decide) ?_
  refine lv_iload_n hx hb dJ7_fill_d0a16_6 rfl (lv_at hl 0 rfl) ?_
  refine lv_iload hx hb dJ7_fill_d0a16_7 (lv_at hl 1 rfl) ?_
  refine lv_icmp_ge (tgt := 22) hx hb dJ7_fill_d0a16_9 (by decide) (fun c9 => False.elim (by revert c9; decide +kernel)) (fun _ => ?_)
  refine lv_aload_n hx hb dJ7_fill_d0a16_12 rfl (lv_at hl 2 rfl) ?_
  refine lv_iload_n hx hb dJ7_fill_d0a16_13 rfl (lv_at hl 0 rfl) ?_
  refine lv_lload_n hx hb dJ7_fill_d0a16_14 rfl (lv_at hl 3 rfl) ?_
  refine xa_lastS hx hb hK hP hD hS 0 1 rfl rfl (by omega) (by decide) (by decide +kernel) dJ7_fill_d0a16_15 (fun H locs hP hD hS => ?_)
  refine lv_iinc (v := nI 10) (lv' := [(3, .int (nI 10)), (4, .int (nI 25)), (0, .ref (h 231)), (1, .long (0 : Int64))]) hx hb dJ7_fill_d0a16_16 hl (k := 0) rfl (by decide +kernel) (by decide) rfl (fun ls hl => ?_)
  refine lv_goto (tgt := 6) hx hb dJ7_fill_d0a16_19 (by decide) ?_
  refine lv_iload_n hx hb dJ7_fill_d0a16_6 rfl (lv_at hl 0 rfl) ?_
  refine lv_iload hx hb dJ7_fill_d0a16_7 (lv_at hl 1 rfl) ?_
  refine lv_icmp_ge (tgt := 22) hx hb dJ7_fill_d0a16_9 (by decide) (fun c9 => False.elim (by revert c9; decide +kernel)) (fun _ => ?_)
  refine lv_aload_n hx hb dJ7_fill_d0a16_12 rfl (lv_at hl 2 rfl) ?_
  refine lv_iload_n hx hb dJ7_fill_d0a16_13 rfl (lv_at hl 0 rfl) ?_
  refine lv_lload_n hx hb dJ7_fill_d0a16_14 rfl (lv_at hl 3 rfl) ?_
  refine xa_lastS hx hb hK hP hD hS 0 1 rfl rfl (by omega) (by decide) (by decide +kernel) dJ7_fill_d0a16_15 (fun H locs hP hD hS => ?_)
  refine lv_iinc (v := nI 11) (lv' := [(3, .int (nI 11)), (4, .int (nI 25)), (0, .ref (h 231)), (1, .long (0 : Int64))]) hx hb dJ7_fill_d0a16_16 hl (k := 0) rfl (by decide +kernel) (by decide) rfl (fun ls hl => ?_)
  refine lv_goto (tgt := 6) hx hb dJ7_fill_d0a16_19 (by decide) ?_
  refine lv_iload_n hx hb dJ7_fill_d0a16_6 rfl (lv_at hl 0 rfl) ?_
  refine lv_iload hx hb dJ7_fill_d0a16_7 (lv_at hl 1 rfl) ?_
  refine lv_icmp_ge (tgt := 22) hx hb dJ7_fill_d0a16_9 (by decide) (fun c9 => False.elim (by revert c9; decide +kernel)) (fun _ => ?_)
  refine lv_aload_n hx hb dJ7_fill_d0a16_12 rfl (lv_at hl 2 rfl) ?_
  refine lv_iload_n hx hb dJ7_fill_d0a16_13 rfl (lv_at hl 0 rfl) ?_
  refine lv_lload_n hx hb dJ7_fill_d0a16_14 rfl (lv_at hl 3 rfl) ?_
  refine xa_lastS hx hb hK hP hD hS 0 1 rfl rfl (by omega) (by decide) (by decide +kernel) dJ7_fill_d0a16_15 (fun H locs hP hD hS => ?_)
  refine lv_iinc (v := nI 12) (lv' := [(3, .int (nI 12)), (4, .int (nI 25)), (0, .ref (h 231)), (1, .long (0 : Int64))]) hx hb dJ7_fill_d0a16_16 hl (k := 0) rfl (by decide +kernel) (by decide) rfl (fun ls hl => ?_)
  refine lv_goto (tgt := 6) hx hb dJ7_fill_d0a16_19 (by decide) ?_
  refine lv_iload_n hx hb dJ7_fill_d0a16_6 rfl (lv_at hl 0 rfl) ?_
  refine lv_iload hx hb dJ7_fill_d0a16_7 (lv_at hl 1 rfl) ?_
  refine lv_icmp_ge (tgt := 22) hx hb dJ7_fill_d0a16_9 (by decide) (fun c9 => False.elim (by revert c9; decide +kernel)) (fun _ => ?_)
  refine lv_aload_n hx hb dJ7_fill_d0a16_12 rfl (lv_at hl 2 rfl) ?_
  refine lv_iload_n hx hb dJ7_fill_d0a16_13 rfl (lv_at hl 0 rfl) ?_
  refine lv_lload_n hx hb dJ7_fill_d0a16_14 rfl (lv_at hl 3 rfl) ?_
  refine xa_lastS hx hb hK hP hD hS 0 1 rfl rfl (by omega) (by decide) (by decide +kernel) dJ7_fill_d0a16_15 (fun H locs hP hD hS => ?_)
  refine lv_iinc (v := nI 13) (lv' := [(3, .int (nI 13)), (4, .int (nI 25)), (0, .ref (h 231)), (1, .long (0 : Int64))]) hx hb dJ7_fill_d0a16_16 hl (k := 0) rfl (by decide +kernel) (by decide) rfl (fun ls hl => ?_)
  refine lv_goto (tgt := 6) hx hb dJ7_fill_d0a16_19 (by decide) ?_
  refine lv_iload_n hx hb dJ7_fill_d0a16_6 rfl (lv_at hl 0 rfl) ?_
  refine lv_iload hx hb dJ7_fill_d0a16_7 (lv_at hl 1 rfl) ?_
  refine lv_icmp_ge (tgt := 22) hx hb dJ7_fill_d0a16_9 (by decide) (fun c9 => False.elim (by revert c9; decide +kernel)) (fun _ => ?_)
  refine lv_aload_n hx hb dJ7_fill_d0a16_12 rfl (lv_at hl 2 rfl) ?_
  refine lv_iload_n hx hb dJ7_fill_d0a16_13 rfl (lv_at hl 0 rfl) ?_
  refine lv_lload_n hx hb dJ7_fill_d0a16_14 rfl (lv_at hl 3 rfl) ?_
  refine xa_lastS hx hb hK hP hD hS 0 1 rfl rfl (by omega) (by decide) (by decide +kernel) dJ7_fill_d0a16_15 (fun H locs hP hD hS => ?_)
  refine lv_iinc (v := nI 14) (lv' := [(3, .int (nI 14)), (4, .int (nI 25)), (0, .ref (h 231)), (1, .long (0 : Int64))]) hx hb dJ7_fill_d0a16_16 hl (k := 0) rfl (by decide +kernel) (by decide) rfl (fun ls hl => ?_)
  refine lv_goto (tgt := 6) hx hb dJ7_fill_d0a16_19 (by decide) ?_
  refine lv_iload_n hx hb dJ7_fill_d0a16_6 rfl (lv_at hl 0 rfl) ?_
  refine lv_iload hx hb dJ7_fill_d0a16_7 (lv_at hl 1 rfl) ?_
  refine lv_icmp_ge (tgt := 22) hx hb dJ7_fill_d0a16_9 (by decide) (fun c9 => False.elim (by revert c9; decide +kernel)) (fun _ => ?_)
  refine lv_aload_n hx hb dJ7_fill_d0a16_12 rfl (lv_at hl 2 rfl) ?_
  refine lv_iload_n hx hb dJ7_fill_d0a16_13 rfl (lv_at hl 0 rfl) ?_
  refine lv_lload_n hx hb dJ7_fill_d0a16_14 rfl (lv_at hl 3 rfl) ?_
  refine xa_lastS hx hb hK hP hD hS 0 1 rfl rfl (by omega) (by decide) (by decide +kernel) dJ7_fill_d0a16_15 (fun H locs hP hD hS => ?_)
  refine lv_iinc (v := nI 15) (lv' := [(3, .int (nI 15)), (4, .int (nI 25)), (0, .ref (h 231)), (1, .long (0 : Int64))]) hx hb dJ7_fill_d0a16_16 hl (k := 0) rfl (by decide +kernel) (by decide) rfl (fun ls hl => ?_)
  refine lv_goto (tgt := 6) hx hb dJ7_fill_d0a16_19 (by decide) ?_
  refine lv_iload_n hx hb dJ7_fill_d0a16_6 rfl (lv_at hl 0 rfl) ?_
  refine lv_iload hx hb dJ7_fill_d0a16_7 (lv_at hl 1 rfl) ?_
  refine lv_icmp_ge (tgt := 22) hx hb dJ7_fill_d0a16_9 (by decide) (fun c9 => False.elim (by revert c9; decide +kernel)) (fun _ => ?_)
  refine lv_aload_n hx hb dJ7_fill_d0a16_12 rfl (lv_at hl 2 rfl) ?_
  refine lv_iload_n hx hb dJ7_fill_d0a16_13 rfl (lv_at hl 0 rfl) ?_
  refine lv_lload_n hx hb dJ7_fill_d0a16_14 rfl (lv_at hl 3 rfl) ?_
  refine xa_lastS hx hb hK hP hD hS 0 1 rfl rfl (by omega) (by decide) (by decide +kernel) dJ7_fill_d0a16_15 (fun H locs hP hD hS => ?_)
  refine lv_iinc (v := nI 16) (lv' := [(3, .int (nI 16)), (4, .int (nI 25)), (0, .ref (h 231)), (1, .long (0 : Int64))]) hx hb dJ7_fill_d0a16_16 hl (k := 0) rfl (by decide +kernel) (by decide) rfl (fun ls hl => ?_)
  refine lv_goto (tgt := 6) hx hb dJ7_fill_d0a16_19 (by decide) ?_
  refine lv_iload_n hx hb dJ7_fill_d0a16_6 rfl (lv_at hl 0 rfl) ?_
  refine lv_iload hx hb dJ7_fill_d0a16_7 (lv_at hl 1 rfl) ?_
  refine lv_icmp_ge (tgt := 22) hx hb dJ7_fill_d0a16_9 (by decide) (fun c9 => False.elim (by revert c9; decide +kernel)) (fun _ => ?_)
  refine lv_aload_n hx hb dJ7_fill_d0a16_12 rfl (lv_at hl 2 rfl) ?_
  refine lv_iload_n hx hb dJ7_fill_d0a16_13 rfl (lv_at hl 0 rfl) ?_
  refine lv_lload_n hx hb dJ7_fill_d0a16_14 rfl (lv_at hl 3 rfl) ?_
  refine xa_lastS hx hb hK hP hD hS 0 1 rfl rfl (by omega) (by decide) (by decide +kernel) dJ7_fill_d0a16_15 (fun H locs hP hD hS => ?_)
  refine lv_iinc (v := nI 17) (lv' := [(3, .int (nI 17)), (4, .int (nI 25)), (0, .ref (h 231)), (1, .long (0 : Int64))]) hx hb dJ7_fill_d0a16_16 hl (k := 0) rfl (by decide +kernel) (by decide) rfl (fun ls hl => ?_)
  refine lv_goto (tgt := 6) hx hb dJ7_fill_d0a16_19 (by decide) ?_
  refine lv_iload_n hx hb dJ7_fill_d0a16_6 rfl (lv_at hl 0 rfl) ?_
  refine lv_iload hx hb dJ7_fill_d0a16_7 (lv_at hl 1 rfl) ?_
  refine lv_icmp_ge (tgt := 22) hx hb dJ7_fill_d0a16_9 (by decide) (fun c9 => False.elim (by revert c9; decide +kernel)) (fun _ => ?_)
  refine lv_aload_n hx hb dJ7_fill_d0a16_12 rfl (lv_at hl 2 rfl) ?_
  refine lv_iload_n hx hb dJ7_fill_d0a16_13 rfl (lv_at hl 0 rfl) ?_
  refine lv_lload_n hx hb dJ7_fill_d0a16_14 rfl (lv_at hl 3 rfl) ?_
  refine xa_lastS hx hb hK hP hD hS 0 1 rfl rfl (by omega) (by decide) (by decide +kernel) dJ7_fill_d0a16_15 (fun H locs hP hD hS => ?_)
  refine lv_iinc (v := nI 18) (lv' := [(3, .int (nI 18)), (4, .int (nI 25)), (0, .ref (h 231)), (1, .long (0 : Int64))]) hx hb dJ7_fill_d0a16_16 hl (k := 0) rfl (by decide +kernel) (by decide) rfl (fun ls hl => ?_)
  refine lv_goto (tgt := 6) hx hb dJ7_fill_d0a16_19 (by decide) ?_
  refine lv_iload_n hx hb dJ7_fill_d0a16_6 rfl (lv_at hl 0 rfl) ?_
  refine lv_iload hx hb dJ7_fill_d0a16_7 (lv_at hl 1 rfl) ?_
  refine lv_icmp_ge (tgt := 22) hx hb dJ7_fill_d0a16_9 (by decide) (fun c9 => False.elim (by revert c9; decide +kernel)) (fun _ => ?_)
  refine lv_aload_n hx hb dJ7_fill_d0a16_12 rfl (lv_at hl 2 rfl) ?_
  refine lv_iload_n hx hb dJ7_fill_d0a16_13 rfl (lv_at hl 0 rfl) ?_
  refine lv_lload_n hx hb dJ7_fill_d0a16_14 rfl (lv_at hl 3 rfl) ?_
  refine xa_lastS hx hb hK hP hD hS 0 1 rfl rfl (by omega) (by decide) (by decide +kernel) dJ7_fill_d0a16_15 (fun H locs hP hD hS => ?_)
  refine lv_iinc (v := nI 19) (lv' := [(3, .int (nI 19)), (4, .int (nI 25)), (0, .ref (h 231)), (1, .long (0 : Int64))]) hx hb dJ7_fill_d0a16_16 hl (k := 0) rfl (by decide +kernel) (by decide) rfl (fun ls hl => ?_)
  refine lv_goto (tgt := 6) hx hb dJ7_fill_d0a16_19 (by decide) ?_
  refine lv_iload_n hx hb dJ7_fill_d0a16_6 rfl (lv_at hl 0 rfl) ?_
  refine lv_iload hx hb dJ7_fill_d0a16_7 (lv_at hl 1 rfl) ?_
  refine lv_icmp_ge (tgt := 22) hx hb dJ7_fill_d0a16_9 (by decide) (fun c9 => False.elim (by revert c9; decide +kernel)) (fun _ => ?_)
  refine lv_aload_n hx hb dJ7_fill_d0a16_12 rfl (lv_at hl 2 rfl) ?_
  refine lv_iload_n hx hb dJ7_fill_d0a16_13 rfl (lv_at hl 0 rfl) ?_
  refine lv_lload_n hx hb dJ7_fill_d0a16_14 rfl (lv_at hl 3 rfl) ?_
  refine xa_lastS hx hb hK hP hD hS 0 1 rfl rfl (by omega) (by decide) (by decide +kernel) dJ7_fill_d0a16_15 (fun H locs hP hD hS => ?_)
  refine lv_iinc (v := nI 20) (lv' := [(3, .int (nI 20)), (4, .int (nI 25)), (0, .ref (h 231)), (1, .long (0 : Int64))]) hx hb dJ7_fill_d0a16_16 hl (k := 0) rfl (by decide +kernel) (by decide) rfl (fun ls hl => ?_)
  refine lv_goto (tgt := 6) hx hb dJ7_fill_d0a16_19 (by decide) ?_
  refine lv_iload_n hx hb dJ7_fill_d0a16_6 rfl (lv_at hl 0 rfl) ?_
  refine lv_iload hx hb dJ7_fill_d0a16_7 (lv_at hl 1 rfl) ?_
  refine lv_icmp_ge (tgt := 22) hx hb dJ7_fill_d0a16_9 (by decide) (fun c9 => False.elim (by revert c9; decide +kernel)) (fun _ => ?_)
  refine lv_aload_n hx hb dJ7_fill_d0a16_12 rfl (lv_at hl 2 rfl) ?_
  refine lv_iload_n hx hb dJ7_fill_d0a16_13 rfl (lv_at hl 0 rfl) ?_
  refine lv_lload_n hx hb dJ7_fill_d0a16_14 rfl (lv_at hl 3 rfl) ?_
  refine xa_lastS hx hb hK hP hD hS 0 1 rfl rfl (by omega) (by decide) (by decide +kernel) dJ7_fill_d0a16_15 (fun H locs hP hD hS => ?_)
  refine lv_iinc (v := nI 21) (lv' := [(3, .int (nI 21)), (4, .int (nI 25)), (0, .ref (h 231)), (1, .long (0 : Int64))]) hx hb dJ7_fill_d0a16_16 hl (k := 0) rfl (by decide +kernel) (by decide) rfl (fun ls hl => ?_)
  refine lv_goto (tgt := 6) hx hb dJ7_fill_d0a16_19 (by decide) ?_
  refine lv_iload_n hx hb dJ7_fill_d0a16_6 rfl (lv_at hl 0 rfl) ?_
  refine lv_iload hx hb dJ7_fill_d0a16_7 (lv_at hl 1 rfl) ?_
  refine lv_icmp_ge (tgt := 22) hx hb dJ7_fill_d0a16_9 (by decide) (fun c9 => False.elim (by revert c9; decide +kernel)) (fun _ => ?_)
  refine lv_aload_n hx hb dJ7_fill_d0a16_12 rfl (lv_at hl 2 rfl) ?_
  refine lv_iload_n hx hb dJ7_fill_d0a16_13 rfl (lv_at hl 0 rfl) ?_
  refine lv_lload_n hx hb dJ7_fill_d0a16_14 rfl (lv_at hl 3 rfl) ?_
  refine xa_lastS hx hb hK hP hD hS 0 1 rfl rfl (by omega) (by decide) (by decide +kernel) dJ7_fill_d0a16_15 (fun H locs hP hD hS => ?_)
  refine lv_iinc (v := nI 22) (lv' := [(3, .int (nI 22)), (4, .int (nI 25)), (0, .ref (h 231)), (1, .long (0 : Int64))]) hx hb dJ7_fill_d0a16_16 hl (k := 0) rfl (by decide +kernel) (by decide) rfl (fun ls hl => ?_)
  refine lv_goto (tgt := 6) hx hb dJ7_fill_d0a16_19 (by decide) ?_
  refine lv_iload_n hx hb dJ7_fill_d0a16_6 rfl (lv_at hl 0 rfl) ?_
  refine lv_iload hx hb dJ7_fill_d0a16_7 (lv_at hl 1 rfl) ?_
  refine lv_icmp_ge (tgt := 22) hx hb dJ7_fill_d0a16_9 (by decide) (fun c9 => False.elim (by revert c9; decide +kernel)) (fun _ => ?_)
  refine lv_aload_n hx hb dJ7_fill_d0a16_12 rfl (lv_at hl 2 rfl) ?_
  refine lv_iload_n hx hb dJ7_fill_d0a16_13 rfl (lv_at hl 0 rfl) ?_
  refine lv_lload_n hx hb dJ7_fill_d0a16_14 rfl (lv_at hl 3 rfl) ?_
  refine xa_lastS hx hb hK hP hD hS 0 1 rfl rfl (by omega) (by decide) (by decide +kernel) dJ7_fill_d0a16_15 (fun H locs hP hD hS => ?_)
  refine lv_iinc (v := nI 23) (lv' := [(3, .int (nI 23)), (4, .int (nI 25)), (0, .ref (h 231)), (1, .long (0 : Int64))]) hx hb dJ7_fill_d0a16_16 hl (k := 0) rfl (by decide +kernel) (by decide) rfl (fun ls hl => ?_)
  refine lv_goto (tgt := 6) hx hb dJ7_fill_d0a16_19 (by decide) ?_
  refine lv_iload_n hx hb dJ7_fill_d0a16_6 rfl (lv_at hl 0 rfl) ?_
  refine lv_iload hx hb dJ7_fill_d0a16_7 (lv_at hl 1 rfl) ?_
  refine lv_icmp_ge (tgt := 22) hx hb dJ7_fill_d0a16_9 (by decide) (fun c9 => False.elim (by revert c9; decide +kernel)) (fun _ => ?_)
  refine lv_aload_n hx hb dJ7_fill_d0a16_12 rfl (lv_at hl 2 rfl) ?_
  refine lv_iload_n hx hb dJ7_fill_d0a16_13 rfl (lv_at hl 0 rfl) ?_
  refine lv_lload_n hx hb dJ7_fill_d0a16_14 rfl (lv_at hl 3 rfl) ?_
  refine xa_lastS hx hb hK hP hD hS 0 1 rfl rfl (by omega) (by decide) (by decide +kernel) dJ7_fill_d0a16_15 (fun H locs hP hD hS => ?_)
  refine lv_iinc (v := nI 24) (lv' := [(3, .int (nI 24)), (4, .int (nI 25)), (0, .ref (h 231)), (1, .long (0 : Int64))]) hx hb dJ7_fill_d0a16_16 hl (k := 0) rfl (by decide +kernel) (by decide) rfl (fun ls hl => ?_)
  refine lv_goto (tgt := 6) hx hb dJ7_fill_d0a16_19 (by decide) ?_
  refine lv_iload_n hx hb dJ7_fill_d0a16_6 rfl (lv_at hl 0 rfl) ?_
  refine lv_iload hx hb dJ7_fill_d0a16_7 (lv_at hl 1 rfl) ?_
  refine lv_icmp_ge (tgt := 22) hx hb dJ7_fill_d0a16_9 (by decide) (fun c9 => False.elim (by revert c9; decide +kernel)) (fun _ => ?_)
  refine lv_aload_n hx hb dJ7_fill_d0a16_12 rfl (lv_at hl 2 rfl) ?_
  refine lv_iload_n hx hb dJ7_fill_d0a16_13 rfl (lv_at hl 0 rfl) ?_
  refine lv_lload_n hx hb dJ7_fill_d0a16_14 rfl (lv_at hl 3 rfl) ?_
  refine xa_lastS hx hb hK hP hD hS 0 1 rfl rfl (by omega) (by decide) (by decide +kernel) dJ7_fill_d0a16_15 (fun H locs hP hD hS => ?_)
  refine lv_iinc (v := nI 25) (lv' := [(3, .int (nI 25)), (4, .int (nI 25)), (0, .ref (h 231)), (1, .long (0 : Int64))]) hx hb dJ7_fill_d0a16_16 hl (k := 0) rfl (by decide +kernel) (by decide) rfl (fun ls hl => ?_)
  refine lv_goto (tgt := 6) hx hb dJ7_fill_d0a16_19 (by decide) ?_
  refine lv_iload_n hx hb dJ7_fill_d0a16_6 rfl (lv_at hl 0 rfl) ?_
  refine lv_iload hx hb dJ7_fill_d0a16_7 (lv_at hl 1 rfl) ?_
  refine lv_icmp_ge (tgt := 22) hx hb dJ7_fill_d0a16_9 (by decide) (fun _ => ?_) (fun c9 => False.elim (by revert c9; decide +kernel))
  exact xr_v hx hb hr hlocks hK hS dJ7_fill_d0a16_22 (fI, fL, fA, fQ, fG, fJ) ⟨trivial, rfl⟩ hP hD
set_option maxHeartbeats 4000000 in
set_option maxRecDepth 100000 in
theorem f_X5_renew3 (l : Launch) (dC : Nat → ClassId) (dI : Nat → Nat → Nat) (h : Nat → Nat) (cs : Nat → ClassId) (sz : Nat) (I : Nat → Int32) (L : Nat → Int64) (A : Nat → Nat → Int32) (Q : Nat → Nat → Int64) (G : Nat → Nat → Nat → Int32) (J : Nat → Nat → Nat → Int64) (y z : Int32) : Met l yX5_renew wsX5_renew ({ frames := 1, cells := 0, slots := 0, locals := 24 }) (va_Pc [.ref (h 113), .int y, .int z] (xPre (dC, dI) (wSh3 h cs fI fL fA fQ fG fJ) (tysA cs) sz)) (va_Qv (fun (u : CS) => ∃ zi9 : Nat → Int32, (True) ∧ u = (zi9, fL, fA, fQ, fG, fJ)) (xB (dC, dI) (tysA cs) (va_A (wSh3 h cs fI fL fA fQ fG fJ) sz) (fun u : CS => wSh3 h cs u.1 u.2.1 u.2.2.1 u.2.2.2.1 u.2.2.2.2.1 u.2.2.2.2.2)) (va_A (wSh3 h cs fI fL fA fQ fG fJ) sz)) 0 0 (va_A (wSh3 h cs fI fL fA fQ fG fJ) sz) := by
  refine Met.ofW (cc := cX5_renew) (maxL := 3) (ret := none) (by decide) rfl ?_
  intro p e s m args below meth c s₁ B hml hv
  obtain ⟨rfl, hsz, hP, hK, hD0, hN⟩ := hv
  have hx := B.exec
  have hb := B.bytes
  have hr := B.returns
  have hts := atoms_spec (ws := wsX5_renew) B.pre
  have hown : s.vm.findClass RX5 = some m.cls := findClass_of_methodNamed B.named
  have hlocks := B.notSynchronized
  subst hsz
  have hD := hD0.self (sz := s.heap.size)
  generalize hAe : va_A (wSh3 h cs fI fL fA fQ fG fJ) s.heap.size = A0 at hD ⊢
  have hA : ∀ q : Nat, s.heap.size ≤ q → A0 q := fun q h => by rw [← hAe]; exact Or.inr h
  have hl := lv_entry ([.ref (h 113), .int y, .int z]) (n := 3) (Nat.le_of_ble_eq_true rfl)
  rw [lg_entry_eq]
  generalize (lg_sl ([.ref (h 113), .int y, .int z]) ++ List.replicate (3 - (lg_sl ([.ref (h 113), .int y, .int z])).length) Slot.unset).toArray = ls at hl ⊢
  have hl : lv_has ls 3 [(0, .ref (h 113)), (1, .int y), (2, .int z)] := hl
  generalize hH : s.heap = H at hP ⊢
  have hS : va_S A0 s.heap H [] := by rw [← hH]; exact va_S.rf
  have hinX5 : ∀ w ∈ wsX50, w ∈ wsX5_renew := by decide +kernel
  refine lv_aload_n hx hb dX5_renew_0 rfl (lv_at hl 0 rfl) ?_
  refine lv_iload_n hx hb dX5_renew_1 rfl (lv_at hl 1 rfl) ?_
  refine va_put (D := (dC, dI)) (ci := 5) (v := .int y) (ty := .int) (C := RX5) (T := TX5) (N := 3) hx hb hts hinX5 tyX5 tyX5_ok nmX5 hown hK hP hD hS 0 rfl rfl 0 (by decide) (hts (.fieldLink RX5 11 "MixedWords$Sheet" "lane" "I") (by decide +kernel)) (fun _ h9 => h9) rfl (by decide +kernel) rfl rfl (Nat.le_of_ble_eq_true rfl) dX5_renew_2 (fun H locs hP hD hS => ?_)
  have hP : va_P (dC, dI) vwCl (wSh3 h cs (va_up fI 223 y) fL fA fQ fG fJ) H := hP
  have hD : va_D A0 (wSh3 h cs (va_up fI 223 y) fL fA fQ fG fJ) := hD
  refine lv_aload_n hx hb dX5_renew_5 rfl (lv_at hl 0 rfl) ?_
  refine lv_iload_n hx hb dX5_renew_6 rfl (lv_at hl 2 rfl) ?_
  refine va_put (D := (dC, dI)) (ci := 5) (v := .int z) (ty := .int) (C := RX5) (T := TX5) (N := 3) hx hb hts hinX5 tyX5 tyX5_ok nmX5 hown hK hP hD hS 0 rfl rfl 1 (by decide) (hts (.fieldLink RX5 15 "MixedWords$Sheet" "length" "I") (by decide +kernel)) (fun _ h9 => h9) rfl (by decide +kernel) rfl rfl (Nat.le_of_ble_eq_true rfl) dX5_renew_7 (fun H locs hP hD hS => ?_)
  have hP : va_P (dC, dI) vwCl (wSh3 h cs (va_up (va_up fI 223 y) 227 z) fL fA fQ fG fJ) H := hP
  have hD : va_D A0 (wSh3 h cs (va_up (va_up fI 223 y) 227 z) fL fA fQ fG fJ) := hD
  refine lv_aload_n hx hb dX5_renew_10 rfl (lv_at hl 0 rfl) ?_
  refine va_get (D := (dC, dI)) (ci := 5) (v := .ref (h 231)) (C := RX5) (T := TX5) (N := 3) hx hb hts hinX5 hown hK hP 0 rfl rfl 2 (by decide) (hts (.fieldLink RX5 18 "MixedWords$Sheet" "items" "[J") (by decide +kernel)) (fun _ h9 => h9) rfl dX5_renew_11 ?_
  refine lv_lconst (v := 0) hx hb dX5_renew_14 rfl ?_
  refine xj_v (wc := (wD_164 h cs fI fL fA fQ fG fJ)) (wr := [(h 113, .inr (5, [.int (y), .int (z), .ref (h 231)]))]) hP hD hS hA [1] [0] rfl rfl (by decide) (by decide) (va_runS (As := [.ref (h 231), .long (0 : Int64)]) (rest := []) ⟨hx, hb, hml, hown, hts⟩ (a_J7_fill_d0a16_165 l dC dI h cs H.size fI fL fA fQ fG fJ ) (va_cwS 2 hts gX5_renew_J7_fill_d0a16 rfl rfl rfl (by decide +kernel) ⟨Nat.le_of_ble_eq_true rfl, Nat.le_of_ble_eq_true rfl⟩) (xpS (wc := (wD_164 h cs fI fL fA fQ fG fJ)) hP hD hK hN [1] rfl (by decide) _) rfl rfl hl.1 rfl (lv_room (Nat.le_of_ble_eq_true rfl)) dX5_renew_15 ⟨Nat.zero_le _, Nat.zero_le _⟩) (fun u_1 H locs hw hP hD hS => ?_)
  obtain ⟨hf_3, rfl⟩ := hw
  have hP : va_P (dC, dI) vwCl (wSh3 h cs (va_up (va_up fI 223 y) 227 z) fL fA fQ fG fJ) H := hP
  have hD : va_D A0 (wSh3 h cs (va_up (va_up fI 223 y) 227 z) fL fA fQ fG fJ) := hD
  exact xr_v hx hb hr hlocks hK hS dX5_renew_18 ((va_up (va_up fI 223 y) 227 z), fL, fA, fQ, fG, fJ) ⟨(va_up (va_up fI 223 y) 227 z), trivial, rfl⟩ hP hD
set_option maxRecDepth 20000 in
theorem ggX9_sheet_X9_isSheet : GoodIn wsX9_sheet wsX9_isSheet := goodIn_r _ [5] (by decide +kernel) (by decide +kernel)
set_option maxRecDepth 20000 in
theorem gX9_sheet_X9_isSheet : GoodIn wsX9_sheet (va_wsS RX9 266 yX9_isSheet wsX9_isSheet) := goodIn_app (goodIn_of _ (by decide +kernel)) ggX9_sheet_X9_isSheet
set_option maxRecDepth 20000 in
theorem ggX9_sheet_X9_isLane : GoodIn wsX9_sheet wsX9_isLane := goodIn_r _ [8] (by decide +kernel) (by decide +kernel)
set_option maxRecDepth 20000 in
theorem gX9_sheet_X9_isLane : GoodIn wsX9_sheet (va_wsS RX9 269 yX9_isLane wsX9_isLane) := goodIn_app (goodIn_of _ (by decide +kernel)) ggX9_sheet_X9_isLane
set_option maxRecDepth 20000 in
theorem ggX9_sheet_X5_renew : GoodIn wsX9_sheet wsX5_renew := goodIn_r _ [13, 14, 15, 16, 17, 18, 19, 20, 30, 31, 32] (by decide +kernel) (by decide +kernel)
set_option maxRecDepth 20000 in
theorem gX9_sheet_X5_renew : GoodIn wsX9_sheet (wsV RX9 272 RX5 yX5_renew wsX5_renew) := goodIn_app (goodIn_of _ (by decide +kernel)) ggX9_sheet_X5_renew
theorem dX9_sheet_0 : decode cX9_sheet 0 = .ok (.iload_n 1, 1) := by decide +kernel
theorem dX9_sheet_1 : decode cX9_sheet 1 = .ok (.invokestatic 266, 3) := by decide +kernel
theorem dX9_sheet_4 : decode cX9_sheet 4 = .ok (.ifCond .eq 16, 3) := by decide +kernel
theorem dX9_sheet_7 : decode cX9_sheet 7 = .ok (.iload_n 2, 1) := by decide +kernel
theorem dX9_sheet_8 : decode cX9_sheet 8 = .ok (.invokestatic 269, 3) := by decide +kernel
theorem dX9_sheet_11 : decode cX9_sheet 11 = .ok (.ifCond .eq 9, 3) := by decide +kernel
theorem dX9_sheet_14 : decode cX9_sheet 14 = .ok (.iload_n 3, 1) := by decide +kernel
theorem dX9_sheet_15 : decode cX9_sheet 15 = .ok (.bipush 25, 2) := by decide +kernel
theorem dX9_sheet_17 : decode cX9_sheet 17 = .ok (.if_icmp .le 5, 3) := by decide +kernel
theorem dX9_sheet_20 : decode cX9_sheet 20 = .ok (.iconst (-1), 1) := by decide +kernel
theorem dX9_sheet_21 : decode cX9_sheet 21 = .ok (.ireturn, 1) := by decide +kernel
theorem dX9_sheet_22 : decode cX9_sheet 22 = .ok (.iload_n 3, 1) := by decide +kernel
theorem dX9_sheet_23 : decode cX9_sheet 23 = .ok (.ifCond .ge 6, 3) := by decide +kernel
theorem dX9_sheet_26 : decode cX9_sheet 26 = .ok (.bipush (-14), 2) := by decide +kernel
theorem dX9_sheet_28 : decode cX9_sheet 28 = .ok (.ireturn, 1) := by decide +kernel
theorem dX9_sheet_29 : decode cX9_sheet 29 = .ok (.aload_n 0, 1) := by decide +kernel
theorem dX9_sheet_30 : decode cX9_sheet 30 = .ok (.getfield 71, 3) := by decide +kernel
theorem dX9_sheet_33 : decode cX9_sheet 33 = .ok (.iload_n 1, 1) := by decide +kernel
theorem dX9_sheet_34 : decode cX9_sheet 34 = .ok (.aaload, 1) := by decide +kernel
theorem dX9_sheet_35 : decode cX9_sheet 35 = .ok (.iload_n 2, 1) := by decide +kernel
theorem dX9_sheet_36 : decode cX9_sheet 36 = .ok (.iload_n 3, 1) := by decide +kernel
theorem dX9_sheet_37 : decode cX9_sheet 37 = .ok (.invokevirtual 272, 3) := by decide +kernel
theorem dX9_sheet_40 : decode cX9_sheet 40 = .ok (.iload_n 3, 1) := by decide +kernel
theorem dX9_sheet_41 : decode cX9_sheet 41 = .ok (.ireturn, 1) := by decide +kernel
set_option maxHeartbeats 4000000 in
set_option maxRecDepth 100000 in
theorem f_X9_sheet (l : Launch) (dC : Nat → ClassId) (dI : Nat → Nat → Nat) (h : Nat → Nat) (cs : Nat → ClassId) (sz : Nat) (I : Nat → Int32) (L : Nat → Int64) (A : Nat → Nat → Int32) (Q : Nat → Nat → Int64) (G : Nat → Nat → Nat → Int32) (J : Nat → Nat → Nat → Int64) (x y z : Int32) : Met l yX9_sheet wsX9_sheet ({ frames := 2, cells := 0, slots := 0, locals := 46 }) (va_Pc [.ref (h 100), .int x, .int y, .int z] (xPre (dC, dI) (wAll h cs fI fL fA fQ fG fJ) (tysA cs) sz)) (va_Qi (fun (r : Int32) (u : CS) => (r = an_sheet x y z) ∧ u = (fI, fL, fA, fQ, fG, fJ)) (xB (dC, dI) (tysA cs) (va_A (wAll h cs fI fL fA fQ fG fJ) sz) (fun u : CS => wAll h cs u.1 u.2.1 u.2.2.1 u.2.2.2.1 u.2.2.2.2.1 u.2.2.2.2.2)) (va_A (wAll h cs fI fL fA fQ fG fJ) sz)) 0 0 (va_A (wAll h cs fI fL fA fQ fG fJ) sz) := by
  refine Met.ofW (cc := cX9_sheet) (maxL := 4) (ret := (some .int)) (by decide) rfl ?_
  intro p e s m args below meth c s₁ B hml hv
  obtain ⟨rfl, hsz, hP, hK, hD0, hN⟩ := hv
  have hx := B.exec
  have hb := B.bytes
  have hr := B.returns
  have hts := atoms_spec (ws := wsX9_sheet) B.pre
  have hown : s.vm.findClass RX9 = some m.cls := findClass_of_methodNamed B.named
  have hlocks := B.notSynchronized
  subst hsz
  have hD := hD0.self (sz := s.heap.size)
  generalize hAe : va_A (wAll h cs fI fL fA fQ fG fJ) s.heap.size = A0 at hD ⊢
  have hA : ∀ q : Nat, s.heap.size ≤ q → A0 q := fun q h => by rw [← hAe]; exact Or.inr h
  have hl := lv_entry ([.ref (h 100), .int x, .int y, .int z]) (n := 4) (Nat.le_of_ble_eq_true rfl)
  rw [lg_entry_eq]
  generalize (lg_sl ([.ref (h 100), .int x, .int y, .int z]) ++ List.replicate (4 - (lg_sl ([.ref (h 100), .int x, .int y, .int z])).length) Slot.unset).toArray = ls at hl ⊢
  have hl : lv_has ls 4 [(0, .ref (h 100)), (1, .int x), (2, .int y), (3, .int z)] := hl
  generalize hH : s.heap = H at hP ⊢
  have hS : va_S A0 s.heap H [] := by rw [← hH]; exact va_S.rf
  have hinX9 : ∀ w ∈ wsX90, w ∈ wsX9_sheet := by decide +kernel
  rcases splR x 0 3 (by decide) with ⟨i_x, h_x, g_x, rfl⟩ | hz_x
  · skip
    rcases (show i_x = 0 ∨ i_x = 1 ∨ i_x = 2 ∨ i_x = 3 by omega) with rfl | rfl | rfl | rfl
    · skip
      rcases splR y 0 2 (by decide) with ⟨i_y, h_y, g_y, rfl⟩ | hz_y
      · skip
        rcases (show i_y = 0 ∨ i_y = 1 ∨ i_y = 2 by omega) with rfl | rfl | rfl
        · skip
          refine lv_iload_n hx hb dX9_sheet_0 rfl (lv_at hl 1 rfl) ?_
          refine xj_i (wc := ([] : va_W)) (wr := (wAll h cs fI fL fA fQ fG fJ)) hP hD hS hA [] [0, 1, 2, 3, 4, 5, 6, 7, 8, 9, 10, 11, 12, 13, 14, 15, 16, 17, 18, 19, 20, 21, 22, 23, 24, 25, 26, 27, 28, 29, 30, 31, 32, 33, 34, 35, 36, 37, 38, 39, 40, 41, 42, 43, 44, 45, 46, 47, 48, 49, 50, 51, 52, 53, 54, 55, 56, 57, 58, 59, 60, 61] rfl rfl (by decide) (by decide) (va_runS (As := [.int (nI 0)]) (rest := []) ⟨hx, hb, hml, hown, hts⟩ (a_X9_isSheet_132 l dC dI h cs H.size I L A Q G J ) (va_cwS 1 hts gX9_sheet_X9_isSheet rfl rfl rfl (by decide +kernel) ⟨Nat.le_of_ble_eq_true rfl, Nat.le_of_ble_eq_true rfl⟩) (xpS (wc := ([] : va_W)) hP hD hK hN [] rfl (by decide) _) rfl rfl hl.1 rfl (lv_room (Nat.le_of_ble_eq_true rfl)) dX9_sheet_1 ⟨Nat.zero_le _, Nat.zero_le _⟩) (fun r_2 u_1 H locs hw hP hD hS => ?_)
          obtain ⟨hf_3, rfl⟩ := hw
          have hP : va_P (dC, dI) vwCl (wAll h cs fI fL fA fQ fG fJ) H := hP
          have hD : va_D A0 (wAll h cs fI fL fA fQ fG fJ) := hD
          rcases hf_3 with ⟨rfl, i_4, hh_5, ee_6⟩ | ⟨rfl, -⟩
          · skip
            exact absurd (by rw [ee_6, nI_toInt (by omega)]; omega) hz_nI 0
          · skip
            refine lv_if_eq (tgt := 20) hx hb dX9_sheet_4 (by decide) (fun _ => ?_) (fun c9 => False.elim (by revert c9; decide +kernel))
            refine lv_iconst (v := (-1)) hx hb dX9_sheet_20 (by decide) ?_
            exact xr_i (v := (-1)) hx hb hr hlocks hK hS dX9_sheet_21 (fI, fL, fA, fQ, fG, fJ) ⟨(by unfold an_sheet; rw [if_neg (by omega)]), rfl⟩ hP hD
        · skip
          refine lv_iload_n hx hb dX9_sheet_0 rfl (lv_at hl 1 rfl) ?_
          refine xj_i (wc := ([] : va_W)) (wr := (wAll h cs fI fL fA fQ fG fJ)) hP hD hS hA [] [0, 1, 2, 3, 4, 5, 6, 7, 8, 9, 10, 11, 12, 13, 14, 15, 16, 17, 18, 19, 20, 21, 22, 23, 24, 25, 26, 27, 28, 29, 30, 31, 32, 33, 34, 35, 36, 37, 38, 39, 40, 41, 42, 43, 44, 45, 46, 47, 48, 49, 50, 51, 52, 53, 54, 55, 56, 57, 58, 59, 60, 61] rfl rfl (by decide) (by decide) (va_runS (As := [.int (nI 0)]) (rest := []) ⟨hx, hb, hml, hown, hts⟩ (a_X9_isSheet_132 l dC dI h cs H.size I L A Q G J ) (va_cwS 1 hts gX9_sheet_X9_isSheet rfl rfl rfl (by decide +kernel) ⟨Nat.le_of_ble_eq_true rfl, Nat.le_of_ble_eq_true rfl⟩) (xpS (wc := ([] : va_W)) hP hD hK hN [] rfl (by decide) _) rfl rfl hl.1 rfl (lv_room (Nat.le_of_ble_eq_true rfl)) dX9_sheet_1 ⟨Nat.zero_le _, Nat.zero_le _⟩) (fun r_8 u_7 H locs hw hP hD hS => ?_)
          obtain ⟨hf_9, rfl⟩ := hw
          have hP : va_P (dC, dI) vwCl (wAll h cs fI fL fA fQ fG fJ) H := hP
          have hD : va_D A0 (wAll h cs fI fL fA fQ fG fJ) := hD
          rcases hf_9 with ⟨rfl, i_10, hh_11, ee_12⟩ | ⟨rfl, -⟩
          · skip
            exact absurd (by rw [ee_12, nI_toInt (by omega)]; omega) hz_nI 0
          · skip
            refine lv_if_eq (tgt := 20) hx hb dX9_sheet_4 (by decide) (fun _ => ?_) (fun c9 => False.elim (by revert c9; decide +kernel))
            refine lv_iconst (v := (-1)) hx hb dX9_sheet_20 (by decide) ?_
            exact xr_i (v := (-1)) hx hb hr hlocks hK hS dX9_sheet_21 (fI, fL, fA, fQ, fG, fJ) ⟨(by unfold an_sheet; rw [if_neg (by omega)]), rfl⟩ hP hD
        · skip
          refine lv_iload_n hx hb dX9_sheet_0 rfl (lv_at hl 1 rfl) ?_
          refine xj_i (wc := ([] : va_W)) (wr := (wAll h cs fI fL fA fQ fG fJ)) hP hD hS hA [] [0, 1, 2, 3, 4, 5, 6, 7, 8, 9, 10, 11, 12, 13, 14, 15, 16, 17, 18, 19, 20, 21, 22, 23, 24, 25, 26, 27, 28, 29, 30, 31, 32, 33, 34, 35, 36, 37, 38, 39, 40, 41, 42, 43, 44, 45, 46, 47, 48, 49, 50, 51, 52, 53, 54, 55, 56, 57, 58, 59, 60, 61] rfl rfl (by decide) (by decide) (va_runS (As := [.int (nI 0)]) (rest := []) ⟨hx, hb, hml, hown, hts⟩ (a_X9_isSheet_132 l dC dI h cs H.size I L A Q G J ) (va_cwS 1 hts gX9_sheet_X9_isSheet rfl rfl rfl (by decide +kernel) ⟨Nat.le_of_ble_eq_true rfl, Nat.le_of_ble_eq_true rfl⟩) (xpS (wc := ([] : va_W)) hP hD hK hN [] rfl (by decide) _) rfl rfl hl.1 rfl (lv_room (Nat.le_of_ble_eq_true rfl)) dX9_sheet_1 ⟨Nat.zero_le _, Nat.zero_le _⟩) (fun r_14 u_13 H locs hw hP hD hS => ?_)
          obtain ⟨hf_15, rfl⟩ := hw
          have hP : va_P (dC, dI) vwCl (wAll h cs fI fL fA fQ fG fJ) H := hP
          have hD : va_D A0 (wAll h cs fI fL fA fQ fG fJ) := hD
          rcases hf_15 with ⟨rfl, i_16, hh_17, ee_18⟩ | ⟨rfl, -⟩
          · skip
            exact absurd (by rw [ee_18, nI_toInt (by omega)]; omega) hz_nI 0
          · skip
            refine lv_if_eq (tgt := 20) hx hb dX9_sheet_4 (by decide) (fun _ => ?_) (fun c9 => False.elim (by revert c9; decide +kernel))
            refine lv_iconst (v := (-1)) hx hb dX9_sheet_20 (by decide) ?_
            exact xr_i (v := (-1)) hx hb hr hlocks hK hS dX9_sheet_21 (fI, fL, fA, fQ, fG, fJ) ⟨(by unfold an_sheet; rw [if_neg (by omega)]), rfl⟩ hP hD
      · skip
        refine lv_iload_n hx hb dX9_sheet_0 rfl (lv_at hl 1 rfl) ?_
        refine xj_i (wc := ([] : va_W)) (wr := (wAll h cs fI fL fA fQ fG fJ)) hP hD hS hA [] [0, 1, 2, 3, 4, 5, 6, 7, 8, 9, 10, 11, 12, 13, 14, 15, 16, 17, 18, 19, 20, 21, 22, 23, 24, 25, 26, 27, 28, 29, 30, 31, 32, 33, 34, 35, 36, 37, 38, 39, 40, 41, 42, 43, 44, 45, 46, 47, 48, 49, 50, 51, 52, 53, 54, 55, 56, 57, 58, 59, 60, 61] rfl rfl (by decide) (by decide) (va_runS (As := [.int (nI 0)]) (rest := []) ⟨hx, hb, hml, hown, hts⟩ (a_X9_isSheet_132 l dC dI h cs H.size I L A Q G J ) (va_cwS 1 hts gX9_sheet_X9_isSheet rfl rfl rfl (by decide +kernel) ⟨Nat.le_of_ble_eq_true rfl, Nat.le_of_ble_eq_true rfl⟩) (xpS (wc := ([] : va_W)) hP hD hK hN [] rfl (by decide) _) rfl rfl hl.1 rfl (lv_room (Nat.le_of_ble_eq_true rfl)) dX9_sheet_1 ⟨Nat.zero_le _, Nat.zero_le _⟩) (fun r_20 u_19 H locs hw hP hD hS => ?_)
        obtain ⟨hf_21, rfl⟩ := hw
        have hP : va_P (dC, dI) vwCl (wAll h cs fI fL fA fQ fG fJ) H := hP
        have hD : va_D A0 (wAll h cs fI fL fA fQ fG fJ) := hD
        rcases hf_21 with ⟨rfl, i_22, hh_23, ee_24⟩ | ⟨rfl, -⟩
        · skip
          exact absurd (by rw [ee_24, nI_toInt (by omega)]; omega) hz_nI 0
        · skip
          refine lv_if_eq (tgt := 20) hx hb dX9_sheet_4 (by decide) (fun _ => ?_) (fun c9 => False.elim (by revert c9; decide +kernel))
          refine lv_iconst (v := (-1)) hx hb dX9_sheet_20 (by decide) ?_
          exact xr_i (v := (-1)) hx hb hr hlocks hK hS dX9_sheet_21 (fI, fL, fA, fQ, fG, fJ) ⟨(by unfold an_sheet; rw [if_neg (by omega)]), rfl⟩ hP hD
    · skip
      rcases splR y 0 2 (by decide) with ⟨i_y, h_y, g_y, rfl⟩ | hz_y
      · skip
        rcases (show i_y = 0 ∨ i_y = 1 ∨ i_y = 2 by omega) with rfl | rfl | rfl
        · skip
          refine lv_iload_n hx hb dX9_sheet_0 rfl (lv_at hl 1 rfl) ?_
          refine xj_i (wc := ([] : va_W)) (wr := (wAll h cs fI fL fA fQ fG fJ)) hP hD hS hA [] [0, 1, 2, 3, 4, 5, 6, 7, 8, 9, 10, 11, 12, 13, 14, 15, 16, 17, 18, 19, 20, 21, 22, 23, 24, 25, 26, 27, 28, 29, 30, 31, 32, 33, 34, 35, 36, 37, 38, 39, 40, 41, 42, 43, 44, 45, 46, 47, 48, 49, 50, 51, 52, 53, 54, 55, 56, 57, 58, 59, 60, 61] rfl rfl (by decide) (by decide) (va_runS (As := [.int (nI 1)]) (rest := []) ⟨hx, hb, hml, hown, hts⟩ (a_X9_isSheet_133 l dC dI h cs H.size I L A Q G J ) (va_cwS 1 hts gX9_sheet_X9_isSheet rfl rfl rfl (by decide +kernel) ⟨Nat.le_of_ble_eq_true rfl, Nat.le_of_ble_eq_true rfl⟩) (xpS (wc := ([] : va_W)) hP hD hK hN [] rfl (by decide) _) rfl rfl hl.1 rfl (lv_room (Nat.le_of_ble_eq_true rfl)) dX9_sheet_1 ⟨Nat.zero_le _, Nat.zero_le _⟩) (fun r_26 u_25 H locs hw hP hD hS => ?_)
          obtain ⟨hf_27, rfl⟩ := hw
          have hP : va_P (dC, dI) vwCl (wAll h cs fI fL fA fQ fG fJ) H := hP
          have hD : va_D A0 (wAll h cs fI fL fA fQ fG fJ) := hD
          rcases hf_27 with ⟨rfl, i_28, hh_29, ee_30⟩ | ⟨rfl, -⟩
          · skip
            exact absurd (by rw [ee_30, nI_toInt (by omega)]; omega) hz_nI 1
          · skip
            refine lv_if_eq (tgt := 20) hx hb dX9_sheet_4 (by decide) (fun _ => ?_) (fun c9 => False.elim (by revert c9; decide +kernel))
            refine lv_iconst (v := (-1)) hx hb dX9_sheet_20 (by decide) ?_
            exact xr_i (v := (-1)) hx hb hr hlocks hK hS dX9_sheet_21 (fI, fL, fA, fQ, fG, fJ) ⟨(by unfold an_sheet; rw [if_neg (by omega)]), rfl⟩ hP hD
        · skip
          refine lv_iload_n hx hb dX9_sheet_0 rfl (lv_at hl 1 rfl) ?_
          refine xj_i (wc := ([] : va_W)) (wr := (wAll h cs fI fL fA fQ fG fJ)) hP hD hS hA [] [0, 1, 2, 3, 4, 5, 6, 7, 8, 9, 10, 11, 12, 13, 14, 15, 16, 17, 18, 19, 20, 21, 22, 23, 24, 25, 26, 27, 28, 29, 30, 31, 32, 33, 34, 35, 36, 37, 38, 39, 40, 41, 42, 43, 44, 45, 46, 47, 48, 49, 50, 51, 52, 53, 54, 55, 56, 57, 58, 59, 60, 61] rfl rfl (by decide) (by decide) (va_runS (As := [.int (nI 1)]) (rest := []) ⟨hx, hb, hml, hown, hts⟩ (a_X9_isSheet_133 l dC dI h cs H.size I L A Q G J ) (va_cwS 1 hts gX9_sheet_X9_isSheet rfl rfl rfl (by decide +kernel) ⟨Nat.le_of_ble_eq_true rfl, Nat.le_of_ble_eq_true rfl⟩) (xpS (wc := ([] : va_W)) hP hD hK hN [] rfl (by decide) _) rfl rfl hl.1 rfl (lv_room (Nat.le_of_ble_eq_true rfl)) dX9_sheet_1 ⟨Nat.zero_le _, Nat.zero_le _⟩) (fun r_32 u_31 H locs hw hP hD hS => ?_)
          obtain ⟨hf_33, rfl⟩ := hw
          have hP : va_P (dC, dI) vwCl (wAll h cs fI fL fA fQ fG fJ) H := hP
          have hD : va_D A0 (wAll h cs fI fL fA fQ fG fJ) := hD
          rcases hf_33 with ⟨rfl, i_34, hh_35, ee_36⟩ | ⟨rfl, -⟩
          · skip
            exact absurd (by rw [ee_36, nI_toInt (by omega)]; omega) hz_nI 1
          · skip
            refine lv_if_eq (tgt := 20) hx hb dX9_sheet_4 (by decide) (fun _ => ?_) (fun c9 => False.elim (by revert c9; decide +kernel))
            refine lv_iconst (v := (-1)) hx hb dX9_sheet_20 (by decide) ?_
            exact xr_i (v := (-1)) hx hb hr hlocks hK hS dX9_sheet_21 (fI, fL, fA, fQ, fG, fJ) ⟨(by unfold an_sheet; rw [if_neg (by omega)]), rfl⟩ hP hD
        · skip
          refine lv_iload_n hx hb dX9_sheet_0 rfl (lv_at hl 1 rfl) ?_
          refine xj_i (wc := ([] : va_W)) (wr := (wAll h cs fI fL fA fQ fG fJ)) hP hD hS hA [] [0, 1, 2, 3, 4, 5, 6, 7, 8, 9, 10, 11, 12, 13, 14, 15, 16, 17, 18, 19, 20, 21, 22, 23, 24, 25, 26, 27, 28, 29, 30, 31, 32, 33, 34, 35, 36, 37, 38, 39, 40, 41, 42, 43, 44, 45, 46, 47, 48, 49, 50, 51, 52, 53, 54, 55, 56, 57, 58, 59, 60, 61] rfl rfl (by decide) (by decide) (va_runS (As := [.int (nI 1)]) (rest := []) ⟨hx, hb, hml, hown, hts⟩ (a_X9_isSheet_133 l dC dI h cs H.size I L A Q G J ) (va_cwS 1 hts gX9_sheet_X9_isSheet rfl rfl rfl (by decide +kernel) ⟨Nat.le_of_ble_eq_true rfl, Nat.le_of_ble_eq_true rfl⟩) (xpS (wc := ([] : va_W)) hP hD hK hN [] rfl (by decide) _) rfl rfl hl.1 rfl (lv_room (Nat.le_of_ble_eq_true rfl)) dX9_sheet_1 ⟨Nat.zero_le _, Nat.zero_le _⟩) (fun r_38 u_37 H locs hw hP hD hS => ?_)
          obtain ⟨hf_39, rfl⟩ := hw
          have hP : va_P (dC, dI) vwCl (wAll h cs fI fL fA fQ fG fJ) H := hP
          have hD : va_D A0 (wAll h cs fI fL fA fQ fG fJ) := hD
          rcases hf_39 with ⟨rfl, i_40, hh_41, ee_42⟩ | ⟨rfl, -⟩
          · skip
            exact absurd (by rw [ee_42, nI_toInt (by omega)]; omega) hz_nI 1
          · skip
            refine lv_if_eq (tgt := 20) hx hb dX9_sheet_4 (by decide) (fun _ => ?_) (fun c9 => False.elim (by revert c9; decide +kernel))
            refine lv_iconst (v := (-1)) hx hb dX9_sheet_20 (by decide) ?_
            exact xr_i (v := (-1)) hx hb hr hlocks hK hS dX9_sheet_21 (fI, fL, fA, fQ, fG, fJ) ⟨(by unfold an_sheet; rw [if_neg (by omega)]), rfl⟩ hP hD
      · skip
        refine lv_iload_n hx hb dX9_sheet_0 rfl (lv_at hl 1 rfl) ?_
        refine xj_i (wc := ([] : va_W)) (wr := (wAll h cs fI fL fA fQ fG fJ)) hP hD hS hA [] [0, 1, 2, 3, 4, 5, 6, 7, 8, 9, 10, 11, 12, 13, 14, 15, 16, 17, 18, 19, 20, 21, 22, 23, 24, 25, 26, 27, 28, 29, 30, 31, 32, 33, 34, 35, 36, 37, 38, 39, 40, 41, 42, 43, 44, 45, 46, 47, 48, 49, 50, 51, 52, 53, 54, 55, 56, 57, 58, 59, 60, 61] rfl rfl (by decide) (by decide) (va_runS (As := [.int (nI 1)]) (rest := []) ⟨hx, hb, hml, hown, hts⟩ (a_X9_isSheet_133 l dC dI h cs H.size I L A Q G J ) (va_cwS 1 hts gX9_sheet_X9_isSheet rfl rfl rfl (by decide +kernel) ⟨Nat.le_of_ble_eq_true rfl, Nat.le_of_ble_eq_true rfl⟩) (xpS (wc := ([] : va_W)) hP hD hK hN [] rfl (by decide) _) rfl rfl hl.1 rfl (lv_room (Nat.le_of_ble_eq_true rfl)) dX9_sheet_1 ⟨Nat.zero_le _, Nat.zero_le _⟩) (fun r_44 u_43 H locs hw hP hD hS => ?_)
        obtain ⟨hf_45, rfl⟩ := hw
        have hP : va_P (dC, dI) vwCl (wAll h cs fI fL fA fQ fG fJ) H := hP
        have hD : va_D A0 (wAll h cs fI fL fA fQ fG fJ) := hD
        rcases hf_45 with ⟨rfl, i_46, hh_47, ee_48⟩ | ⟨rfl, -⟩
        · skip
          exact absurd (by rw [ee_48, nI_toInt (by omega)]; omega) hz_nI 1
        · skip
          refine lv_if_eq (tgt := 20) hx hb dX9_sheet_4 (by decide) (fun _ => ?_) (fun c9 => False.elim (by revert c9; decide +kernel))
          refine lv_iconst (v := (-1)) hx hb dX9_sheet_20 (by decide) ?_
          exact xr_i (v := (-1)) hx hb hr hlocks hK hS dX9_sheet_21 (fI, fL, fA, fQ, fG, fJ) ⟨(by unfold an_sheet; rw [if_neg (by omega)]), rfl⟩ hP hD
    · skip
      rcases splR y 0 2 (by decide) with ⟨i_y, h_y, g_y, rfl⟩ | hz_y
      · skip
        rcases (show i_y = 0 ∨ i_y = 1 ∨ i_y = 2 by omega) with rfl | rfl | rfl
        · skip
          refine lv_iload_n hx hb dX9_sheet_0 rfl (lv_at hl 1 rfl) ?_
          refine xj_i (wc := ([] : va_W)) (wr := (wAll h cs fI fL fA fQ fG fJ)) hP hD hS hA [] [0, 1, 2, 3, 4, 5, 6, 7, 8, 9, 10, 11, 12, 13, 14, 15, 16, 17, 18, 19, 20, 21, 22, 23, 24, 25, 26, 27, 28, 29, 30, 31, 32, 33, 34, 35, 36, 37, 38, 39, 40, 41, 42, 43, 44, 45, 46, 47, 48, 49, 50, 51, 52, 53, 54, 55, 56, 57, 58, 59, 60, 61] rfl rfl (by decide) (by decide) (va_runS (As := [.int (nI 2)]) (rest := []) ⟨hx, hb, hml, hown, hts⟩ (a_X9_isSheet_134 l dC dI h cs H.size I L A Q G J ) (va_cwS 1 hts gX9_sheet_X9_isSheet rfl rfl rfl (by decide +kernel) ⟨Nat.le_of_ble_eq_true rfl, Nat.le_of_ble_eq_true rfl⟩) (xpS (wc := ([] : va_W)) hP hD hK hN [] rfl (by decide) _) rfl rfl hl.1 rfl (lv_room (Nat.le_of_ble_eq_true rfl)) dX9_sheet_1 ⟨Nat.zero_le _, Nat.zero_le _⟩) (fun r_50 u_49 H locs hw hP hD hS => ?_)
          obtain ⟨hf_51, rfl⟩ := hw
          have hP : va_P (dC, dI) vwCl (wAll h cs fI fL fA fQ fG fJ) H := hP
          have hD : va_D A0 (wAll h cs fI fL fA fQ fG fJ) := hD
          rcases hf_51 with ⟨rfl, i_52, hh_53, ee_54⟩ | ⟨rfl, -⟩
          · skip
            exact absurd (by rw [ee_54, nI_toInt (by omega)]; omega) hz_nI 2
          · skip
            refine lv_if_eq (tgt := 20) hx hb dX9_sheet_4 (by decide) (fun _ => ?_) (fun c9 => False.elim (by revert c9; decide +kernel))
            refine lv_iconst (v := (-1)) hx hb dX9_sheet_20 (by decide) ?_
            exact xr_i (v := (-1)) hx hb hr hlocks hK hS dX9_sheet_21 (fI, fL, fA, fQ, fG, fJ) ⟨(by unfold an_sheet; rw [if_neg (by omega)]), rfl⟩ hP hD
        · skip
          refine lv_iload_n hx hb dX9_sheet_0 rfl (lv_at hl 1 rfl) ?_
          refine xj_i (wc := ([] : va_W)) (wr := (wAll h cs fI fL fA fQ fG fJ)) hP hD hS hA [] [0, 1, 2, 3, 4, 5, 6, 7, 8, 9, 10, 11, 12, 13, 14, 15, 16, 17, 18, 19, 20, 21, 22, 23, 24, 25, 26, 27, 28, 29, 30, 31, 32, 33, 34, 35, 36, 37, 38, 39, 40, 41, 42, 43, 44, 45, 46, 47, 48, 49, 50, 51, 52, 53, 54, 55, 56, 57, 58, 59, 60, 61] rfl rfl (by decide) (by decide) (va_runS (As := [.int (nI 2)]) (rest := []) ⟨hx, hb, hml, hown, hts⟩ (a_X9_isSheet_134 l dC dI h cs H.size I L A Q G J ) (va_cwS 1 hts gX9_sheet_X9_isSheet rfl rfl rfl (by decide +kernel) ⟨Nat.le_of_ble_eq_true rfl, Nat.le_of_ble_eq_true rfl⟩) (xpS (wc := ([] : va_W)) hP hD hK hN [] rfl (by decide) _) rfl rfl hl.1 rfl (lv_room (Nat.le_of_ble_eq_true rfl)) dX9_sheet_1 ⟨Nat.zero_le _, Nat.zero_le _⟩) (fun r_56 u_55 H locs hw hP hD hS => ?_)
          obtain ⟨hf_57, rfl⟩ := hw
          have hP : va_P (dC, dI) vwCl (wAll h cs fI fL fA fQ fG fJ) H := hP
          have hD : va_D A0 (wAll h cs fI fL fA fQ fG fJ) := hD
          rcases hf_57 with ⟨rfl, i_58, hh_59, ee_60⟩ | ⟨rfl, -⟩
          · skip
            exact absurd (by rw [ee_60, nI_toInt (by omega)]; omega) hz_nI 2
          · skip
            refine lv_if_eq (tgt := 20) hx hb dX9_sheet_4 (by decide) (fun _ => ?_) (fun c9 => False.elim (by revert c9; decide +kernel))
            refine lv_iconst (v := (-1)) hx hb dX9_sheet_20 (by decide) ?_
            exact xr_i (v := (-1)) hx hb hr hlocks hK hS dX9_sheet_21 (fI, fL, fA, fQ, fG, fJ) ⟨(by unfold an_sheet; rw [if_neg (by omega)]), rfl⟩ hP hD
        · skip
          refine lv_iload_n hx hb dX9_sheet_0 rfl (lv_at hl 1 rfl) ?_
          refine xj_i (wc := ([] : va_W)) (wr := (wAll h cs fI fL fA fQ fG fJ)) hP hD hS hA [] [0, 1, 2, 3, 4, 5, 6, 7, 8, 9, 10, 11, 12, 13, 14, 15, 16, 17, 18, 19, 20, 21, 22, 23, 24, 25, 26, 27, 28, 29, 30, 31, 32, 33, 34, 35, 36, 37, 38, 39, 40, 41, 42, 43, 44, 45, 46, 47, 48, 49, 50, 51, 52, 53, 54, 55, 56, 57, 58, 59, 60, 61] rfl rfl (by decide) (by decide) (va_runS (As := [.int (nI 2)]) (rest := []) ⟨hx, hb, hml, hown, hts⟩ (a_X9_isSheet_134 l dC dI h cs H.size I L A Q G J ) (va_cwS 1 hts gX9_sheet_X9_isSheet rfl rfl rfl (by decide +kernel) ⟨Nat.le_of_ble_eq_true rfl, Nat.le_of_ble_eq_true rfl⟩) (xpS (wc := ([] : va_W)) hP hD hK hN [] rfl (by decide) _) rfl rfl hl.1 rfl (lv_room (Nat.le_of_ble_eq_true rfl)) dX9_sheet_1 ⟨Nat.zero_le _, Nat.zero_le _⟩) (fun r_62 u_61 H locs hw hP hD hS => ?_)
          obtain ⟨hf_63, rfl⟩ := hw
          have hP : va_P (dC, dI) vwCl (wAll h cs fI fL fA fQ fG fJ) H := hP
          have hD : va_D A0 (wAll h cs fI fL fA fQ fG fJ) := hD
          rcases hf_63 with ⟨rfl, i_64, hh_65, ee_66⟩ | ⟨rfl, -⟩
          · skip
            exact absurd (by rw [ee_66, nI_toInt (by omega)]; omega) hz_nI 2
          · skip
            refine lv_if_eq (tgt := 20) hx hb dX9_sheet_4 (by decide) (fun _ => ?_) (fun c9 => False.elim (by revert c9; decide +kernel))
            refine lv_iconst (v := (-1)) hx hb dX9_sheet_20 (by decide) ?_
            exact xr_i (v := (-1)) hx hb hr hlocks hK hS dX9_sheet_21 (fI, fL, fA, fQ, fG, fJ) ⟨(by unfold an_sheet; rw [if_neg (by omega)]), rfl⟩ hP hD
      · skip
        refine lv_iload_n hx hb dX9_sheet_0 rfl (lv_at hl 1 rfl) ?_
        refine xj_i (wc := ([] : va_W)) (wr := (wAll h cs fI fL fA fQ fG fJ)) hP hD hS hA [] [0, 1, 2, 3, 4, 5, 6, 7, 8, 9, 10, 11, 12, 13, 14, 15, 16, 17, 18, 19, 20, 21, 22, 23, 24, 25, 26, 27, 28, 29, 30, 31, 32, 33, 34, 35, 36, 37, 38, 39, 40, 41, 42, 43, 44, 45, 46, 47, 48, 49, 50, 51, 52, 53, 54, 55, 56, 57, 58, 59, 60, 61] rfl rfl (by decide) (by decide) (va_runS (As := [.int (nI 2)]) (rest := []) ⟨hx, hb, hml, hown, hts⟩ (a_X9_isSheet_134 l dC dI h cs H.size I L A Q G J ) (va_cwS 1 hts gX9_sheet_X9_isSheet rfl rfl rfl (by decide +kernel) ⟨Nat.le_of_ble_eq_true rfl, Nat.le_of_ble_eq_true rfl⟩) (xpS (wc := ([] : va_W)) hP hD hK hN [] rfl (by decide) _) rfl rfl hl.1 rfl (lv_room (Nat.le_of_ble_eq_true rfl)) dX9_sheet_1 ⟨Nat.zero_le _, Nat.zero_le _⟩) (fun r_68 u_67 H locs hw hP hD hS => ?_)
        obtain ⟨hf_69, rfl⟩ := hw
        have hP : va_P (dC, dI) vwCl (wAll h cs fI fL fA fQ fG fJ) H := hP
        have hD : va_D A0 (wAll h cs fI fL fA fQ fG fJ) := hD
        rcases hf_69 with ⟨rfl, i_70, hh_71, ee_72⟩ | ⟨rfl, -⟩
        · skip
          exact absurd (by rw [ee_72, nI_toInt (by omega)]; omega) hz_nI 2
        · skip
          refine lv_if_eq (tgt := 20) hx hb dX9_sheet_4 (by decide) (fun _ => ?_) (fun c9 => False.elim (by revert c9; decide +kernel))
          refine lv_iconst (v := (-1)) hx hb dX9_sheet_20 (by decide) ?_
          exact xr_i (v := (-1)) hx hb hr hlocks hK hS dX9_sheet_21 (fI, fL, fA, fQ, fG, fJ) ⟨(by unfold an_sheet; rw [if_neg (by omega)]), rfl⟩ hP hD
    · skip
      rcases splR y 0 2 (by decide) with ⟨i_y, h_y, g_y, rfl⟩ | hz_y
      · skip
        rcases (show i_y = 0 ∨ i_y = 1 ∨ i_y = 2 by omega) with rfl | rfl | rfl
        · skip
          refine lv_iload_n hx hb dX9_sheet_0 rfl (lv_at hl 1 rfl) ?_
          refine xj_i (wc := ([] : va_W)) (wr := (wAll h cs fI fL fA fQ fG fJ)) hP hD hS hA [] [0, 1, 2, 3, 4, 5, 6, 7, 8, 9, 10, 11, 12, 13, 14, 15, 16, 17, 18, 19, 20, 21, 22, 23, 24, 25, 26, 27, 28, 29, 30, 31, 32, 33, 34, 35, 36, 37, 38, 39, 40, 41, 42, 43, 44, 45, 46, 47, 48, 49, 50, 51, 52, 53, 54, 55, 56, 57, 58, 59, 60, 61] rfl rfl (by decide) (by decide) (va_runS (As := [.int (nI 3)]) (rest := []) ⟨hx, hb, hml, hown, hts⟩ (a_X9_isSheet_135 l dC dI h cs H.size I L A Q G J ) (va_cwS 1 hts gX9_sheet_X9_isSheet rfl rfl rfl (by decide +kernel) ⟨Nat.le_of_ble_eq_true rfl, Nat.le_of_ble_eq_true rfl⟩) (xpS (wc := ([] : va_W)) hP hD hK hN [] rfl (by decide) _) rfl rfl hl.1 rfl (lv_room (Nat.le_of_ble_eq_true rfl)) dX9_sheet_1 ⟨Nat.zero_le _, Nat.zero_le _⟩) (fun r_74 u_73 H locs hw hP hD hS => ?_)
          obtain ⟨hf_75, rfl⟩ := hw
          have hP : va_P (dC, dI) vwCl (wAll h cs fI fL fA fQ fG fJ) H := hP
          have hD : va_D A0 (wAll h cs fI fL fA fQ fG fJ) := hD
          rcases hf_75 with ⟨rfl, i_76, hh_77, ee_78⟩ | ⟨rfl, -⟩
          · skip
            exact absurd (by rw [ee_78, nI_toInt (by omega)]; omega) hz_nI 3
          · skip
            refine lv_if_eq (tgt := 20) hx hb dX9_sheet_4 (by decide) (fun _ => ?_) (fun c9 => False.elim (by revert c9; decide +kernel))
            refine lv_iconst (v := (-1)) hx hb dX9_sheet_20 (by decide) ?_
            exact xr_i (v := (-1)) hx hb hr hlocks hK hS dX9_sheet_21 (fI, fL, fA, fQ, fG, fJ) ⟨(by unfold an_sheet; rw [if_neg (by omega)]), rfl⟩ hP hD
        · skip
          refine lv_iload_n hx hb dX9_sheet_0 rfl (lv_at hl 1 rfl) ?_
          refine xj_i (wc := ([] : va_W)) (wr := (wAll h cs fI fL fA fQ fG fJ)) hP hD hS hA [] [0, 1, 2, 3, 4, 5, 6, 7, 8, 9, 10, 11, 12, 13, 14, 15, 16, 17, 18, 19, 20, 21, 22, 23, 24, 25, 26, 27, 28, 29, 30, 31, 32, 33, 34, 35, 36, 37, 38, 39, 40, 41, 42, 43, 44, 45, 46, 47, 48, 49, 50, 51, 52, 53, 54, 55, 56, 57, 58, 59, 60, 61] rfl rfl (by decide) (by decide) (va_runS (As := [.int (nI 3)]) (rest := []) ⟨hx, hb, hml, hown, hts⟩ (a_X9_isSheet_135 l dC dI h cs H.size I L A Q G J ) (va_cwS 1 hts gX9_sheet_X9_isSheet rfl rfl rfl (by decide +kernel) ⟨Nat.le_of_ble_eq_true rfl, Nat.le_of_ble_eq_true rfl⟩) (xpS (wc := ([] : va_W)) hP hD hK hN [] rfl (by decide) _) rfl rfl hl.1 rfl (lv_room (Nat.le_of_ble_eq_true rfl)) dX9_sheet_1 ⟨Nat.zero_le _, Nat.zero_le _⟩) (fun r_80 u_79 H locs hw hP hD hS => ?_)
          obtain ⟨hf_81, rfl⟩ := hw
          have hP : va_P (dC, dI) vwCl (wAll h cs fI fL fA fQ fG fJ) H := hP
          have hD : va_D A0 (wAll h cs fI fL fA fQ fG fJ) := hD
          rcases hf_81 with ⟨rfl, i_82, hh_83, ee_84⟩ | ⟨rfl, -⟩
          · skip
            exact absurd (by rw [ee_84, nI_toInt (by omega)]; omega) hz_nI 3
          · skip
            refine lv_if_eq (tgt := 20) hx hb dX9_sheet_4 (by decide) (fun _ => ?_) (fun c9 => False.elim (by revert c9; decide +kernel))
            refine lv_iconst (v := (-1)) hx hb dX9_sheet_20 (by decide) ?_
            exact xr_i (v := (-1)) hx hb hr hlocks hK hS dX9_sheet_21 (fI, fL, fA, fQ, fG, fJ) ⟨(by unfold an_sheet; rw [if_neg (by omega)]), rfl⟩ hP hD
        · skip
          refine lv_iload_n hx hb dX9_sheet_0 rfl (lv_at hl 1 rfl) ?_
          refine xj_i (wc := ([] : va_W)) (wr := (wAll h cs fI fL fA fQ fG fJ)) hP hD hS hA [] [0, 1, 2, 3, 4, 5, 6, 7, 8, 9, 10, 11, 12, 13, 14, 15, 16, 17, 18, 19, 20, 21, 22, 23, 24, 25, 26, 27, 28, 29, 30, 31, 32, 33, 34, 35, 36, 37, 38, 39, 40, 41, 42, 43, 44, 45, 46, 47, 48, 49, 50, 51, 52, 53, 54, 55, 56, 57, 58, 59, 60, 61] rfl rfl (by decide) (by decide) (va_runS (As := [.int (nI 3)]) (rest := []) ⟨hx, hb, hml, hown, hts⟩ (a_X9_isSheet_135 l dC dI h cs H.size I L A Q G J ) (va_cwS 1 hts gX9_sheet_X9_isSheet rfl rfl rfl (by decide +kernel) ⟨Nat.le_of_ble_eq_true rfl, Nat.le_of_ble_eq_true rfl⟩) (xpS (wc := ([] : va_W)) hP hD hK hN [] rfl (by decide) _) rfl rfl hl.1 rfl (lv_room (Nat.le_of_ble_eq_true rfl)) dX9_sheet_1 ⟨Nat.zero_le _, Nat.zero_le _⟩) (fun r_86 u_85 H locs hw hP hD hS => ?_)
          obtain ⟨hf_87, rfl⟩ := hw
          have hP : va_P (dC, dI) vwCl (wAll h cs fI fL fA fQ fG fJ) H := hP
          have hD : va_D A0 (wAll h cs fI fL fA fQ fG fJ) := hD
          rcases hf_87 with ⟨rfl, i_88, hh_89, ee_90⟩ | ⟨rfl, -⟩
          · skip
            exact absurd (by rw [ee_90, nI_toInt (by omega)]; omega) hz_nI 3
          · skip
            refine lv_if_eq (tgt := 20) hx hb dX9_sheet_4 (by decide) (fun _ => ?_) (fun c9 => False.elim (by revert c9; decide +kernel))
            refine lv_iconst (v := (-1)) hx hb dX9_sheet_20 (by decide) ?_
            exact xr_i (v := (-1)) hx hb hr hlocks hK hS dX9_sheet_21 (fI, fL, fA, fQ, fG, fJ) ⟨(by unfold an_sheet; rw [if_neg (by omega)]), rfl⟩ hP hD
      · skip
        refine lv_iload_n hx hb dX9_sheet_0 rfl (lv_at hl 1 rfl) ?_
        refine xj_i (wc := ([] : va_W)) (wr := (wAll h cs fI fL fA fQ fG fJ)) hP hD hS hA [] [0, 1, 2, 3, 4, 5, 6, 7, 8, 9, 10, 11, 12, 13, 14, 15, 16, 17, 18, 19, 20, 21, 22, 23, 24, 25, 26, 27, 28, 29, 30, 31, 32, 33, 34, 35, 36, 37, 38, 39, 40, 41, 42, 43, 44, 45, 46, 47, 48, 49, 50, 51, 52, 53, 54, 55, 56, 57, 58, 59, 60, 61] rfl rfl (by decide) (by decide) (va_runS (As := [.int (nI 3)]) (rest := []) ⟨hx, hb, hml, hown, hts⟩ (a_X9_isSheet_135 l dC dI h cs H.size I L A Q G J ) (va_cwS 1 hts gX9_sheet_X9_isSheet rfl rfl rfl (by decide +kernel) ⟨Nat.le_of_ble_eq_true rfl, Nat.le_of_ble_eq_true rfl⟩) (xpS (wc := ([] : va_W)) hP hD hK hN [] rfl (by decide) _) rfl rfl hl.1 rfl (lv_room (Nat.le_of_ble_eq_true rfl)) dX9_sheet_1 ⟨Nat.zero_le _, Nat.zero_le _⟩) (fun r_92 u_91 H locs hw hP hD hS => ?_)
        obtain ⟨hf_93, rfl⟩ := hw
        have hP : va_P (dC, dI) vwCl (wAll h cs fI fL fA fQ fG fJ) H := hP
        have hD : va_D A0 (wAll h cs fI fL fA fQ fG fJ) := hD
        rcases hf_93 with ⟨rfl, i_94, hh_95, ee_96⟩ | ⟨rfl, -⟩
        · skip
          exact absurd (by rw [ee_96, nI_toInt (by omega)]; omega) hz_nI 3
        · skip
          refine lv_if_eq (tgt := 20) hx hb dX9_sheet_4 (by decide) (fun _ => ?_) (fun c9 => False.elim (by revert c9; decide +kernel))
          refine lv_iconst (v := (-1)) hx hb dX9_sheet_20 (by decide) ?_
          exact xr_i (v := (-1)) hx hb hr hlocks hK hS dX9_sheet_21 (fI, fL, fA, fQ, fG, fJ) ⟨(by unfold an_sheet; rw [if_neg (by omega)]), rfl⟩ hP hD
  · skip
    refine lv_iload_n hx hb dX9_sheet_0 rfl (lv_at hl 1 rfl) ?_
    refine xj_i (wc := ([] : va_W)) (wr := (wAll h cs fI fL fA fQ fG fJ)) hP hD hS hA [] [0, 1, 2, 3, 4, 5, 6, 7, 8, 9, 10, 11, 12, 13, 14, 15, 16, 17, 18, 19, 20, 21, 22, 23, 24, 25, 26, 27, 28, 29, 30, 31, 32, 33, 34, 35, 36, 37, 38, 39, 40, 41, 42, 43, 44, 45, 46, 47, 48, 49, 50, 51, 52, 53, 54, 55, 56, 57, 58, 59, 60, 61] rfl rfl (by decide) (by decide) (va_runS (As := [.int x]) (rest := []) ⟨hx, hb, hml, hown, hts⟩ (k_X9_isSheet l dC dI h cs H.size I L A Q G J x) (va_cwS 1 hts gX9_sheet_X9_isSheet rfl rfl rfl (by decide +kernel) ⟨Nat.le_of_ble_eq_true rfl, Nat.le_of_ble_eq_true rfl⟩) (xpS (wc := ([] : va_W)) hP hD hK hN [] rfl (by decide) _) rfl rfl hl.1 rfl (lv_room (Nat.le_of_ble_eq_true rfl)) dX9_sheet_1 ⟨Nat.zero_le _, Nat.zero_le _⟩) (fun r_98 u_97 H locs hw hP hD hS => ?_)
    obtain ⟨hf_99, rfl⟩ := hw
    have hP : va_P (dC, dI) vwCl (wAll h cs fI fL fA fQ fG fJ) H := hP
    have hD : va_D A0 (wAll h cs fI fL fA fQ fG fJ) := hD
    rcases hf_99 with ⟨rfl, i_100, hh_101, ee_102⟩ | ⟨rfl, -⟩
    · skip
      exact absurd (by rw [ee_102, nI_toInt (by omega)]; omega) hz_x
    · skip
      refine lv_if_eq (tgt := 20) hx hb dX9_sheet_4 (by decide) (fun _ => ?_) (fun c9 => False.elim (by revert c9; decide +kernel))
      refine lv_iconst (v := (-1)) hx hb dX9_sheet_20 (by decide) ?_
      exact xr_i (v := (-1)) hx hb hr hlocks hK hS dX9_sheet_21 (fI, fL, fA, fQ, fG, fJ) ⟨(by unfold an_sheet; rw [if_neg (by omega)]), rfl⟩ hP hD
