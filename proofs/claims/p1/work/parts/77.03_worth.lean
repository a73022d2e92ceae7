def wD_112 (h : Nat → Nat) (cs : Nat → ClassId) (I : Nat → Int32) (L : Nat → Int64) (A : Nat → Nat → Int32) (Q : Nat → Nat → Int64) (G : Nat → Nat → Nat → Int32) (J : Nat → Nat → Nat → Int64) : va_W := [(h 106, .inr (2, [.ref (h 180), .ref (h 185), .ref (h 186), .ref (h 187), .long (L 188)])), (h 101, .inr (3, [.int (I 120), .int (I 121), .int (I 122), .int (I 123), .ref (h 130), .ref (h 136)])), (h 130, .inl (cs 3, 5, .inr (.inr (.inr (.inr (fun i => if i < 5 then some (h (i + 131)) else none)))))), (h 131, .inl (cs 0, 4, .inl ((G 0) 0))), (h 132, .inl (cs 0, 4, .inl ((G 0) 1))), (h 133, .inl (cs 0, 4, .inl ((G 0) 2))), (h 134, .inl (cs 0, 4, .inl ((G 0) 3))), (h 135, .inl (cs 0, 4, .inl ((G 0) 4))), (h 136, .inl (cs 0, 5, .inl (A 136))), (h 180, .inl (cs 4, 4, .inr (.inr (.inr (.inr (fun i => if i < 4 then some (h (i + 181)) else none)))))), (h 181, .inl (cs 1, 4, .inr (.inl ((J 0) 0)))), (h 182, .inl (cs 1, 4, .inr (.inl ((J 0) 1)))), (h 183, .inl (cs 1, 4, .inr (.inl ((J 0) 2)))), (h 184, .inl (cs 1, 4, .inr (.inl ((J 0) 3)))), (h 185, .inl (cs 1, 4, .inr (.inl (Q 185)))), (h 186, .inl (cs 0, 4, .inl (A 186))), (h 187, .inl (cs 1, 4, .inr (.inl (Q 187))))]
set_option maxHeartbeats 4000000 in
set_option maxRecDepth 100000 in
theorem a_X2_determinant_114 (l : Launch) (dC : Nat → ClassId) (dI : Nat → Nat → Nat) (h : Nat → Nat) (cs : Nat → ClassId) (sz : Nat) (I : Nat → Int32) (L : Nat → Int64) (A : Nat → Nat → Int32) (Q : Nat → Nat → Int64) (G : Nat → Nat → Nat → Int32) (J : Nat → Nat → Nat → Int64) : Met l yX2_determinant wsX2_determinant ({ frames := 5, cells := 0, slots := 0, locals := 200 }) (va_Pc [.ref (h 180), .int (nI 1), .int (nI 0), .int (nI 1)] (xPre (dC, dI) (wD_16 h cs fI fL fA fQ fG fJ) (tysA cs) sz)) (va_Ql (fun (r : Int64) (u : CS) => (r = (0 : Int64)) ∧ u = (fI, fL, fA, fQ, fG, fJ)) (xB (dC, dI) (tysA cs) (va_A (wD_16 h cs fI fL fA fQ fG fJ) sz) (fun u : CS => wD_16 h cs u.1 u.2.1 u.2.2.1 u.2.2.2.1 u.2.2.2.2.1 u.2.2.2.2.2)) (va_A (wD_16 h cs fI fL fA fQ fG fJ) sz)) 0 0 (va_A (wD_16 h cs fI fL fA fQ fG fJ) sz) := by
  refine Met.ofW (cc := cX2_determinant) (maxL := 9) (ret := (some .long)) (by decide) rfl ?_
  intro p e s m args below meth c s₁ B hml hv
  obtain ⟨rfl, hsz, hP, hK, hD0, hN⟩ := hv
  have hx := B.exec
  have hb := B.bytes
  have hr := B.returns
  have hts := atoms_spec (ws := wsX2_determinant) B.pre
  have hown : s.vm.findClass RX2 = some m.cls := findClass_of_methodNamed B.named
  have hlocks := B.notSynchronized
  subst hsz
  have hD := hD0.self (sz := s.heap.size)
  generalize hAe : va_A (wD_16 h cs fI fL fA fQ fG fJ) s.heap.size = A0 at hD ⊢
  have hA : ∀ q : Nat, s.heap.size ≤ q → A0 q := fun q h => by rw [← hAe]; exact Or.inr h
  have hl := lv_entry ([.ref (h 180), .int (nI 1), .int (nI 0), .int (nI 1)]) (n := 9) (Nat.le_of_ble_eq_true rfl)
  rw [lg_entry_eq]
  generalize (lg_sl ([.ref (h 180), .int (nI 1), .int (nI 0), .int (nI 1)]) ++ List.replicate (9 - (lg_sl ([.ref (h 180), .int (nI 1), .int (nI 0), .int (nI 1)])).length) Slot.unset).toArray = ls at hl ⊢
  have hl : lv_has ls 9 [(0, .ref (h 180)), (1, .int (nI 1)), (2, .int (nI 0)), (3, .int (nI 1))] := hl
  generalize hH : s.heap = H at hP ⊢
  have hS : va_S A0 s.heap H [] := by rw [← hH]; exact va_S.rf
  refine lv_iload_n hx hb dX2_determinant_0 rfl (lv_at hl 2 rfl) ?_
  refine lv_iload_n hx hb dX2_determinant_1 rfl (lv_at hl 1 rfl) ?_
  refine lv_icmp_lt (tgt := 7) hx hb dX2_determinant_2 (by decide) (fun _ => ?_) (fun c9 => False.elim (by revert c9; decide +kernel))
  refine lv_lconst (v := 0) hx hb dX2_determinant_7 rfl ?_
  refine lv_lstore (lv' := [(4, .long (0 : Int64)), (0, .ref (h 180)), (1, .int (nI 1)), (2, .int (nI 0)), (3, .int (nI 1))]) hx hb dX2_determinant_8 hl (by decide) rfl (fun ls hl => ?_)
  refine lv_lconst (v := 1) hx hb dX2_determinant_10 rfl ?_
  refine lv_lstore (lv' := [(6, .long (1 : Int64)), (4, .long (0 : Int64)), (0, .ref (h 180)), (1, .int (nI 1)), (2, .int (nI 0)), (3, .int (nI 1))]) hx hb dX2_determinant_11 hl (by decide) rfl (fun ls hl => ?_)
  refine lv_iconst (v := nI 0) hx hb dX2_determinant_13 (by decide) ?_
  refine lv_istore (lv' := [(8, .int (nI 0)), (6, .long (1 : Int64)), (4, .long (0 : Int64)), (0, .ref (h 180)), (1, .int (nI 1)), (2, .int (nI 0)), (3, .int (nI 1))]) hx hb dX2_determinant_14 hl (by decide) rfl (fun ls hl => ?_)
  refine lv_iload hx hb dX2_determinant_16 (lv_at hl 0 rfl) ?_
  refine lv_iload_n hx hb dX2_determinant_18 rfl (lv_at hl 4 rfl) ?_
  refine lv_icmp_ge (tgt := 87) hx hb dX2_determinant_19 (by decide) (fun c9 => False.elim (by revert c9; decide +kernel)) (fun _ => ?_)
  refine lv_iload_n hx hb dX2_determinant_22 rfl (lv_at hl 6 rfl) ?_
  refine lv_iload hx hb dX2_determinant_23 (lv_at hl 0 rfl) ?_
  refine lv_ishr hx hb dX2_determinant_25 ?_
  refine xt_i (y := nI 1) (by decide +kernel) ?_
  refine lv_iconst (v := nI 1) hx hb dX2_determinant_26 (by decide) ?_
  refine lv_iand hx hb dX2_determinant_27 ?_
  refine xt_i (y := nI 1) (by decide +kernel) ?_
  refine lv_if_ne (tgt := 34) hx hb dX2_determinant_28 (by decide) (fun _ => ?_) (fun c9 => False.elim (by revert c9; decide +kernel))
  refine lv_aload_n hx hb dX2_determinant_34 rfl (lv_at hl 3 rfl) ?_
  refine lv_iload_n hx hb dX2_determinant_35 rfl (lv_at hl 5 rfl) ?_
  refine xa_aald (b := h 181) hx hb hK hP 0 4 rfl rfl rfl (by omega) (by decide) (if_pos (by omega)) dX2_determinant_36 ?_
  refine lv_iload hx hb dX2_determinant_37 (lv_at hl 0 rfl) ?_
  refine xa_lald hx hb hK hP 1 1 rfl rfl (by omega) (by decide) dX2_determinant_39 ?_
  refine xt_l (y := (0 : Int64)) (by decide +kernel) ?_
  refine lv_lconst (v := 0) hx hb dX2_determinant_40 rfl ?_
  refine xl_eq (tgt := 76) hx hb dX2_determinant_41 dX2_determinant_42 (by decide) (fun _ => ?_) (fun c9 => False.elim (by revert c9; decide +kernel))
  refine lv_lload hx hb dX2_determinant_76 (lv_at hl 1 rfl) ?_
  refine lv_lneg hx hb dX2_determinant_78 ?_
  refine xt_l (y := (-1 : Int64)) (by decide +kernel) ?_
  refine lv_lstore (lv' := [(6, .long (-1 : Int64)), (8, .int (nI 0)), (4, .long (0 : Int64)), (0, .ref (h 180)), (1, .int (nI 1)), (2, .int (nI 0)), (3, .int (nI 1))]) hx hb dX2_determinant_79 hl (by decide) rfl (fun ls hl => ?_)
  refine lv_iinc (v := nI 1) (lv' := [(8, .int (nI 1)), (6, .long (-1 : Int64)), (4, .long (0 : Int64)), (0, .ref (h 180)), (1, .int (nI 1)), (2, .int (nI 0)), (3, .int (nI 1))]) hx hb dX2_determinant_81 hl (k := 1) rfl (by decide +kernel) (by decide) rfl (fun ls hl => ?_)
  refine lv_goto (tgt := 16) hx hb dX2_determinant_84 (by decide) ?_
  refine lv_iload hx hb dX2_determinant_16 (lv_at hl 0 rfl) ?_
  refine lv_iload_n hx hb dX2_determinant_18 rfl (lv_at hl 4 rfl) ?_
  refine lv_icmp_ge (tgt := 87) hx hb dX2_determinant_19 (by decide) (fun _ => ?_) (fun c9 => False.elim (by revert c9; decide +kernel))
  refine lv_lload hx hb dX2_determinant_87 (lv_at hl 2 rfl) ?_
  exact xr_l (v := (0 : Int64)) hx hb hr hlocks hK hS dX2_determinant_89 (fI, fL, fA, fQ, fG, fJ) ⟨rfl, rfl⟩ hP hD
set_option maxRecDepth 20000 in
theorem ggX2_worthOf_X9_product : GoodIn wsX2_worthOf wsX9_product := goodIn_r _ [8] (by decide +kernel) (by decide +kernel)
set_option maxRecDepth 20000 in
theorem gX2_worthOf_X9_product_n40 : GoodIn wsX2_worthOf (wsX9_product) := ggX2_worthOf_X9_product
set_option maxRecDepth 20000 in
theorem ggX2_worthOf_X2_determinant : GoodIn wsX2_worthOf wsX2_determinant := goodIn_r _ [12, 9, 10, 11] (by decide +kernel) (by decide +kernel)
set_option maxRecDepth 20000 in
theorem gX2_worthOf_X2_determinant : GoodIn wsX2_worthOf (va_wsS RX2 44 yX2_determinant wsX2_determinant) := goodIn_app (goodIn_of _ (by decide +kernel)) ggX2_worthOf_X2_determinant
theorem dX2_worthOf_0 : decode cX2_worthOf 0 = .ok (.iconst 0, 1) := by decide +kernel
theorem dX2_worthOf_1 : decode cX2_worthOf 1 = .ok (.istore_n 3, 1) := by decide +kernel
theorem dX2_worthOf_2 : decode cX2_worthOf 2 = .ok (.iconst 0, 1) := by decide +kernel
theorem dX2_worthOf_3 : decode cX2_worthOf 3 = .ok (.istore 4, 2) := by decide +kernel
theorem dX2_worthOf_5 : decode cX2_worthOf 5 = .ok (.iload 4, 2) := by decide +kernel
theorem dX2_worthOf_7 : decode cX2_worthOf 7 = .ok (.aload_n 1, 1) := by decide +kernel
theorem dX2_worthOf_8 : decode cX2_worthOf 8 = .ok (.getfield 27, 3) := by decide +kernel
theorem dX2_worthOf_11 : decode cX2_worthOf 11 = .ok (.if_icmp .ge 30, 3) := by decide +kernel
theorem dX2_worthOf_14 : decode cX2_worthOf 14 = .ok (.iload_n 2, 1) := by decide +kernel
theorem dX2_worthOf_15 : decode cX2_worthOf 15 = .ok (.iload 4, 2) := by decide +kernel
theorem dX2_worthOf_17 : decode cX2_worthOf 17 = .ok (.ishr, 1) := by decide +kernel
theorem dX2_worthOf_18 : decode cX2_worthOf 18 = .ok (.iconst 1, 1) := by decide +kernel
theorem dX2_worthOf_19 : decode cX2_worthOf 19 = .ok (.iand, 1) := by decide +kernel
theorem dX2_worthOf_20 : decode cX2_worthOf 20 = .ok (.iconst 1, 1) := by decide +kernel
theorem dX2_worthOf_21 : decode cX2_worthOf 21 = .ok (.if_icmp .ne 14, 3) := by decide +kernel
theorem dX2_worthOf_24 : decode cX2_worthOf 24 = .ok (.aload_n 0, 1) := by decide +kernel
theorem dX2_worthOf_25 : decode cX2_worthOf 25 = .ok (.getfield 20, 3) := by decide +kernel
theorem dX2_worthOf_28 : decode cX2_worthOf 28 = .ok (.iload_n 3, 1) := by decide +kernel
theorem dX2_worthOf_29 : decode cX2_worthOf 29 = .ok (.iload 4, 2) := by decide +kernel
theorem dX2_worthOf_31 : decode cX2_worthOf 31 = .ok (.iastore, 1) := by decide +kernel
theorem dX2_worthOf_32 : decode cX2_worthOf 32 = .ok (.iinc 3 1, 3) := by decide +kernel
theorem dX2_worthOf_35 : decode cX2_worthOf 35 = .ok (.iinc 4 1, 3) := by decide +kernel
theorem dX2_worthOf_38 : decode cX2_worthOf 38 = .ok (.goto (-33), 3) := by decide +kernel
theorem dX2_worthOf_41 : decode cX2_worthOf 41 = .ok (.iconst 0, 1) := by decide +kernel
theorem dX2_worthOf_42 : decode cX2_worthOf 42 = .ok (.istore 4, 2) := by decide +kernel
theorem dX2_worthOf_44 : decode cX2_worthOf 44 = .ok (.iload 4, 2) := by decide +kernel
theorem dX2_worthOf_46 : decode cX2_worthOf 46 = .ok (.iload_n 3, 1) := by decide +kernel
theorem dX2_worthOf_47 : decode cX2_worthOf 47 = .ok (.if_icmp .ge 60, 3) := by decide +kernel
theorem dX2_worthOf_50 : decode cX2_worthOf 50 = .ok (.iconst 0, 1) := by decide +kernel
theorem dX2_worthOf_51 : decode cX2_worthOf 51 = .ok (.istore 5, 2) := by decide +kernel
theorem dX2_worthOf_53 : decode cX2_worthOf 53 = .ok (.iload 5, 2) := by decide +kernel
theorem dX2_worthOf_55 : decode cX2_worthOf 55 = .ok (.iload_n 3, 1) := by decide +kernel
theorem dX2_worthOf_56 : decode cX2_worthOf 56 = .ok (.if_icmp .ge 45, 3) := by decide +kernel
theorem dX2_worthOf_59 : decode cX2_worthOf 59 = .ok (.aload_n 0, 1) := by decide +kernel
theorem dX2_worthOf_60 : decode cX2_worthOf 60 = .ok (.getfield 11, 3) := by decide +kernel
theorem dX2_worthOf_63 : decode cX2_worthOf 63 = .ok (.iload 4, 2) := by decide +kernel
theorem dX2_worthOf_65 : decode cX2_worthOf 65 = .ok (.aaload, 1) := by decide +kernel
theorem dX2_worthOf_66 : decode cX2_worthOf 66 = .ok (.iload 5, 2) := by decide +kernel
theorem dX2_worthOf_68 : decode cX2_worthOf 68 = .ok (.aload_n 1, 1) := by decide +kernel
theorem dX2_worthOf_69 : decode cX2_worthOf 69 = .ok (.getfield 33, 3) := by decide +kernel
theorem dX2_worthOf_72 : decode cX2_worthOf 72 = .ok (.aload_n 1, 1) := by decide +kernel
theorem dX2_worthOf_73 : decode cX2_worthOf 73 = .ok (.getfield 37, 3) := by decide +kernel
theorem dX2_worthOf_76 : decode cX2_worthOf 76 = .ok (.aload_n 0, 1) := by decide +kernel
theorem dX2_worthOf_77 : decode cX2_worthOf 77 = .ok (.getfield 20, 3) := by decide +kernel
theorem dX2_worthOf_80 : decode cX2_worthOf 80 = .ok (.iload 4, 2) := by decide +kernel
theorem dX2_worthOf_82 : decode cX2_worthOf 82 = .ok (.iaload, 1) := by decide +kernel
theorem dX2_worthOf_83 : decode cX2_worthOf 83 = .ok (.aload_n 0, 1) := by decide +kernel
theorem dX2_worthOf_84 : decode cX2_worthOf 84 = .ok (.getfield 20, 3) := by decide +kernel
theorem dX2_worthOf_87 : decode cX2_worthOf 87 = .ok (.iload 5, 2) := by decide +kernel
theorem dX2_worthOf_89 : decode cX2_worthOf 89 = .ok (.iaload, 1) := by decide +kernel
theorem dX2_worthOf_90 : decode cX2_worthOf 90 = .ok (.invokestatic 40, 3) := by decide +kernel
theorem dX2_worthOf_93 : decode cX2_worthOf 93 = .ok (.i2l, 1) := by decide +kernel
theorem dX2_worthOf_94 : decode cX2_worthOf 94 = .ok (.lastore, 1) := by decide +kernel
theorem dX2_worthOf_95 : decode cX2_worthOf 95 = .ok (.iinc 5 1, 3) := by decide +kernel
theorem dX2_worthOf_98 : decode cX2_worthOf 98 = .ok (.goto (-45), 3) := by decide +kernel
theorem dX2_worthOf_101 : decode cX2_worthOf 101 = .ok (.iinc 4 1, 3) := by decide +kernel
theorem dX2_worthOf_104 : decode cX2_worthOf 104 = .ok (.goto (-60), 3) := by decide +kernel
theorem dX2_worthOf_107 : decode cX2_worthOf 107 = .ok (.aload_n 0, 1) := by decide +kernel
theorem dX2_worthOf_108 : decode cX2_worthOf 108 = .ok (.getfield 11, 3) := by decide +kernel
theorem dX2_worthOf_111 : decode cX2_worthOf 111 = .ok (.iload_n 3, 1) := by decide +kernel
theorem dX2_worthOf_112 : decode cX2_worthOf 112 = .ok (.iconst 0, 1) := by decide +kernel
theorem dX2_worthOf_113 : decode cX2_worthOf 113 = .ok (.iconst 1, 1) := by decide +kernel
theorem dX2_worthOf_114 : decode cX2_worthOf 114 = .ok (.iload_n 3, 1) := by decide +kernel
theorem dX2_worthOf_115 : decode cX2_worthOf 115 = .ok (.ishl, 1) := by decide +kernel
theorem dX2_worthOf_116 : decode cX2_worthOf 116 = .ok (.iconst 1, 1) := by decide +kernel
theorem dX2_worthOf_117 : decode cX2_worthOf 117 = .ok (.isub, 1) := by decide +kernel
theorem dX2_worthOf_118 : decode cX2_worthOf 118 = .ok (.invokestatic 44, 3) := by decide +kernel
theorem dX2_worthOf_121 : decode cX2_worthOf 121 = .ok (.lreturn, 1) := by decide +kernel
set_option maxHeartbeats 4000000 in
set_option maxRecDepth 100000 in
theorem a_X2_worthOf_113 (l : Launch) (dC : Nat → ClassId) (dI : Nat → Nat → Nat) (h : Nat → Nat) (cs : Nat → ClassId) (sz : Nat) (I : Nat → Int32) (L : Nat → Int64) (A : Nat → Nat → Int32) (Q : Nat → Nat → Int64) (G : Nat → Nat → Nat → Int32) (J : Nat → Nat → Nat → Int64) : Met l yX2_worthOf wsX2_worthOf ({ frames := 6, cells := 0, slots := 0, locals := 228 }) (va_Pc [.ref (h 106), .ref (h 101), .int (nI 1)] (xPre (dC, dI) (wD_112 h cs fI fL fA fQ fG fJ) (tysA cs) sz)) (va_Ql (fun (r : Int64) (u : CS) => (r = (0 : Int64)) ∧ u = (fI, fL, fA, fQ, fG, fJ)) (xB (dC, dI) (tysA cs) (va_A (wD_112 h cs fI fL fA fQ fG fJ) sz) (fun u : CS => wD_112 h cs u.1 u.2.1 u.2.2.1 u.2.2.2.1 u.2.2.2.2.1 u.2.2.2.2.2)) (va_A (wD_112 h cs fI fL fA fQ fG fJ) sz)) 0 0 (va_A (wD_112 h cs fI fL fA fQ fG fJ) sz) := by
  refine Met.ofW (cc := cX2_worthOf) (maxL := 6) (ret := (some .long)) (by decide) rfl ?_
  intro p e s m args below meth c s₁ B hml hv
  obtain ⟨rfl, hsz, hP, hK, hD0, hN⟩ := hv
  have hx := B.exec
  have hb := B.bytes
  have hr := B.returns
  have hts := atoms_spec (ws := wsX2_worthOf) B.pre
  have hown : s.vm.findClass RX2 = some m.cls := findClass_of_methodNamed B.named
  have hlocks := B.notSynchronized
  subst hsz
  have hD := hD0.self (sz := s.heap.size)
  generalize hAe : va_A (wD_112 h cs fI fL fA fQ fG fJ) s.heap.size = A0 at hD ⊢
  have hA : ∀ q : Nat, s.heap.size ≤ q → A0 q := fun q h => by rw [← hAe]; exact Or.inr h
  have hl := lv_entry ([.ref (h 106), .ref (h 101), .int (nI 1)]) (n := 6) (Nat.le_of_ble_eq_true rfl)
  rw [lg_entry_eq]
  generalize (lg_sl ([.ref (h 106), .ref (h 101), .int (nI 1)]) ++ List.replicate (6 - (lg_sl ([.ref (h 106), .ref (h 101), .int (nI 1)])).length) Slot.unset).toArray = ls at hl ⊢
  have hl : lv_has ls 6 [(0, .ref (h 106)), (1, .ref (h 101)), (2, .int (nI 1))] := hl
  generalize hH : s.heap = H at hP ⊢
  have hS : va_S A0 s.heap H [] := by rw [← hH]; exact va_S.rf
  have hinX3 : ∀ w ∈ wsX30, w ∈ wsX2_worthOf := by decide +kernel
  have hinX2 : ∀ w ∈ wsX20, w ∈ wsX2_worthOf := by decide +kernel
  refine lv_iconst (v := nI 0) hx hb dX2_worthOf_0 (by decide) ?_
  refine lv_istore_n (lv' := [(3, .int (nI 0)), (0, .ref (h 106)), (1, .ref (h 101)), (2, .int (nI 1))]) hx hb dX2_worthOf_1 rfl hl (by decide) rfl (fun ls hl => ?_)
  refine lv_iconst (v := nI 0) hx hb dX2_worthOf_2 (by decide) ?_
  refine lv_istore (lv' := [(4, .int (nI 0)), (3, .int (nI 0)), (0, .ref (h 106)), (1, .ref (h 101)), (2, .int (nI 1))]) hx hb dX2_worthOf_3 hl (by decide) rfl (fun ls hl => ?_)
  refine lv_iload hx hb dX2_worthOf_5 (lv_at hl 0 rfl) ?_
  refine lv_aload_n hx hb dX2_worthOf_7 rfl (lv_at hl 3 rfl) ?_
  refine va_get (D := (dC, dI)) (ci := 3) (v := .int (fI 121)) (C := RX3) (T := TX3) (N := 6) hx hb hts hinX3 hown hK hP 1 rfl rfl 1 (by decide) (hts (.fieldLink RX2 27 "MixedWords$Mix" "width" "I") (by decide +kernel)) (fun _ h9 => h9) rfl dX2_worthOf_8 ?_
  refine xt_i (y := nI 2) (by decide +kernel) ?_
  refine lv_icmp_ge (tgt := 41) hx hb dX2_worthOf_11 (by decide) (fun c9 => False.elim (by revert c9; decide +kernel)) (fun _ => ?_)
  refine lv_iload_n hx hb dX2_worthOf_14 rfl (lv_at hl 4 rfl) ?_
  refine lv_iload hx hb dX2_worthOf_15 (lv_at hl 0 rfl) ?_
  refine lv_ishr hx hb dX2_worthOf_17 ?_
  refine xt_i (y := nI 1) (by decide +kernel) ?_
  refine lv_iconst (v := nI 1) hx hb dX2_worthOf_18 (by decide) ?_
  refine lv_iand hx hb dX2_worthOf_19 ?_
  refine xt_i (y := nI 1) (by decide +kernel) ?_
  refine lv_iconst (v := nI 1) hx hb dX2_worthOf_20 (by decide) ?_
  refine lv_icmp_ne (tgt := 35) hx hb dX2_worthOf_21 (by decide) (fun c9 => False.elim (by revert c9; decide +kernel)) (fun _ => ?_)
  refine lv_aload_n hx hb dX2_worthOf_24 rfl (lv_at hl 2 rfl) ?_
  refine va_get (D := (dC, dI)) (ci := 2) (v := .ref (h 186)) (C := RX2) (T := TX2) (N := 5) hx hb hts hinX2 hown hK hP 0 rfl rfl 2 (by decide) (hts (.fieldLink RX2 20 "MixedWords$Least" "picked" "[I") (by decide +kernel)) (fun _ h9 => h9) rfl dX2_worthOf_25 ?_
  refine lv_iload_n hx hb dX2_worthOf_28 rfl (lv_at hl 1 rfl) ?_
  refine lv_iload hx hb dX2_worthOf_29 (lv_at hl 0 rfl) ?_
  refine xa_iastS hx hb hK hP hD hS 15 0 rfl rfl (by omega) (by decide) (by decide +kernel) dX2_worthOf_31 (fun H locs hP hD hS => ?_)
  refine lv_iinc (v := nI 1) (lv' := [(3, .int (nI 1)), (4, .int (nI 0)), (0, .ref (h 106)), (1, .ref (h 101)), (2, .int (nI 1))]) hx hb dX2_worthOf_32 hl (k := 1) rfl (by decide +kernel) (by decide) rfl (fun ls hl => ?_)
  refine lv_iinc (v := nI 1) (lv' := [(4, .int (nI 1)), (3, .int (nI 1)), (0, .ref (h 106)), (1, .ref (h 101)), (2, .int (nI 1))]) hx hb dX2_worthOf_35 hl (k := 1) rfl (by decide +kernel) (by decide) rfl (fun ls hl => ?_)
  refine lv_goto (tgt := 5) hx hb dX2_worthOf_38 (by decide) ?_
  refine lv_iload hx hb dX2_worthOf_5 (lv_at hl 0 rfl) ?_
  refine lv_aload_n hx hb dX2_worthOf_7 rfl (lv_at hl 3 rfl) ?_
  refine va_get (D := (dC, dI)) (ci := 3) (v := .int (fI 121)) (C := RX3) (T := TX3) (N := 6) hx hb hts hinX3 hown hK hP 1 rfl rfl 1 (by decide) (hts (.fieldLink RX2 27 "MixedWords$Mix" "width" "I") (by decide +kernel)) (fun _ h9 => h9) rfl dX2_worthOf_8 ?_
  refine xt_i (y := nI 2) (by decide +kernel) ?_
  refine lv_icmp_ge (tgt := 41) hx hb dX2_worthOf_11 (by decide) (fun c9 => False.elim (by revert c9; decide +kernel)) (fun _ => ?_)
  refine lv_iload_n hx hb dX2_worthOf_14 rfl (lv_at hl 4 rfl) ?_
  refine lv_iload hx hb dX2_worthOf_15 (lv_at hl 0 rfl) ?_
  refine lv_ishr hx hb dX2_worthOf_17 ?_
  refine xt_i (y := nI 0) (by decide +kernel) ?_
  refine lv_iconst (v := nI 1) hx hb dX2_worthOf_18 (by decide) ?_
  refine lv_iand hx hb dX2_worthOf_19 ?_
  refine xt_i (y := nI 0) (by decide +kernel) ?_
  refine lv_iconst (v := nI 1) hx hb dX2_worthOf_20 (by decide) ?_
  refine lv_icmp_ne (tgt := 35) hx hb dX2_worthOf_21 (by decide) (fun _ => ?_) (fun c9 => False.elim (by revert c9; decide +kernel))
  refine lv_iinc (v := nI 2) (lv' := [(4, .int (nI 2)), (3, .int (nI 1)), (0, .ref (h 106)), (1, .ref (h 101)), (2, .int (nI 1))]) hx hb dX2_worthOf_35 hl (k := 0) rfl (by decide +kernel) (by decide) rfl (fun ls hl => ?_)
  refine lv_goto (tgt := 5) hx hb dX2_worthOf_38 (by decide) ?_
  refine lv_iload hx hb dX2_worthOf_5 (lv_at hl 0 rfl) ?_
  refine lv_aload_n hx hb dX2_worthOf_7 rfl (lv_at hl 3 rfl) ?_
  refine va_get (D := (dC, dI)) (ci := 3) (v := .int (fI 121)) (C := RX3) (T := TX3) (N := 6) hx hb hts hinX3 hown hK hP 1 rfl rfl 1 (by decide) (hts (.fieldLink RX2 27 "MixedWords$Mix" "width" "I") (by decide +kernel)) (fun _ h9 => h9) rfl dX2_worthOf_8 ?_
  refine xt_i (y := nI 2) (by decide +kernel) ?_
  refine lv_icmp_ge (tgt := 41) hx hb dX2_worthOf_11 (by decide) (fun _ => ?_) (fun c9 => False.elim (by revert c9; decide +kernel))
  refine lv_iconst (v := nI 0) hx hb dX2_worthOf_41 (by decide) ?_
  refine lv_istore (lv' := [(4, .int (nI 0)), (3, .int (nI 1)), (0, .ref (h 106)), (1, .ref (h 101)), (2, .int (nI 1))]) hx hb dX2_worthOf_42 hl (by decide) rfl (fun ls hl => ?_)
  refine lv_iload hx hb dX2_worthOf_44 (lv_at hl 0 rfl) ?_
  refine lv_iload_n hx hb dX2_worthOf_46 rfl (lv_at hl 1 rfl) ?_
  refine lv_icmp_ge (tgt := 107) hx hb dX2_worthOf_47 (by decide) (fun c9 => False.elim (by revert c9; decide +kernel)) (fun _ => ?_)
  refine lv_iconst (v := nI 0) hx hb dX2_worthOf_50 (by decide) ?_
  refine lv_istore (lv' := [(5, .int (nI 0)), (4, .int (nI 0)), (3, .int (nI 1)), (0, .ref (h 106)), (1, .ref (h 101)), (2, .int (nI 1))]) hx hb dX2_worthOf_51 hl (by decide) rfl (fun ls hl => ?_)
  refine lv_iload hx hb dX2_worthOf_53 (lv_at hl 0 rfl) ?_
  refine lv_iload_n hx hb dX2_worthOf_55 rfl (lv_at hl 2 rfl) ?_
  refine lv_icmp_ge (tgt := 101) hx hb dX2_worthOf_56 (by decide) (fun c9 => False.elim (by revert c9; decide +kernel)) (fun _ => ?_)
  refine lv_aload_n hx hb dX2_worthOf_59 rfl (lv_at hl 3 rfl) ?_
  refine va_get (D := (dC, dI)) (ci := 2) (v := .ref (h 180)) (C := RX2) (T := TX2) (N := 5) hx hb hts hinX2 hown hK hP 0 rfl rfl 0 (by decide) (hts (.fieldLink RX2 11 "MixedWords$Least" "square" "[[J") (by decide +kernel)) (fun _ h9 => h9) rfl dX2_worthOf_60 ?_
  refine lv_iload hx hb dX2_worthOf_63 (lv_at hl 1 rfl) ?_
  refine xa_aald (b := h 181) hx hb hK hP 9 4 rfl rfl rfl (by omega) (by decide) (if_pos (by omega)) dX2_worthOf_65 ?_
  refine lv_iload hx hb dX2_worthOf_66 (lv_at hl 0 rfl) ?_
  refine lv_aload_n hx hb dX2_worthOf_68 rfl (lv_at hl 4 rfl) ?_
  refine va_get (D := (dC, dI)) (ci := 3) (v := .ref (h 130)) (C := RX3) (T := TX3) (N := 6) hx hb hts hinX3 hown hK hP 1 rfl rfl 4 (by decide) (hts (.fieldLink RX2 33 "MixedWords$Mix" "cells" "[[I") (by decide +kernel)) (fun _ h9 => h9) rfl dX2_worthOf_69 ?_
  refine lv_aload_n hx hb dX2_worthOf_72 rfl (lv_at hl 4 rfl) ?_
  refine va_get (D := (dC, dI)) (ci := 3) (v := .int (fI 120)) (C := RX3) (T := TX3) (N := 6) hx hb hts hinX3 hown hK hP 1 rfl rfl 0 (by decide) (hts (.fieldLink RX2 37 "MixedWords$Mix" "height" "I") (by decide +kernel)) (fun _ h9 => h9) rfl dX2_worthOf_73 ?_
  refine xt_i (y := nI 2) (by decide +kernel) ?_
  refine lv_aload_n hx hb dX2_worthOf_76 rfl (lv_at hl 3 rfl) ?_
  refine va_get (D := (dC, dI)) (ci := 2) (v := .ref (h 186)) (C := RX2) (T := TX2) (N := 5) hx hb hts hinX2 hown hK hP 0 rfl rfl 2 (by decide) (hts (.fieldLink RX2 20 "MixedWords$Least" "picked" "[I") (by decide +kernel)) (fun _ h9 => h9) rfl dX2_worthOf_77 ?_
  refine lv_iload hx hb dX2_worthOf_80 (lv_at hl 1 rfl) ?_
  refine xa_iald hx hb hK hP 15 0 rfl rfl (by omega) (by decide) dX2_worthOf_82 ?_
  refine xt_i (y := nI 0) (by decide +kernel) ?_
  refine lv_aload_n hx hb dX2_worthOf_83 rfl (lv_at hl 3 rfl) ?_
  refine va_get (D := (dC, dI)) (ci := 2) (v := .ref (h 186)) (C := RX2) (T := TX2) (N := 5) hx hb hts hinX2 hown hK hP 0 rfl rfl 2 (by decide) (hts (.fieldLink RX2 20 "MixedWords$Least" "picked" "[I") (by decide +kernel)) (fun _ h9 => h9) rfl dX2_worthOf_84 ?_
  refine lv_iload hx hb dX2_worthOf_87 (lv_at hl 0 rfl) ?_
  refine xa_iald hx hb hK hP 15 0 rfl rfl (by omega) (by decide) dX2_worthOf_89 ?_
  refine xt_i (y := nI 0) (by decide +kernel) ?_
  refine xj_i (wc := (wD_11 h cs fI fL fA fQ fG fJ)) (wr := [(h 106, .inr (2, [.ref (h 180), .ref (h 185), .ref (h 186), .ref (h 187), .long (fL 188)])), (h 101, .inr (3, [.int (fI 120), .int (fI 121), .int (fI 122), .int (fI 123), .ref (h 130), .ref (h 136)])), (h 136, .inl (cs 0, 5, .inl (fA 136))), (h 180, .inl (cs 4, 4, .inr (.inr (.inr (.inr (fun i => if i < 4 then some (h (i + 181)) else none)))))), (h 181, .inl (cs 1, 4, .inr (.inl ((fJ 0) 0)))), (h 182, .inl (cs 1, 4, .inr (.inl ((fJ 0) 1)))), (h 183, .inl (cs 1, 4, .inr (.inl ((fJ 0) 2)))), (h 184, .inl (cs 1, 4, .inr (.inl ((fJ 0) 3)))), (h 185, .inl (cs 1, 4, .inr (.inl (fQ 185)))), (h 186, .inl (cs 0, 4, .inl (fA 186))), (h 187, .inl (cs 1, 4, .inr (.inl (fQ 187))))]) hP hD hS hA [2, 3, 4, 5, 6, 7] [0, 1, 8, 9, 10, 11, 12, 13, 14, 15, 16] rfl rfl (by decide) (by decide) (va_runSN (As := [.ref (h 130), .int (nI 2), .int (nI 0), .int (nI 0)]) (rest := [.int (nI 0), .ref (h 181)]) ⟨hx, hb, hml, hown, hts⟩ (a_X9_product_12 l dC dI h cs H.size fI fL fA fQ fG fJ ) ⟨va_cnB (host := "MixedWords") 4 hts gX2_worthOf_X9_product_n40 rfl rfl rfl hN.2.2.2.2.2.1 (hts (.initialized RX9) (by decide +kernel)) (by decide +kernel) ⟨Nat.le_of_ble_eq_true rfl, Nat.le_of_ble_eq_true rfl⟩, hts (.static yX9_product) (by decide +kernel), trivial⟩ (xpS (wc := (wD_11 h cs fI fL fA fQ fG fJ)) hP hD hK hN [2, 3, 4, 5, 6, 7] rfl (by decide) _) rfl rfl hl.1 rfl (lv_room (Nat.le_of_ble_eq_true rfl)) dX2_worthOf_90 ⟨Nat.zero_le _, Nat.zero_le _⟩) (fun r_2 u_1 H locs hw hP hD hS => ?_)
  obtain ⟨hf_3, rfl⟩ := hw
  have hP : va_P (dC, dI) vwCl (wD_112 h cs fI fL fA fQ fG fJ) H := xP_sub hP [0, 1, 11, 12, 13, 14, 15, 16, 2, 3, 4, 5, 6, 7, 8, 9, 10] rfl
  have hD : va_D A0 (wD_112 h cs fI fL fA fQ fG fJ) := hD.sub [0, 1, 11, 12, 13, 14, 15, 16, 2, 3, 4, 5, 6, 7, 8, 9, 10] (by decide) rfl
  obtain rfl := hf_3
  refine lv_i2l (v := (0 : Int64)) hx hb dX2_worthOf_93 (by decide +kernel) ?_
  refine xa_lastS hx hb hK hP hD hS 10 1 rfl rfl (by omega) (by decide) (by decide +kernel) dX2_worthOf_94 (fun H locs hP hD hS => ?_)
  refine lv_iinc (v := nI 1) (lv' := [(5, .int (nI 1)), (4, .int (nI 0)), (3, .int (nI 1)), (0, .ref (h 106)), (1, .ref (h 101)), (2, .int (nI 1))]) hx hb dX2_worthOf_95 hl (k := 0) rfl (by decide +kernel) (by decide) rfl (fun ls hl => ?_)
  refine lv_goto (tgt := 53) hx hb dX2_worthOf_98 (by decide) ?_
  refine lv_iload hx hb dX2_worthOf_53 (lv_at hl 0 rfl) ?_
  refine lv_iload_n hx hb dX2_worthOf_55 rfl (lv_at hl 2 rfl) ?_
  refine lv_icmp_ge (tgt := 101) hx hb dX2_worthOf_56 (by decide) (fun _ => ?_) (fun c9 => False.elim (by revert c9; decide +kernel))
  refine lv_iinc (v := nI 1) (lv' := [(4, .int (nI 1)), (5, .int (nI 1)), (3, .int (nI 1)), (0, .ref (h 106)), (1, .ref (h 101)), (2, .int (nI 1))]) hx hb dX2_worthOf_101 hl (k := 1) rfl (by decide +kernel) (by decide) rfl (fun ls hl => ?_)
  refine lv_goto (tgt := 44) hx hb dX2_worthOf_104 (by decide) ?_
  refine lv_iload hx hb dX2_worthOf_44 (lv_at hl 0 rfl) ?_
  refine lv_iload_n hx hb dX2_worthOf_46 rfl (lv_at hl 2 rfl) ?_
  refine lv_icmp_ge (tgt := 107) hx hb dX2_worthOf_47 (by decide) (fun _ => ?_) (fun c9 => False.elim (by revert c9; decide +kernel))
  refine lv_aload_n hx hb dX2_worthOf_107 rfl (lv_at hl 3 rfl) ?_
  refine va_get (D := (dC, dI)) (ci := 2) (v := .ref (h 180)) (C := RX2) (T := TX2) (N := 5) hx hb hts hinX2 hown hK hP 0 rfl rfl 0 (by decide) (hts (.fieldLink RX2 11 "MixedWords$Least" "square" "[[J") (by decide +kernel)) (fun _ h9 => h9) rfl dX2_worthOf_108 ?_
  refine lv_iload_n hx hb dX2_worthOf_111 rfl (lv_at hl 2 rfl) ?_
  refine lv_iconst (v := nI 0) hx hb dX2_worthOf_112 (by decide) ?_
  refine lv_iconst (v := nI 1) hx hb dX2_worthOf_113 (by decide) ?_
  refine lv_iload_n hx hb dX2_worthOf_114 rfl (lv_at hl 2 rfl) ?_
  refine lv_ishl hx hb dX2_worthOf_115 ?_
  refine xt_i (y := nI 2) (by decide +kernel) ?_
  refine lv_iconst (v := nI 1) hx hb dX2_worthOf_116 (by decide) ?_
  refine lv_isub hx hb dX2_worthOf_117 ?_
  refine xt_i (y := nI 1) (by decide +kernel) ?_
  refine xj_l (wc := (wD_16 h cs fI fL fA fQ fG fJ)) (wr := [(h 106, .inr (2, [.ref (h 180), .ref (h 185), .ref (h 186), .ref (h 187), .long (fL 188)])), (h 101, .inr (3, [.int (fI 120), .int (fI 121), .int (fI 122), .int (fI 123), .ref (h 130), .ref (h 136)])), (h 130, .inl (cs 3, 5, .inr (.inr (.inr (.inr (fun i => if i < 5 then some (h (i + 131)) else none)))))), (h 131, .inl (cs 0, 4, .inl ((fG 0) 0))), (h 132, .inl (cs 0, 4, .inl ((fG 0) 1))), (h 133, .inl (cs 0, 4, .inl ((fG 0) 2))), (h 134, .inl (cs 0, 4, .inl ((fG 0) 3))), (h 135, .inl (cs 0, 4, .inl ((fG 0) 4))), (h 136, .inl (cs 0, 5, .inl (fA 136))), (h 185, .inl (cs 1, 4, .inr (.inl (fQ 185)))), (h 186, .inl (cs 0, 4, .inl (fA 186))), (h 187, .inl (cs 1, 4, .inr (.inl (fQ 187))))]) hP hD hS hA [9, 10, 11, 12, 13] [0, 1, 2, 3, 4, 5, 6, 7, 8, 14, 15, 16] rfl rfl (by decide) (by decide) (va_runS (As := [.ref (h 180), .int (nI 1), .int (nI 0), .int (nI 1)]) (rest := []) ⟨hx, hb, hml, hown, hts⟩ (a_X2_determinant_114 l dC dI h cs H.size fI fL fA fQ fG fJ ) (va_cwS 4 hts gX2_worthOf_X2_determinant rfl rfl rfl (by decide +kernel) ⟨Nat.le_of_ble_eq_true rfl, Nat.le_of_ble_eq_true rfl⟩) (xpS (wc := (wD_16 h cs fI fL fA fQ fG fJ)) hP hD hK hN [9, 10, 11, 12, 13] rfl (by decide) _) rfl rfl hl.1 rfl (lv_room (Nat.le_of_ble_eq_true rfl)) dX2_worthOf_118 ⟨Nat.zero_le _, Nat.zero_le _⟩) (fun r_5 u_4 H locs hw hP hD hS => ?_)
  obtain ⟨hf_6, rfl⟩ := hw
  have hP : va_P (dC, dI) vwCl (wD_112 h cs fI fL fA fQ fG fJ) H := xP_sub hP [0, 1, 2, 3, 4, 5, 6, 7, 8, 12, 13, 14, 15, 16, 9, 10, 11] rfl
  have hD : va_D A0 (wD_112 h cs fI fL fA fQ fG fJ) := hD.sub [0, 1, 2, 3, 4, 5, 6, 7, 8, 12, 13, 14, 15, 16, 9, 10, 11] (by decide) rfl
  obtain rfl := hf_6
  exact xr_l (v := (0 : Int64)) hx hb hr hlocks hK hS dX2_worthOf_121 (fI, fL, fA, fQ, fG, fJ) ⟨rfl, rfl⟩ hP hD
def qA_116 : Nat → Nat → Int32 := (va_up fA 186 (upd (fA 186) 0 (nI 1)))
set_option maxHeartbeats 4000000 in
set_option maxRecDepth 100000 in
theorem a_X9_product_117 (l : Launch) (dC : Nat → ClassId) (dI : Nat → Nat → Nat) (h : Nat → Nat) (cs : Nat → ClassId) (sz : Nat) (I : Nat → Int32) (L : Nat → Int64) (A : Nat → Nat → Int32) (Q : Nat → Nat → Int64) (G : Nat → Nat → Nat → Int32) (J : Nat → Nat → Nat → Int64) : Met l yX9_product wsX9_product ({ frames := 0, cells := 0, slots := 0, locals := 0 }) (va_Pc [.ref (h 130), .int (nI 2), .int (nI 1), .int (nI 1)] (xPre (dC, dI) (wD_11 h cs fI fL qA_116 fQ fG fJ) (tysA cs) sz)) (va_Qi (fun (r : Int32) (u : CS) => (r = nI 0) ∧ u = (fI, fL, qA_116, fQ, fG, fJ)) (xB (dC, dI) (tysA cs) (va_A (wD_11 h cs fI fL qA_116 fQ fG fJ) sz) (fun u : CS => wD_11 h cs u.1 u.2.1 u.2.2.1 u.2.2.2.1 u.2.2.2.2.1 u.2.2.2.2.2)) (va_A (wD_11 h cs fI fL qA_116 fQ fG fJ) sz)) 0 0 (va_A (wD_11 h cs fI fL qA_116 fQ fG fJ) sz) := by
  refine Met.ofW (cc := cX9_product) (maxL := 6) (ret := (some .int)) (by decide) rfl ?_
  intro p e s m args below meth c s₁ B hml hv
  obtain ⟨rfl, hsz, hP, hK, hD0, hN⟩ := hv
  have hx := B.exec
  have hb := B.bytes
  have hr := B.returns
  have hts := atoms_spec (ws := wsX9_product) B.pre
  have hown : s.vm.findClass RX9 = some m.cls := findClass_of_methodNamed B.named
  have hlocks := B.notSynchronized
  subst hsz
  have hD := hD0.self (sz := s.heap.size)
  generalize hAe : va_A (wD_11 h cs fI fL qA_116 fQ fG fJ) s.heap.size = A0 at hD ⊢
  have hA : ∀ q : Nat, s.heap.size ≤ q → A0 q := fun q h => by rw [← hAe]; exact Or.inr h
  have hl := lv_entry ([.ref (h 130), .int (nI 2), .int (nI 1), .int (nI 1)]) (n := 6) (Nat.le_of_ble_eq_true rfl)
  rw [lg_entry_eq]
  generalize (lg_sl ([.ref (h 130), .int (nI 2), .int (nI 1), .int (nI 1)]) ++ List.replicate (6 - (lg_sl ([.ref (h 130), .int (nI 2), .int (nI 1), .int (nI 1)])).length) Slot.unset).toArray = ls at hl ⊢
  have hl : lv_has ls 6 [(0, .ref (h 130)), (1, .int (nI 2)), (2, .int (nI 1)), (3, .int (nI 1))] := hl
  generalize hH : s.heap = H at hP ⊢
  have hS : va_S A0 s.heap H [] := by rw [← hH]; exact va_S.rf
  refine lv_iconst (v := nI 0) hx hb dX9_product_0 (by decide) ?_
  refine lv_istore (lv' := [(4, .int (nI 0)), (0, .ref (h 130)), (1, .int (nI 2)), (2, .int (nI 1)), (3, .int (nI 1))]) hx hb dX9_product_1 hl (by decide) rfl (fun ls hl => ?_)
  refine lv_iconst (v := nI 0) hx hb dX9_product_3 (by decide) ?_
  refine lv_istore (lv' := [(5, .int (nI 0)), (4, .int (nI 0)), (0, .ref (h 130)), (1, .int (nI 2)), (2, .int (nI 1)), (3, .int (nI 1))]) hx hb dX9_product_4 hl (by decide) rfl (fun ls hl => ?_)
  refine lv_iload hx hb dX9_product_6 (lv_at hl 0 rfl) ?_
  refine lv_iload_n hx hb dX9_product_8 rfl (lv_at hl 3 rfl) ?_
  refine lv_icmp_ge (tgt := 36) hx hb dX9_product_9 (by decide) (fun c9 => False.elim (by revert c9; decide +kernel)) (fun _ => ?_)
  refine lv_iload hx hb dX9_product_12 (lv_at hl 1 rfl) ?_
  refine lv_aload_n hx hb dX9_product_14 rfl (lv_at hl 2 rfl) ?_
  refine lv_iload hx hb dX9_product_15 (lv_at hl 0 rfl) ?_
  refine xa_aald (b := h 131) hx hb hK hP 0 3 rfl rfl rfl (by omega) (by decide) (if_pos (by omega)) dX9_product_17 ?_
  refine lv_iload_n hx hb dX9_product_18 rfl (lv_at hl 4 rfl) ?_
  refine xa_iald hx hb hK hP 1 0 rfl rfl (by omega) (by decide) dX9_product_19 ?_
  refine xt_i (y := nI 0) (by decide +kernel) ?_
  refine lv_aload_n hx hb dX9_product_20 rfl (lv_at hl 2 rfl) ?_
  refine lv_iload hx hb dX9_product_21 (lv_at hl 0 rfl) ?_
  refine xa_aald (b := h 131) hx hb hK hP 0 3 rfl rfl rfl (by omega) (by decide) (if_pos (by omega)) dX9_product_23 ?_
  refine lv_iload_n hx hb dX9_product_24 rfl (lv_at hl 5 rfl) ?_
  refine xa_iald hx hb hK hP 1 0 rfl rfl (by omega) (by decide) dX9_product_25 ?_
  refine xt_i (y := nI 0) (by decide +kernel) ?_
  refine lv_imul hx hb dX9_product_26 ?_
  refine xt_i (y := nI 0) (by decide +kernel) ?_
  refine lv_iadd hx hb dX9_product_27 ?_
  refine xt_i (y := nI 0) (by decide +kernel) ?_
  refine lv_istore (lv' := [(4, .int (nI 0)), (5, .int (nI 0)), (0, .ref (h 130)), (1, .int (nI 2)), (2, .int (nI 1)), (3, .int (nI 1))]) hx hb dX9_product_28 hl (by decide) rfl (fun ls hl => ?_)
  refine lv_iinc (v := nI 1) (lv' := [(5, .int (nI 1)), (4, .int (nI 0)), (0, .ref (h 130)), (1, .int (nI 2)), (2, .int (nI 1)), (3, .int (nI 1))]) hx hb dX9_product_30 hl (k := 1) rfl (by decide +kernel) (by decide) rfl (fun ls hl => ?_)
  refine lv_goto (tgt := 6) hx hb dX9_product_33 (by decide) ?_
  refine lv_iload hx hb dX9_product_6 (lv_at hl 0 rfl) ?_
  refine lv_iload_n hx hb dX9_product_8 rfl (lv_at hl 3 rfl) ?_
  refine lv_icmp_ge (tgt := 36) hx hb dX9_product_9 (by decide) (fun c9 => False.elim (by revert c9; decide +kernel)) (fun _ => ?_)
  refine lv_iload hx hb dX9_product_12 (lv_at hl 1 rfl) ?_
  refine lv_aload_n hx hb dX9_product_14 rfl (lv_at hl 2 rfl) ?_
  refine lv_iload hx hb dX9_product_15 (lv_at hl 0 rfl) ?_
  refine xa_aald (b := h 132) hx hb hK hP 0 3 rfl rfl rfl (by omega) (by decide) (if_pos (by omega)) dX9_product_17 ?_
  refine lv_iload_n hx hb dX9_product_18 rfl (lv_at hl 4 rfl) ?_
  refine xa_iald hx hb hK hP 2 0 rfl rfl (by omega) (by decide) dX9_product_19 ?_
  refine xt_i (y := nI 0) (by decide +kernel) ?_
  refine lv_aload_n hx hb dX9_product_20 rfl (lv_at hl 2 rfl) ?_
  refine lv_iload hx hb dX9_product_21 (lv_at hl 0 rfl) ?_
  refine xa_aald (b := h 132) hx hb hK hP 0 3 rfl rfl rfl (by omega) (by decide) (if_pos (by omega)) dX9_product_23 ?_
  refine lv_iload_n hx hb dX9_product_24 rfl (lv_at hl 5 rfl) ?_
  refine xa_iald hx hb hK hP 2 0 rfl rfl (by omega) (by decide) dX9_product_25 ?_
  refine xt_i (y := nI 0) (by decide +kernel) ?_
  refine lv_imul hx hb dX9_product_26 ?_
  refine xt_i (y := nI 0) (by decide +kernel) ?_
  refine lv_iadd hx hb dX9_product_27 ?_
  refine xt_i (y := nI 0) (by decide +kernel) ?_
  refine lv_istore (lv' := [(4, .int (nI 0)), (5, .int (nI 1)), (0, .ref (h 130)), (1, .int (nI 2)), (2, .int (nI 1)), (3, .int (nI 1))]) hx hb dX9_product_28 hl (by decide) rfl (fun ls hl => ?_)
  refine lv_iinc (v := nI 2) (lv' := [(5, .int (nI 2)), (4, .int (nI 0)), (0, .ref (h 130)), (1, .int (nI 2)), (2, .int (nI 1)), (3, .int (nI 1))]) hx hb dX9_product_30 hl (k := 1) rfl (by decide +kernel) (by decide) rfl (fun ls hl => ?_)
  refine lv_goto (tgt := 6) hx hb dX9_product_33 (by decide) ?_
  refine lv_iload hx hb dX9_product_6 (lv_at hl 0 rfl) ?_
  refine lv_iload_n hx hb dX9_product_8 rfl (lv_at hl 3 rfl) ?_
  refine lv_icmp_ge (tgt := 36) hx hb dX9_product_9 (by decide) (fun _ => ?_) (fun c9 => False.elim (by revert c9; decide +kernel))
  refine lv_iload hx hb dX9_product_36 (lv_at hl 1 rfl) ?_
  exact xr_i (v := (nI 0)) hx hb hr hlocks hK hS dX9_product_38 (fI, fL, qA_116, fQ, fG, fJ) ⟨rfl, rfl⟩ hP hD
set_option maxHeartbeats 4000000 in
set_option maxRecDepth 100000 in
theorem a_X2_determinant_118 (l : Launch) (dC : Nat → ClassId) (dI : Nat → Nat → Nat) (h : Nat → Nat) (cs : Nat → ClassId) (sz : Nat) (I : Nat → Int32) (L : Nat → Int64) (A : Nat → Nat → Int32) (Q : Nat → Nat → Int64) (G : Nat → Nat → Nat → Int32) (J : Nat → Nat → Nat → Int64) : Met l yX2_determinant wsX2_determinant ({ frames := 5, cells := 0, slots := 0, locals := 200 }) (va_Pc [.ref (h 180), .int (nI 1), .int (nI 0), .int (nI 1)] (xPre (dC, dI) (wD_16 h cs fI fL qA_116 fQ fG fJ) (tysA cs) sz)) (va_Ql (fun (r : Int64) (u : CS) => (r = (0 : Int64)) ∧ u = (fI, fL, qA_116, fQ, fG, fJ)) (xB (dC, dI) (tysA cs) (va_A (wD_16 h cs fI fL qA_116 fQ fG fJ) sz) (fun u : CS => wD_16 h cs u.1 u.2.1 u.2.2.1 u.2.2.2.1 u.2.2.2.2.1 u.2.2.2.2.2)) (va_A (wD_16 h cs fI fL qA_116 fQ fG fJ) sz)) 0 0 (va_A (wD_16 h cs fI fL qA_116 fQ fG fJ) sz) := by
  refine Met.ofW (cc := cX2_determinant) (maxL := 9) (ret := (some .long)) (by decide) rfl ?_
  intro p e s m args below meth c s₁ B hml hv
  obtain ⟨rfl, hsz, hP, hK, hD0, hN⟩ := hv
  have hx := B.exec
  have hb := B.bytes
  have hr := B.returns
  have hts := atoms_spec (ws := wsX2_determinant) B.pre
  have hown : s.vm.findClass RX2 = some m.cls := findClass_of_methodNamed B.named
  have hlocks := B.notSynchronized
  subst hsz
  have hD := hD0.self (sz := s.heap.size)
  generalize hAe : va_A (wD_16 h cs fI fL qA_116 fQ fG fJ) s.heap.size = A0 at hD ⊢
  have hA : ∀ q : Nat, s.heap.size ≤ q → A0 q := fun q h => by rw [← hAe]; exact Or.inr h
  have hl := lv_entry ([.ref (h 180), .int (nI 1), .int (nI 0), .int (nI 1)]) (n := 9) (Nat.le_of_ble_eq_true rfl)
  rw [lg_entry_eq]
  generalize (lg_sl ([.ref (h 180), .int (nI 1), .int (nI 0), .int (nI 1)]) ++ List.replicate (9 - (lg_sl ([.ref (h 180), .int (nI 1), .int (nI 0), .int (nI 1)])).length) Slot.unset).toArray = ls at hl ⊢
  have hl : lv_has ls 9 [(0, .ref (h 180)), (1, .int (nI 1)), (2, .int (nI 0)), (3, .int (nI 1))] := hl
  generalize hH : s.heap = H at hP ⊢
  have hS : va_S A0 s.heap H [] := by rw [← hH]; exact va_S.rf
  refine lv_iload_n hx hb dX2_determinant_0 rfl (lv_at hl 2 rfl) ?_
  refine lv_iload_n hx hb dX2_determinant_1 rfl (lv_at hl 1 rfl) ?_
  refine lv_icmp_lt (tgt := 7) hx hb dX2_determinant_2 (by decide) (fun _ => ?_) (fun c9 => False.elim (by revert c9; decide +kernel))
  refine lv_lconst (v := 0) hx hb dX2_determinant_7 rfl ?_
  refine lv_lstore (lv' := [(4, .long (0 : Int64)), (0, .ref (h 180)), (1, .int (nI 1)), (2, .int (nI 0)), (3, .int (nI 1))]) hx hb dX2_determinant_8 hl (by decide) rfl (fun ls hl => ?_)
  refine lv_lconst (v := 1) hx hb dX2_determinant_10 rfl ?_
  refine lv_lstore (lv' := [(6, .long (1 : Int64)), (4, .long (0 : Int64)), (0, .ref (h 180)), (1, .int (nI 1)), (2, .int (nI 0)), (3, .int (nI 1))]) hx hb dX2_determinant_11 hl (by decide) rfl (fun ls hl => ?_)
  refine lv_iconst (v := nI 0) hx hb dX2_determinant_13 (by decide) ?_
  refine lv_istore (lv' := [(8, .int (nI 0)), (6, .long (1 : Int64)), (4, .long (0 : Int64)), (0, .ref (h 180)), (1, .int (nI 1)), (2, .int (nI 0)), (3, .int (nI 1))]) hx hb dX2_determinant_14 hl (by decide) rfl (fun ls hl => ?_)
  refine lv_iload hx hb dX2_determinant_16 (lv_at hl 0 rfl) ?_
  refine lv_iload_n hx hb dX2_determinant_18 rfl (lv_at hl 4 rfl) ?_
  refine lv_icmp_ge (tgt := 87) hx hb dX2_determinant_19 (by decide) (fun c9 => False.elim (by revert c9; decide +kernel)) (fun _ => ?_)
  refine lv_iload_n hx hb dX2_determinant_22 rfl (lv_at hl 6 rfl) ?_
  refine lv_iload hx hb dX2_determinant_23 (lv_at hl 0 rfl) ?_
  refine lv_ishr hx hb dX2_determinant_25 ?_
  refine xt_i (y := nI 1) (by decide +kernel) ?_
  refine lv_iconst (v := nI 1) hx hb dX2_determinant_26 (by decide) ?_
  refine lv_iand hx hb dX2_determinant_27 ?_
  refine xt_i (y := nI 1) (by decide +kernel) ?_
  refine lv_if_ne (tgt := 34) hx hb dX2_determinant_28 (by decide) (fun _ => ?_) (fun c9 => False.elim (by revert c9; decide +kernel))
  refine lv_aload_n hx hb dX2_determinant_34 rfl (lv_at hl 3 rfl) ?_
  refine lv_iload_n hx hb dX2_determinant_35 rfl (lv_at hl 5 rfl) ?_
  refine xa_aald (b := h 181) hx hb hK hP 0 4 rfl rfl rfl (by omega) (by decide) (if_pos (by omega)) dX2_determinant_36 ?_
  refine lv_iload hx hb dX2_determinant_37 (lv_at hl 0 rfl) ?_
  refine xa_lald hx hb hK hP 1 1 rfl rfl (by omega) (by decide) dX2_determinant_39 ?_
  refine xt_l (y := (0 : Int64)) (by decide +kernel) ?_
  refine lv_lconst (v := 0) hx hb dX2_determinant_40 rfl ?_
  refine xl_eq (tgt := 76) hx hb dX2_determinant_41 dX2_determinant_42 (by decide) (fun _ => ?_) (fun c9 => False.elim (by revert c9; decide +kernel))
  refine lv_lload hx hb dX2_determinant_76 (lv_at hl 1 rfl) ?_
  refine lv_lneg hx hb dX2_determinant_78 ?_
  refine xt_l (y := (-1 : Int64)) (by decide +kernel) ?_
  refine lv_lstore (lv' := [(6, .long (-1 : Int64)), (8, .int (nI 0)), (4, .long (0 : Int64)), (0, .ref (h 180)), (1, .int (nI 1)), (2, .int (nI 0)), (3, .int (nI 1))]) hx hb dX2_determinant_79 hl (by decide) rfl (fun ls hl => ?_)
  refine lv_iinc (v := nI 1) (lv' := [(8, .int (nI 1)), (6, .long (-1 : Int64)), (4, .long (0 : Int64)), (0, .ref (h 180)), (1, .int (nI 1)), (2, .int (nI 0)), (3, .int (nI 1))]) hx hb dX2_determinant_81 hl (k := 1) rfl (by decide +kernel) (by decide) rfl (fun ls hl => ?_)
  refine lv_goto (tgt := 16) hx hb dX2_determinant_84 (by decide) ?_
  refine lv_iload hx hb dX2_determinant_16 (lv_at hl 0 rfl) ?_
  refine lv_iload_n hx hb dX2_determinant_18 rfl (lv_at hl 4 rfl) ?_
  refine lv_icmp_ge (tgt := 87) hx hb dX2_determinant_19 (by decide) (fun _ => ?_) (fun c9 => False.elim (by revert c9; decide +kernel))
  refine lv_lload hx hb dX2_determinant_87 (lv_at hl 2 rfl) ?_
  exact xr_l (v := (0 : Int64)) hx hb hr hlocks hK hS dX2_determinant_89 (fI, fL, qA_116, fQ, fG, fJ) ⟨rfl, rfl⟩ hP hD
set_option maxHeartbeats 4000000 in
set_option maxRecDepth 100000 in
theorem a_X2_worthOf_115 (l : Launch) (dC : Nat → ClassId) (dI : Nat → Nat → Nat) (h : Nat → Nat) (cs : Nat → ClassId) (sz : Nat) (I : Nat → Int32) (L : Nat → Int64) (A : Nat → Nat → Int32) (Q : Nat → Nat → Int64) (G : Nat → Nat → Nat → Int32) (J : Nat → Nat → Nat → Int64) : Met l yX2_worthOf wsX2_worthOf ({ frames := 6, cells := 0, slots := 0, locals := 228 }) (va_Pc [.ref (h 106), .ref (h 101), .int (nI 2)] (xPre (dC, dI) (wD_112 h cs fI fL fA fQ fG fJ) (tysA cs) sz)) (va_Ql (fun (r : Int64) (u : CS) => (r = (0 : Int64)) ∧ u = (fI, fL, qA_116, fQ, fG, fJ)) (xB (dC, dI) (tysA cs) (va_A (wD_112 h cs fI fL fA fQ fG fJ) sz) (fun u : CS => wD_112 h cs u.1 u.2.1 u.2.2.1 u.2.2.2.1 u.2.2.2.2.1 u.2.2.2.2.2)) (va_A (wD_112 h cs fI fL fA fQ fG fJ) sz)) 0 0 (va_A (wD_112 h cs fI fL fA fQ fG fJ) sz) := by
  refine Met.ofW (cc := cX2_worthOf) (maxL := 6) (ret := (some .long)) (by decide) rfl ?_
  intro p e s m args below meth c s₁ B hml hv
  obtain ⟨rfl, hsz, hP, hK, hD0, hN⟩ := hv
  have hx := B.exec
  have hb := B.bytes
  have hr := B.returns
  have hts := atoms_spec (ws := wsX2_worthOf) B.pre
  have hown : s.vm.findClass RX2 = some m.cls := findClass_of_methodNamed B.named
  have hlocks := B.notSynchronized
  subst hsz
  have hD := hD0.self (sz := s.heap.size)
  generalize hAe : va_A (wD_112 h cs fI fL fA fQ fG fJ) s.heap.size = A0 at hD ⊢
  have hA : ∀ q : Nat, s.heap.size ≤ q → A0 q := fun q h => by rw [← hAe]; exact Or.inr h
  have hl := lv_entry ([.ref (h 106), .ref (h 101), .int (nI 2)]) (n := 6) (Nat.le_of_ble_eq_true rfl)
  rw [lg_entry_eq]
  generalize (lg_sl ([.ref (h 106), .ref (h 101), .int (nI 2)]) ++ List.replicate (6 - (lg_sl ([.ref (h 106), .ref (h 101), .int (nI 2)])).length) Slot.unset).toArray = ls at hl ⊢
  have hl : lv_has ls 6 [(0, .ref (h 106)), (1, .ref (h 101)), (2, .int (nI 2))] := hl
  generalize hH : s.heap = H at hP ⊢
  have hS : va_S A0 s.heap H [] := by rw [← hH]; exact va_S.rf
  have hinX3 : ∀ w ∈ wsX30, w ∈ wsX2_worthOf := by decide +kernel
  have hinX2 : ∀ w ∈ wsX20, w ∈ wsX2_worthOf := by decide +kernel
  refine lv_iconst (v := nI 0) hx hb dX2_worthOf_0 (by decide) ?_
  refine lv_istore_n (lv' := [(3, .int (nI 0)), (0, .ref (h 106)), (1, .ref (h 101)), (2, .int (nI 2))]) hx hb dX2_worthOf_1 rfl hl (by decide) rfl (fun ls hl => ?_)
  refine lv_iconst (v := nI 0) hx hb dX2_worthOf_2 (by decide) ?_
  refine lv_istore (lv' := [(4, .int (nI 0)), (3, .int (nI 0)), (0, .ref (h 106)), (1, .ref (h 101)), (2, .int (nI 2))]) hx hb dX2_worthOf_3 hl (by decide) rfl (fun ls hl => ?_)
  refine lv_iload hx hb dX2_worthOf_5 (lv_at hl 0 rfl) ?_
  refine lv_aload_n hx hb dX2_worthOf_7 rfl (lv_at hl 3 rfl) ?_
  refine va_get (D := (dC, dI)) (ci := 3) (v := .int (fI 121)) (C := RX3) (T := TX3) (N := 6) hx hb hts hinX3 hown hK hP 1 rfl rfl 1 (by decide) (hts (.fieldLink RX2 27 "MixedWords$Mix" "width" "I") (by decide +kernel)) (fun _ h9 => h9) rfl dX2_worthOf_8 ?_
  refine xt_i (y := nI 2) (by decide +kernel) ?_
  refine lv_icmp_ge (tgt := 41) hx hb dX2_worthOf_11 (by decide) (fun c9 => False.elim (by revert c9; decide +kernel)) (fun _ => ?_)
  refine lv_iload_n hx hb dX2_worthOf_14 rfl (lv_at hl 4 rfl) ?_
  refine lv_iload hx hb dX2_worthOf_15 (lv_at hl 0 rfl) ?_
  refine lv_ishr hx hb dX2_worthOf_17 ?_
  refine xt_i (y := nI 2) (by decide +kernel) ?_
  refine lv_iconst (v := nI 1) hx hb dX2_worthOf_18 (by decide) ?_
  refine lv_iand hx hb dX2_worthOf_19 ?_
  refine xt_i (y := nI 0) (by decide +kernel) ?_
  refine lv_iconst (v := nI 1) hx hb dX2_worthOf_20 (by decide) ?_
  refine lv_icmp_ne (tgt := 35) hx hb dX2_worthOf_21 (by decide) (fun _ => ?_) (fun c9 => False.elim (by revert c9; decide +kernel))
  refine lv_iinc (v := nI 1) (lv' := [(4, .int (nI 1)), (3, .int (nI 0)), (0, .ref (h 106)), (1, .ref (h 101)), (2, .int (nI 2))]) hx hb dX2_worthOf_35 hl (k := 0) rfl (by decide +kernel) (by decide) rfl (fun ls hl => ?_)
  refine lv_goto (tgt := 5) hx hb dX2_worthOf_38 (by decide) ?_
  refine lv_iload hx hb dX2_worthOf_5 (lv_at hl 0 rfl) ?_
  refine lv_aload_n hx hb dX2_worthOf_7 rfl (lv_at hl 3 rfl) ?_
  refine va_get (D := (dC, dI)) (ci := 3) (v := .int (fI 121)) (C := RX3) (T := TX3) (N := 6) hx hb hts hinX3 hown hK hP 1 rfl rfl 1 (by decide) (hts (.fieldLink RX2 27 "MixedWords$Mix" "width" "I") (by decide +kernel)) (fun _ h9 => h9) rfl dX2_worthOf_8 ?_
  refine xt_i (y := nI 2) (by decide +kernel) ?_
  refine lv_icmp_ge (tgt := 41) hx hb dX2_worthOf_11 (by decide) (fun c9 => False.elim (by revert c9; decide +kernel)) (fun _ => ?_)
  refine lv_iload_n hx hb dX2_worthOf_14 rfl (lv_at hl 4 rfl) ?_
  refine lv_iload hx hb dX2_worthOf_15 (lv_at hl 0 rfl) ?_
  refine lv_ishr hx hb dX2_worthOf_17 ?_
  refine xt_i (y := nI 1) (by decide +kernel) ?_
  refine lv_iconst (v := nI 1) hx hb dX2_worthOf_18 (by decide) ?_
  refine lv_iand hx hb dX2_worthOf_19 ?_
  refine xt_i (y := nI 1) (by decide +kernel) ?_
  refine lv_iconst (v := nI 1) hx hb dX2_worthOf_20 (by decide) ?_
  refine lv_icmp_ne (tgt := 35) hx hb dX2_worthOf_21 (by decide) (fun c9 => False.elim (by revert c9; decide +kernel)) (fun _ => ?_)
  refine lv_aload_n hx hb dX2_worthOf_24 rfl (lv_at hl 2 rfl) ?_
  refine va_get (D := (dC, dI)) (ci := 2) (v := .ref (h 186)) (C := RX2) (T := TX2) (N := 5) hx hb hts hinX2 hown hK hP 0 rfl rfl 2 (by decide) (hts (.fieldLink RX2 20 "MixedWords$Least" "picked" "[I") (by decide +kernel)) (fun _ h9 => h9) rfl dX2_worthOf_25 ?_
  refine lv_iload_n hx hb dX2_worthOf_28 rfl (lv_at hl 1 rfl) ?_
  refine lv_iload hx hb dX2_worthOf_29 (lv_at hl 0 rfl) ?_
  refine xa_iast hx hb hK hP hD hS 15 0 rfl rfl (by omega) (by decide) dX2_worthOf_31 (fun H locs hP hD hS => ?_)
  have hP : va_P (dC, dI) vwCl (wD_112 h cs fI fL (va_up fA 186 (upd (fA 186) 0 (nI 1))) fQ fG fJ) H := hP
  have hD : va_D A0 (wD_112 h cs fI fL (va_up fA 186 (upd (fA 186) 0 (nI 1))) fQ fG fJ) := hD
  refine lv_iinc (v := nI 1) (lv' := [(3, .int (nI 1)), (4, .int (nI 1)), (0, .ref (h 106)), (1, .ref (h 101)), (2, .int (nI 2))]) hx hb dX2_worthOf_32 hl (k := 1) rfl (by decide +kernel) (by decide) rfl (fun ls hl => ?_)
  refine lv_iinc (v := nI 2) (lv' := [(4, .int (nI 2)), (3, .int (nI 1)), (0, .ref (h 106)), (1, .ref (h 101)), (2, .int (nI 2))]) hx hb dX2_worthOf_35 hl (k := 1) rfl (by decide +kernel) (by decide) rfl (fun ls hl => ?_)
  refine lv_goto (tgt := 5) hx hb dX2_worthOf_38 (by decide) ?_
  refine lv_iload hx hb dX2_worthOf_5 (lv_at hl 0 rfl) ?_
  refine lv_aload_n hx hb dX2_worthOf_7 rfl (lv_at hl 3 rfl) ?_
  refine va_get (D := (dC, dI)) (ci := 3) (v := .int (fI 121)) (C := RX3) (T := TX3) (N := 6) hx hb hts hinX3 hown hK hP 1 rfl rfl 1 (by decide) (hts (.fieldLink RX2 27 "MixedWords$Mix" "width" "I") (by decide +kernel)) (fun _ h9 => h9) rfl dX2_worthOf_8 ?_
  refine xt_i (y := nI 2) (by decide +kernel) ?_
  refine lv_icmp_ge (tgt := 41) hx hb dX2_worthOf_11 (by decide) (fun _ => ?_) (fun c9 => False.elim (by revert c9; decide +kernel))
  refine lv_iconst (v := nI 0) hx hb dX2_worthOf_41 (by decide) ?_
  refine lv_istore (lv' := [(4, .int (nI 0)), (3, .int (nI 1)), (0, .ref (h 106)), (1, .ref (h 101)), (2, .int (nI 2))]) hx hb dX2_worthOf_42 hl (by decide) rfl (fun ls hl => ?_)
  refine lv_iload hx hb dX2_worthOf_44 (lv_at hl 0 rfl) ?_
  refine lv_iload_n hx hb dX2_worthOf_46 rfl (lv_at hl 1 rfl) ?_
  refine lv_icmp_ge (tgt := 107) hx hb dX2_worthOf_47 (by decide) (fun c9 => False.elim (by revert c9; decide +kernel)) (fun _ => ?_)
  refine lv_iconst (v := nI 0) hx hb dX2_worthOf_50 (by decide) ?_
  refine lv_istore (lv' := [(5, .int (nI 0)), (4, .int (nI 0)), (3, .int (nI 1)), (0, .ref (h 106)), (1, .ref (h 101)), (2, .int (nI 2))]) hx hb dX2_worthOf_51 hl (by decide) rfl (fun ls hl => ?_)
  refine lv_iload hx hb dX2_worthOf_53 (lv_at hl 0 rfl) ?_
  refine lv_iload_n hx hb dX2_worthOf_55 rfl (lv_at hl 2 rfl) ?_
  refine lv_icmp_ge (tgt := 101) hx hb dX2_worthOf_56 (by decide) (fun c9 => False.elim (by revert c9; decide +kernel)) (fun _ => ?_)
  refine lv_aload_n hx hb dX2_worthOf_59 rfl (lv_at hl 3 rfl) ?_
  refine va_get (D := (dC, dI)) (ci := 2) (v := .ref (h 180)) (C := RX2) (T := TX2) (N := 5) hx hb hts hinX2 hown hK hP 0 rfl rfl 0 (by decide) (hts (.fieldLink RX2 11 "MixedWords$Least" "square" "[[J") (by decide +kernel)) (fun _ h9 => h9) rfl dX2_worthOf_60 ?_
  refine lv_iload hx hb dX2_worthOf_63 (lv_at hl 1 rfl) ?_
  refine xa_aald (b := h 181) hx hb hK hP 9 4 rfl rfl rfl (by omega) (by decide) (if_pos (by omega)) dX2_worthOf_65 ?_
  refine lv_iload hx hb dX2_worthOf_66 (lv_at hl 0 rfl) ?_
  refine lv_aload_n hx hb dX2_worthOf_68 rfl (lv_at hl 4 rfl) ?_
  refine va_get (D := (dC, dI)) (ci := 3) (v := .ref (h 130)) (C := RX3) (T := TX3) (N := 6) hx hb hts hinX3 hown hK hP 1 rfl rfl 4 (by decide) (hts (.fieldLink RX2 33 "MixedWords$Mix" "cells" "[[I") (by decide +kernel)) (fun _ h9 => h9) rfl dX2_worthOf_69 ?_
  refine lv_aload_n hx hb dX2_worthOf_72 rfl (lv_at hl 4 rfl) ?_
  refine va_get (D := (dC, dI)) (ci := 3) (v := .int (fI 120)) (C := RX3) (T := TX3) (N := 6) hx hb hts hinX3 hown hK hP 1 rfl rfl 0 (by decide) (hts (.fieldLink RX2 37 "MixedWords$Mix" "height" "I") (by decide +kernel)) (fun _ h9 => h9) rfl dX2_worthOf_73 ?_
  refine xt_i (y := nI 2) (by decide +kernel) ?_
  refine lv_aload_n hx hb dX2_worthOf_76 rfl (lv_at hl 3 rfl) ?_
  refine va_get (D := (dC, dI)) (ci := 2) (v := .ref (h 186)) (C := RX2) (T := TX2) (N := 5) hx hb hts hinX2 hown hK hP 0 rfl rfl 2 (by decide) (hts (.fieldLink RX2 20 "MixedWords$Least" "picked" "[I") (by decide +kernel)) (fun _ h9 => h9) rfl dX2_worthOf_77 ?_
  refine lv_iload hx hb dX2_worthOf_80 (lv_at hl 1 rfl) ?_
  refine xa_iald hx hb hK hP 15 0 rfl rfl (by omega) (by decide) dX2_worthOf_82 ?_
  refine xt_i (y := nI 1) (by decide +kernel) ?_
  refine lv_aload_n hx hb dX2_worthOf_83 rfl (lv_at hl 3 rfl) ?_
  refine va_get (D := (dC, dI)) (ci := 2) (v := .ref (h 186)) (C := RX2) (T := TX2) (N := 5) hx hb hts hinX2 hown hK hP 0 rfl rfl 2 (by decide) (hts (.fieldLink RX2 20 "MixedWords$Least" "picked" "[I") (by decide +kernel)) (fun _ h9 => h9) rfl dX2_worthOf_84 ?_
  refine lv_iload hx hb dX2_worthOf_87 (lv_at hl 0 rfl) ?_
  refine xa_iald hx hb hK hP 15 0 rfl rfl (by omega) (by decide) dX2_worthOf_89 ?_
  refine xt_i (y := nI 1) (by decide +kernel) ?_
  have hP : va_P (dC, dI) vwCl (wD_112 h cs fI fL qA_116 fQ fG fJ) H := hP
  have hD : va_D A0 (wD_112 h cs fI fL qA_116 fQ fG fJ) := hD
  refine xj_i (wc := (wD_11 h cs fI fL qA_116 fQ fG fJ)) (wr := [(h 106, .inr (2, [.ref (h 180), .ref (h 185), .ref (h 186), .ref (h 187), .long (fL 188)])), (h 101, .inr (3, [.int (fI 120), .int (fI 121), .int (fI 122), .int (fI 123), .ref (h 130), .ref (h 136)])), (h 136, .inl (cs 0, 5, .inl (qA_116 136))), (h 180, .inl (cs 4, 4, .inr (.inr (.inr (.inr (fun i => if i < 4 then some (h (i + 181)) else none)))))), (h 181, .inl (cs 1, 4, .inr (.inl ((fJ 0) 0)))), (h 182, .inl (cs 1, 4, .inr (.inl ((fJ 0) 1)))), (h 183, .inl (cs 1, 4, .inr (.inl ((fJ 0) 2)))), (h 184, .inl (cs 1, 4, .inr (.inl ((fJ 0) 3)))), (h 185, .inl (cs 1, 4, .inr (.inl (fQ 185)))), (h 186, .inl (cs 0, 4, .inl (qA_116 186))), (h 187, .inl (cs 1, 4, .inr (.inl (fQ 187))))]) hP hD hS hA [2, 3, 4, 5, 6, 7] [0, 1, 8, 9, 10, 11, 12, 13, 14, 15, 16] rfl rfl (by decide) (by decide) (va_runSN (As := [.ref (h 130), .int (nI 2), .int (nI 1), .int (nI 1)]) (rest := [.int (nI 0), .ref (h 181)]) ⟨hx, hb, hml, hown, hts⟩ (a_X9_product_117 l dC dI h cs H.size fI fL qA_116 fQ fG fJ ) ⟨va_cnB (host := "MixedWords") 4 hts gX2_worthOf_X9_product_n40 rfl rfl rfl hN.2.2.2.2.2.1 (hts (.initialized RX9) (by decide +kernel)) (by decide +kernel) ⟨Nat.le_of_ble_eq_true rfl, Nat.le_of_ble_eq_true rfl⟩, hts (.static yX9_product) (by decide +kernel), trivial⟩ (xpS (wc := (wD_11 h cs fI fL qA_116 fQ fG fJ)) hP hD hK hN [2, 3, 4, 5, 6, 7] rfl (by decide) _) rfl rfl hl.1 rfl (lv_room (Nat.le_of_ble_eq_true rfl)) dX2_worthOf_90 ⟨Nat.zero_le _, Nat.zero_le _⟩) (fun r_2 u_1 H locs hw hP hD hS => ?_)
  obtain ⟨hf_3, rfl⟩ := hw
  have hP : va_P (dC, dI) vwCl (wD_112 h cs fI fL qA_116 fQ fG fJ) H := xP_sub hP [0, 1, 11, 12, 13, 14, 15, 16, 2, 3, 4, 5, 6, 7, 8, 9, 10] rfl
  have hD : va_D A0 (wD_112 h cs fI fL qA_116 fQ fG fJ) := hD.sub [0, 1, 11, 12, 13, 14, 15, 16, 2, 3, 4, 5, 6, 7, 8, 9, 10] (by decide) rfl
  obtain rfl := hf_3
  refine lv_i2l (v := (0 : Int64)) hx hb dX2_worthOf_93 (by decide +kernel) ?_
  refine xa_lastS hx hb hK hP hD hS 10 1 rfl rfl (by omega) (by decide) (by decide +kernel) dX2_worthOf_94 (fun H locs hP hD hS => ?_)
  refine lv_iinc (v := nI 1) (lv' := [(5, .int (nI 1)), (4, .int (nI 0)), (3, .int (nI 1)), (0, .ref (h 106)), (1, .ref (h 101)), (2, .int (nI 2))]) hx hb dX2_worthOf_95 hl (k := 0) rfl (by decide +kernel) (by decide) rfl (fun ls hl => ?_)
  refine lv_goto (tgt := 53) hx hb dX2_worthOf_98 (by decide) ?_
  refine lv_iload hx hb dX2_worthOf_53 (lv_at hl 0 rfl) ?_
  refine lv_iload_n hx hb dX2_worthOf_55 rfl (lv_at hl 2 rfl) ?_
  refine lv_icmp_ge (tgt := 101) hx hb dX2_worthOf_56 (by decide) (fun _ => ?_) (fun c9 => False.elim (by revert c9; decide +kernel))
  refine lv_iinc (v := nI 1) (lv' := [(4, .int (nI 1)), (5, .int (nI 1)), (3, .int (nI 1)), (0, .ref (h 106)), (1, .ref (h 101)), (2, .int (nI 2))]) hx hb dX2_worthOf_101 hl (k := 1) rfl (by decide +kernel) (by decide) rfl (fun ls hl => ?_)
  refine lv_goto (tgt := 44) hx hb dX2_worthOf_104 (by decide) ?_
  refine lv_iload hx hb dX2_worthOf_44 (lv_at hl 0 rfl) ?_
  refine lv_iload_n hx hb dX2_worthOf_46 rfl (lv_at hl 2 rfl) ?_
  refine lv_icmp_ge (tgt := 107) hx hb dX2_worthOf_47 (by decide) (fun _ => ?_) (fun c9 => False.elim (by revert c9; decide +kernel))
  refine lv_aload_n hx hb dX2_worthOf_107 rfl (lv_at hl 3 rfl) ?_
  refine va_get (D := (dC, dI)) (ci := 2) (v := .ref (h 180)) (C := RX2) (T := TX2) (N := 5) hx hb hts hinX2 hown hK hP 0 rfl rfl 0 (by decide) (hts (.fieldLink RX2 11 "MixedWords$Least" "square" "[[J") (by decide +kernel)) (fun _ h9 => h9) rfl dX2_worthOf_108 ?_
  refine lv_iload_n hx hb dX2_worthOf_111 rfl (lv_at hl 2 rfl) ?_
  refine lv_iconst (v := nI 0) hx hb dX2_worthOf_112 (by decide) ?_
  refine lv_iconst (v := nI 1) hx hb dX2_worthOf_113 (by decide) ?_
  refine lv_iload_n hx hb dX2_worthOf_114 rfl (lv_at hl 2 rfl) ?_
  refine lv_ishl hx hb dX2_worthOf_115 ?_
  refine xt_i (y := nI 2) (by decide +kernel) ?_
  refine lv_iconst (v := nI 1) hx hb dX2_worthOf_116 (by decide) ?_
  refine lv_isub hx hb dX2_worthOf_117 ?_
  refine xt_i (y := nI 1) (by decide +kernel) ?_
  refine xj_l (wc := (wD_16 h cs fI fL qA_116 fQ fG fJ)) (wr := [(h 106, .inr (2, [.ref (h 180), .ref (h 185), .ref (h 186), .ref (h 187), .long (fL 188)])), (h 101, .inr (3, [.int (fI 120), .int (fI 121), .int (fI 122), .int (fI 123), .ref (h 130), .ref (h 136)])), (h 130, .inl (cs 3, 5, .inr (.inr (.inr (.inr (fun i => if i < 5 then some (h (i + 131)) else none)))))), (h 131, .inl (cs 0, 4, .inl ((fG 0) 0))), (h 132, .inl (cs 0, 4, .inl ((fG 0) 1))), (h 133, .inl (cs 0, 4, .inl ((fG 0) 2))), (h 134, .inl (cs 0, 4, .inl ((fG 0) 3))), (h 135, .inl (cs 0, 4, .inl ((fG 0) 4))), (h 136, .inl (cs 0, 5, .inl (qA_116 136))), (h 185, .inl (cs 1, 4, .inr (.inl (fQ 185)))), (h 186, .inl (cs 0, 4, .inl (qA_116 186))), (h 187, .inl (cs 1, 4, .inr (.inl (fQ 187))))]) hP hD hS hA [9, 10, 11, 12, 13] [0, 1, 2, 3, 4, 5, 6, 7, 8, 14, 15, 16] rfl rfl (by decide) (by decide) (va_runS (As := [.ref (h 180), .int (nI 1), .int (nI 0), .int (nI 1)]) (rest := []) ⟨hx, hb, hml, hown, hts⟩ (a_X2_determinant_118 l dC dI h cs H.size fI fL qA_116 fQ fG fJ ) (va_cwS 4 hts gX2_worthOf_X2_determinant rfl rfl rfl (by decide +kernel) ⟨Nat.le_of_ble_eq_true rfl, Nat.le_of_ble_eq_true rfl⟩) (xpS (wc := (wD_16 h cs fI fL qA_116 fQ fG fJ)) hP hD hK hN [9, 10, 11, 12, 13] rfl (by decide) _) rfl rfl hl.1 rfl (lv_room (Nat.le_of_ble_eq_true rfl)) dX2_worthOf_118 ⟨Nat.zero_le _, Nat.zero_le _⟩) (fun r_5 u_4 H locs hw hP hD hS => ?_)
  obtain ⟨hf_6, rfl⟩ := hw
  have hP : va_P (dC, dI) vwCl (wD_112 h cs fI fL qA_116 fQ fG fJ) H := xP_sub hP [0, 1, 2, 3, 4, 5, 6, 7, 8, 12, 13, 14, 15, 16, 9, 10, 11] rfl
  have hD : va_D A0 (wD_112 h cs fI fL qA_116 fQ fG fJ) := hD.sub [0, 1, 2, 3, 4, 5, 6, 7, 8, 12, 13, 14, 15, 16, 9, 10, 11] (by decide) rfl
  obtain rfl := hf_6
  exact xr_l (v := (0 : Int64)) hx hb hr hlocks hK hS dX2_worthOf_121 (fI, fL, qA_116, fQ, fG, fJ) ⟨rfl, rfl⟩ hP hD
def qA_120 : Nat → Nat → Int32 := (va_up fA 186 (upd (fA 186) 1 (nI 1)))
set_option maxHeartbeats 4000000 in
set_option maxRecDepth 100000 in
theorem a_X9_product_121 (l : Launch) (dC : Nat → ClassId) (dI : Nat → Nat → Nat) (h : Nat → Nat) (cs : Nat → ClassId) (sz : Nat) (I : Nat → Int32) (L : Nat → Int64) (A : Nat → Nat → Int32) (Q : Nat → Nat → Int64) (G : Nat → Nat → Nat → Int32) (J : Nat → Nat → Nat → Int64) : Met l yX9_product wsX9_product ({ frames := 0, cells := 0, slots := 0, locals := 0 }) (va_Pc [.ref (h 130), .int (nI 2), .int (nI 0), .int (nI 0)] (xPre (dC, dI) (wD_11 h cs fI fL qA_120 fQ fG fJ) (tysA cs) sz)) (va_Qi (fun (r : Int32) (u : CS) => (r = nI 0) ∧ u = (fI, fL, qA_120, fQ, fG, fJ)) (xB (dC, dI) (tysA cs) (va_A (wD_11 h cs fI fL qA_120 fQ fG fJ) sz) (fun u : CS => wD_11 h cs u.1 u.2.1 u.2.2.1 u.2.2.2.1 u.2.2.2.2.1 u.2.2.2.2.2)) (va_A (wD_11 h cs fI fL qA_120 fQ fG fJ) sz)) 0 0 (va_A (wD_11 h cs fI fL qA_120 fQ fG fJ) sz) := by
  refine Met.ofW (cc := cX9_product) (maxL := 6) (ret := (some .int)) (by decide) rfl ?_
  intro p e s m args below meth c s₁ B hml hv
  obtain ⟨rfl, hsz, hP, hK, hD0, hN⟩ := hv
  have hx := B.exec
  have hb := B.bytes
  have hr := B.returns
  have hts := atoms_spec (ws := wsX9_product) B.pre
  have hown : s.vm.findClass RX9 = some m.cls := findClass_of_methodNamed B.named
  have hlocks := B.notSynchronized
  subst hsz
  have hD := hD0.self (sz := s.heap.size)
  generalize hAe : va_A (wD_11 h cs fI fL qA_120 fQ fG fJ) s.heap.size = A0 at hD ⊢
  have hA : ∀ q : Nat, s.heap.size ≤ q → A0 q := fun q h => by rw [← hAe]; exact Or.inr h
  have hl := lv_entry ([.ref (h 130), .int (nI 2), .int (nI 0), .int (nI 0)]) (n := 6) (Nat.le_of_ble_eq_true rfl)
  rw [lg_entry_eq]
  generalize (lg_sl ([.ref (h 130), .int (nI 2), .int (nI 0), .int (nI 0)]) ++ List.replicate (6 - (lg_sl ([.ref (h 130), .int (nI 2), .int (nI 0), .int (nI 0)])).length) Slot.unset).toArray = ls at hl ⊢
  have hl : lv_has ls 6 [(0, .ref (h 130)), (1, .int (nI 2)), (2, .int (nI 0)), (3, .int (nI 0))] := hl
  generalize hH : s.heap = H at hP ⊢
  have hS : va_S A0 s.heap H [] := by rw [← hH]; exact va_S.rf
  refine lv_iconst (v := nI 0) hx hb dX9_product_0 (by decide) ?_
  refine lv_istore (lv' := [(4, .int (nI 0)), (0, .ref (h 130)), (1, .int (nI 2)), (2, .int (nI 0)), (3, .int (nI 0))]) hx hb dX9_product_1 hl (by decide) rfl (fun ls hl => ?_)
  refine lv_iconst (v := nI 0) hx hb dX9_product_3 (by decide) ?_
  refine lv_istore (lv' := [(5, .int (nI 0)), (4, .int (nI 0)), (0, .ref (h 130)), (1, .int (nI 2)), (2, .int (nI 0)), (3, .int (nI 0))]) hx hb dX9_product_4 hl (by decide) rfl (fun ls hl => ?_)
  refine lv_iload hx hb dX9_product_6 (lv_at hl 0 rfl) ?_
  refine lv_iload_n hx hb dX9_product_8 rfl (lv_at hl 3 rfl) ?_
  refine lv_icmp_ge (tgt := 36) hx hb dX9_product_9 (by decide) (fun c9 => False.elim (by revert c9; decide +kernel)) (fun _ => ?_)
  refine lv_iload hx hb dX9_product_12 (lv_at hl 1 rfl) ?_
  refine lv_aload_n hx hb dX9_product_14 rfl (lv_at hl 2 rfl) ?_
  refine lv_iload hx hb dX9_product_15 (lv_at hl 0 rfl) ?_
  refine xa_aald (b := h 131) hx hb hK hP 0 3 rfl rfl rfl (by omega) (by decide) (if_pos (by omega)) dX9_product_17 ?_
  refine lv_iload_n hx hb dX9_product_18 rfl (lv_at hl 4 rfl) ?_
  refine xa_iald hx hb hK hP 1 0 rfl rfl (by omega) (by decide) dX9_product_19 ?_
  refine xt_i (y := nI 0) (by decide +kernel) ?_
  refine lv_aload_n hx hb dX9_product_20 rfl (lv_at hl 2 rfl) ?_
  refine lv_iload hx hb dX9_product_21 (lv_at hl 0 rfl) ?_
  refine xa_aald (b := h 131) hx hb hK hP 0 3 rfl rfl rfl (by omega) (by decide) (if_pos (by omega)) dX9_product_23 ?_
  refine lv_iload_n hx hb dX9_product_24 rfl (lv_at hl 5 rfl) ?_
  refine xa_iald hx hb hK hP 1 0 rfl rfl (by omega) (by decide) dX9_product_25 ?_
  refine xt_i (y := nI 0) (by decide +kernel) ?_
  refine lv_imul hx hb dX9_product_26 ?_
  refine xt_i (y := nI 0) (by decide +kernel) ?_
  refine lv_iadd hx hb dX9_product_27 ?_
  refine xt_i (y := nI 0) (by decide +kernel) ?_
  refine lv_istore (lv' := [(4, .int (nI 0)), (5, .int (nI 0)), (0, .ref (h 130)), (1, .int (nI 2)), (2, .int (nI 0)), (3, .int (nI 0))]) hx hb dX9_product_28 hl (by decide) rfl (fun ls hl => ?_)
  refine lv_iinc (v := nI 1) (lv' := [(5, .int (nI 1)), (4, .int (nI 0)), (0, .ref (h 130)), (1, .int (nI 2)), (2, .int (nI 0)), (3, .int (nI 0))]) hx hb dX9_product_30 hl (k := 1) rfl (by decide +kernel) (by decide) rfl (fun ls hl => ?_)
  refine lv_goto (tgt := 6) hx hb dX9_product_33 (by decide) ?_
  refine lv_iload hx hb dX9_product_6 (lv_at hl 0 rfl) ?_
  refine lv_iload_n hx hb dX9_product_8 rfl (lv_at hl 3 rfl) ?_
  refine lv_icmp_ge (tgt := 36) hx hb dX9_product_9 (by decide) (fun c9 => False.elim (by revert c9; decide +kernel)) (fun _ => ?_)
  refine lv_iload hx hb dX9_product_12 (lv_at hl 1 rfl) ?_
  refine lv_aload_n hx hb dX9_product_14 rfl (lv_at hl 2 rfl) ?_
  refine lv_iload hx hb dX9_product_15 (lv_at hl 0 rfl) ?_
  refine xa_aald (b := h 132) hx hb hK hP 0 3 rfl rfl rfl (by omega) (by decide) (if_pos (by omega)) dX9_product_17 ?_
  refine lv_iload_n hx hb dX9_product_18 rfl (lv_at hl 4 rfl) ?_
  refine xa_iald hx hb hK hP 2 0 rfl rfl (by omega) (by decide) dX9_product_19 ?_
  refine xt_i (y := nI 0) (by decide +kernel) ?_
  refine lv_aload_n hx hb dX9_product_20 rfl (lv_at hl 2 rfl) ?_
  refine lv_iload hx hb dX9_product_21 (lv_at hl 0 rfl) ?_
  refine xa_aald (b := h 132) hx hb hK hP 0 3 rfl rfl rfl (by omega) (by decide) (if_pos (by omega)) dX9_product_23 ?_
  refine lv_iload_n hx hb dX9_product_24 rfl (lv_at hl 5 rfl) ?_
  refine xa_iald hx hb hK hP 2 0 rfl rfl (by omega) (by decide) dX9_product_25 ?_
  refine xt_i (y := nI 0) (by decide +kernel) ?_
  refine lv_imul hx hb dX9_product_26 ?_
  refine xt_i (y := nI 0) (by decide +kernel) ?_
  refine lv_iadd hx hb dX9_product_27 ?_
  refine xt_i (y := nI 0) (by decide +kernel) ?_
  refine lv_istore (lv' := [(4, .int (nI 0)), (5, .int (nI 1)), (0, .ref (h 130)), (1, .int (nI 2)), (2, .int (nI 0)), (3, .int (nI 0))]) hx hb dX9_product_28 hl (by decide) rfl (fun ls hl => ?_)
  refine lv_iinc (v := nI 2) (lv' := [(5, .int (nI 2)), (4, .int (nI 0)), (0, .ref (h 130)), (1, .int (nI 2)), (2, .int (nI 0)), (3, .int (nI 0))]) hx hb dX9_product_30 hl (k := 1) rfl (by decide +kernel) (by decide) rfl (fun ls hl => ?_)
  refine lv_goto (tgt := 6) hx hb dX9_product_33 (by decide) ?_
  refine lv_iload hx hb dX9_product_6 (lv_at hl 0 rfl) ?_
  refine lv_iload_n hx hb dX9_product_8 rfl (lv_at hl 3 rfl) ?_
  refine lv_icmp_ge (tgt := 36) hx hb dX9_product_9 (by decide) (fun _ => ?_) (fun c9 => False.elim (by revert c9; decide +kernel))
  refine lv_iload hx hb dX9_product_36 (lv_at hl 1 rfl) ?_
  exact xr_i (v := (nI 0)) hx hb hr hlocks hK hS dX9_product_38 (fI, fL, qA_120, fQ, fG, fJ) ⟨rfl, rfl⟩ hP hD
set_option maxHeartbeats 4000000 in
set_option maxRecDepth 100000 in
theorem a_X9_product_122 (l : Launch) (dC : Nat → ClassId) (dI : Nat → Nat → Nat) (h : Nat → Nat) (cs : Nat → ClassId) (sz : Nat) (I : Nat → Int32) (L : Nat → Int64) (A : Nat → Nat → Int32) (Q : Nat → Nat → Int64) (G : Nat → Nat → Nat → Int32) (J : Nat → Nat → Nat → Int64) : Met l yX9_product wsX9_product ({ frames := 0, cells := 0, slots := 0, locals := 0 }) (va_Pc [.ref (h 130), .int (nI 2), .int (nI 0), .int (nI 1)] (xPre (dC, dI) (wD_11 h cs fI fL qA_120 fQ fG fJ) (tysA cs) sz)) (va_Qi (fun (r : Int32) (u : CS) => (r = nI 0) ∧ u = (fI, fL, qA_120, fQ, fG, fJ)) (xB (dC, dI) (tysA cs) (va_A (wD_11 h cs fI fL qA_120 fQ fG fJ) sz) (fun u : CS => wD_11 h cs u.1 u.2.1 u.2.2.1 u.2.2.2.1 u.2.2.2.2.1 u.2.2.2.2.2)) (va_A (wD_11 h cs fI fL qA_120 fQ fG fJ) sz)) 0 0 (va_A (wD_11 h cs fI fL qA_120 fQ fG fJ) sz) := by
  refine Met.ofW (cc := cX9_product) (maxL := 6) (ret := (some .int)) (by decide) rfl ?_
  intro p e s m args below meth c s₁ B hml hv
  obtain ⟨rfl, hsz, hP, hK, hD0, hN⟩ := hv
  have hx := B.exec
  have hb := B.bytes
  have hr := B.returns
  have hts := atoms_spec (ws := wsX9_product) B.pre
  have hown : s.vm.findClass RX9 = some m.cls := findClass_of_methodNamed B.named
  have hlocks := B.notSynchronized
  subst hsz
  have hD := hD0.self (sz := s.heap.size)
  generalize hAe : va_A (wD_11 h cs fI fL qA_120 fQ fG fJ) s.heap.size = A0 at hD ⊢
  have hA : ∀ q : Nat, s.heap.size ≤ q → A0 q := fun q h => by rw [← hAe]; exact Or.inr h
  have hl := lv_entry ([.ref (h 130), .int (nI 2), .int (nI 0), .int (nI 1)]) (n := 6) (Nat.le_of_ble_eq_true rfl)
  rw [lg_entry_eq]
  generalize (lg_sl ([.ref (h 130), .int (nI 2), .int (nI 0), .int (nI 1)]) ++ List.replicate (6 - (lg_sl ([.ref (h 130), .int (nI 2), .int (nI 0), .int (nI 1)])).length) Slot.unset).toArray = ls at hl ⊢
  have hl : lv_has ls 6 [(0, .ref (h 130)), (1, .int (nI 2)), (2, .int (nI 0)), (3, .int (nI 1))] := hl
  generalize hH : s.heap = H at hP ⊢
  have hS : va_S A0 s.heap H [] := by rw [← hH]; exact va_S.rf
  refine lv_iconst (v := nI 0) hx hb dX9_product_0 (by decide) ?_
  refine lv_istore (lv' := [(4, .int (nI 0)), (0, .ref (h 130)), (1, .int (nI 2)), (2, .int (nI 0)), (3, .int (nI 1))]) hx hb dX9_product_1 hl (by decide) rfl (fun ls hl => ?_)
  refine lv_iconst (v := nI 0) hx hb dX9_product_3 (by decide) ?_
  refine lv_istore (lv' := [(5, .int (nI 0)), (4, .int (nI 0)), (0, .ref (h 130)), (1, .int (nI 2)), (2, .int (nI 0)), (3, .int (nI 1))]) hx hb dX9_product_4 hl (by decide) rfl (fun ls hl => ?_)
  refine lv_iload hx hb dX9_product_6 (lv_at hl 0 rfl) ?_
  refine lv_iload_n hx hb dX9_product_8 rfl (lv_at hl 3 rfl) ?_
  refine lv_icmp_ge (tgt := 36) hx hb dX9_product_9 (by decide) (fun c9 => False.elim (by revert c9; decide +kernel)) (fun _ => ?_)
  refine lv_iload hx hb dX9_product_12 (lv_at hl 1 rfl) ?_
  refine lv_aload_n hx hb dX9_product_14 rfl (lv_at hl 2 rfl) ?_
  refine lv_iload hx hb dX9_product_15 (lv_at hl 0 rfl) ?_
  refine xa_aald (b := h 131) hx hb hK hP 0 3 rfl rfl rfl (by omega) (by decide) (if_pos (by omega)) dX9_product_17 ?_
  refine lv_iload_n hx hb dX9_product_18 rfl (lv_at hl 4 rfl) ?_
  refine xa_iald hx hb hK hP 1 0 rfl rfl (by omega) (by decide) dX9_product_19 ?_
  refine xt_i (y := nI 0) (by decide +kernel) ?_
  refine lv_aload_n hx hb dX9_product_20 rfl (lv_at hl 2 rfl) ?_
  refine lv_iload hx hb dX9_product_21 (lv_at hl 0 rfl) ?_
  refine xa_aald (b := h 131) hx hb hK hP 0 3 rfl rfl rfl (by omega) (by decide) (if_pos (by omega)) dX9_product_23 ?_
  refine lv_iload_n hx hb dX9_product_24 rfl (lv_at hl 5 rfl) ?_
  refine xa_iald hx hb hK hP 1 0 rfl rfl (by omega) (by decide) dX9_product_25 ?_
  refine xt_i (y := nI 0) (by decide +kernel) ?_
  refine lv_imul hx hb dX9_product_26 ?_
  refine xt_i (y := nI 0) (by decide +kernel) ?_
  refine lv_iadd hx hb dX9_product_27 ?_
  refine xt_i (y := nI 0) (by decide +kernel) ?_
  refine lv_istore (lv' := [(4, .int (nI 0)), (5, .int (nI 0)), (0, .ref (h 130)), (1, .int (nI 2)), (2, .int (nI 0)), (3, .int (nI 1))]) hx hb dX9_product_28 hl (by decide) rfl (fun ls hl => ?_)
  refine lv_iinc (v := nI 1) (lv' := [(5, .int (nI 1)), (4, .int (nI 0)), (0, .ref (h 130)), (1, .int (nI 2)), (2, .int (nI 0)), (3, .int (nI 1))]) hx hb dX9_product_30 hl (k := 1) rfl (by decide +kernel) (by decide) rfl (fun ls hl => ?_)
  refine lv_goto (tgt := 6) hx hb dX9_product_33 (by decide) ?_
  refine lv_iload hx hb dX9_product_6 (lv_at hl 0 rfl) ?_
  refine lv_iload_n hx hb dX9_product_8 rfl (lv_at hl 3 rfl) ?_
  refine lv_icmp_ge (tgt := 36) hx hb dX9_product_9 (by decide) (fun c9 => False.elim (by revert c9; decide +kernel)) (fun _ => ?_)
  refine lv_iload hx hb dX9_product_12 (lv_at hl 1 rfl) ?_
  refine lv_aload_n hx hb dX9_product_14 rfl (lv_at hl 2 rfl) ?_
  refine lv_iload hx hb dX9_product_15 (lv_at hl 0 rfl) ?_
  refine xa_aald (b := h 132) hx hb hK hP 0 3 rfl rfl rfl (by omega) (by decide) (if_pos (by omega)) dX9_product_17 ?_
  refine lv_iload_n hx hb dX9_product_18 rfl (lv_at hl 4 rfl) ?_
  refine xa_iald hx hb hK hP 2 0 rfl rfl (by omega) (by decide) dX9_product_19 ?_
  refine xt_i (y := nI 0) (by decide +kernel) ?_
  refine lv_aload_n hx hb dX9_product_20 rfl (lv_at hl 2 rfl) ?_
  refine lv_iload hx hb dX9_product_21 (lv_at hl 0 rfl) ?_
  refine xa_aald (b := h 132) hx hb hK hP 0 3 rfl rfl rfl (by omega) (by decide) (if_pos (by omega)) dX9_product_23 ?_
  refine lv_iload_n hx hb dX9_product_24 rfl (lv_at hl 5 rfl) ?_
  refine xa_iald hx hb hK hP 2 0 rfl rfl (by omega) (by decide) dX9_product_25 ?_
  refine xt_i (y := nI 0) (by decide +kernel) ?_
  refine lv_imul hx hb dX9_product_26 ?_
  refine xt_i (y := nI 0) (by decide +kernel) ?_
  refine lv_iadd hx hb dX9_product_27 ?_
  refine xt_i (y := nI 0) (by decide +kernel) ?_
  refine lv_istore (lv' := [(4, .int (nI 0)), (5, .int (nI 1)), (0, .ref (h 130)), (1, .int (nI 2)), (2, .int (nI 0)), (3, .int (nI 1))]) hx hb dX9_product_28 hl (by decide) rfl (fun ls hl => ?_)
  refine lv_iinc (v := nI 2) (lv' := [(5, .int (nI 2)), (4, .int (nI 0)), (0, .ref (h 130)), (1, .int (nI 2)), (2, .int (nI 0)), (3, .int (nI 1))]) hx hb dX9_product_30 hl (k := 1) rfl (by decide +kernel) (by decide) rfl (fun ls hl => ?_)
  refine lv_goto (tgt := 6) hx hb dX9_product_33 (by decide) ?_
  refine lv_iload hx hb dX9_product_6 (lv_at hl 0 rfl) ?_
  refine lv_iload_n hx hb dX9_product_8 rfl (lv_at hl 3 rfl) ?_
  refine lv_icmp_ge (tgt := 36) hx hb dX9_product_9 (by decide) (fun _ => ?_) (fun c9 => False.elim (by revert c9; decide +kernel))
  refine lv_iload hx hb dX9_product_36 (lv_at hl 1 rfl) ?_
  exact xr_i (v := (nI 0)) hx hb hr hlocks hK hS dX9_product_38 (fI, fL, qA_120, fQ, fG, fJ) ⟨rfl, rfl⟩ hP hD
set_option maxHeartbeats 4000000 in
set_option maxRecDepth 100000 in
theorem a_X9_product_123 (l : Launch) (dC : Nat → ClassId) (dI : Nat → Nat → Nat) (h : Nat → Nat) (cs : Nat → ClassId) (sz : Nat) (I : Nat → Int32) (L : Nat → Int64) (A : Nat → Nat → Int32) (Q : Nat → Nat → Int64) (G : Nat → Nat → Nat → Int32) (J : Nat → Nat → Nat → Int64) : Met l yX9_product wsX9_product ({ frames := 0, cells := 0, slots := 0, locals := 0 }) (va_Pc [.ref (h 130), .int (nI 2), .int (nI 1), .int (nI 0)] (xPre (dC, dI) (wD_11 h cs fI fL qA_120 fQ fG fJ) (tysA cs) sz)) (va_Qi (fun (r : Int32) (u : CS) => (r = nI 0) ∧ u = (fI, fL, qA_120, fQ, fG, fJ)) (xB (dC, dI) (tysA cs) (va_A (wD_11 h cs fI fL qA_120 fQ fG fJ) sz) (fun u : CS => wD_11 h cs u.1 u.2.1 u.2.2.1 u.2.2.2.1 u.2.2.2.2.1 u.2.2.2.2.2)) (va_A (wD_11 h cs fI fL qA_120 fQ fG fJ) sz)) 0 0 (va_A (wD_11 h cs fI fL qA_120 fQ fG fJ) sz) := by
  refine Met.ofW (cc := cX9_product) (maxL := 6) (ret := (some .int)) (by decide) rfl ?_
  intro p e s m args below meth c s₁ B hml hv
  obtain ⟨rfl, hsz, hP, hK, hD0, hN⟩ := hv
  have hx := B.exec
  have hb := B.bytes
  have hr := B.returns
  have hts := atoms_spec (ws := wsX9_product) B.pre
  have hown : s.vm.findClass RX9 = some m.cls := findClass_of_methodNamed B.named
  have hlocks := B.notSynchronized
  subst hsz
  have hD := hD0.self (sz := s.heap.size)
  generalize hAe : va_A (wD_11 h cs fI fL qA_120 fQ fG fJ) s.heap.size = A0 at hD ⊢
  have hA : ∀ q : Nat, s.heap.size ≤ q → A0 q := fun q h => by rw [← hAe]; exact Or.inr h
  have hl := lv_entry ([.ref (h 130), .int (nI 2), .int (nI 1), .int (nI 0)]) (n := 6) (Nat.le_of_ble_eq_true rfl)
  rw [lg_entry_eq]
  generalize (lg_sl ([.ref (h 130), .int (nI 2), .int (nI 1), .int (nI 0)]) ++ List.replicate (6 - (lg_sl ([.ref (h 130), .int (nI 2), .int (nI 1), .int (nI 0)])).length) Slot.unset).toArray = ls at hl ⊢
  have hl : lv_has ls 6 [(0, .ref (h 130)), (1, .int (nI 2)), (2, .int (nI 1)), (3, .int (nI 0))] := hl
  generalize hH : s.heap = H at hP ⊢
  have hS : va_S A0 s.heap H [] := by rw [← hH]; exact va_S.rf
  refine lv_iconst (v := nI 0) hx hb dX9_product_0 (by decide) ?_
  refine lv_istore (lv' := [(4, .int (nI 0)), (0, .ref (h 130)), (1, .int (nI 2)), (2, .int (nI 1)), (3, .int (nI 0))]) hx hb dX9_product_1 hl (by decide) rfl (fun ls hl => ?_)
  refine lv_iconst (v := nI 0) hx hb dX9_product_3 (by decide) ?_
  refine lv_istore (lv' := [(5, .int (nI 0)), (4, .int (nI 0)), (0, .ref (h 130)), (1, .int (nI 2)), (2, .int (nI 1)), (3, .int (nI 0))]) hx hb dX9_product_4 hl (by decide) rfl (fun ls hl => ?_)
  refine lv_iload hx hb dX9_product_6 (lv_at hl 0 rfl) ?_
  refine lv_iload_n hx hb dX9_product_8 rfl (lv_at hl 3 rfl) ?_
  refine lv_icmp_ge (tgt := 36) hx hb dX9_product_9 (by decide) (fun c9 => False.elim (by revert c9; decide +kernel)) (fun _ => ?_)
  refine lv_iload hx hb dX9_product_12 (lv_at hl 1 rfl) ?_
  refine lv_aload_n hx hb dX9_product_14 rfl (lv_at hl 2 rfl) ?_
  refine lv_iload hx hb dX9_product_15 (lv_at hl 0 rfl) ?_
  refine xa_aald (b := h 131) hx hb hK hP 0 3 rfl rfl rfl (by omega) (by decide) (if_pos (by omega)) dX9_product_17 ?_
  refine lv_iload_n hx hb dX9_product_18 rfl (lv_at hl 4 rfl) ?_
  refine xa_iald hx hb hK hP 1 0 rfl rfl (by omega) (by decide) dX9_product_19 ?_
  refine xt_i (y := nI 0) (by decide +kernel) ?_
  refine lv_aload_n hx hb dX9_product_20 rfl (lv_at hl 2 rfl) ?_
  refine lv_iload hx hb dX9_product_21 (lv_at hl 0 rfl) ?_
  refine xa_aald (b := h 131) hx hb hK hP 0 3 rfl rfl rfl (by omega) (by decide) (if_pos (by omega)) dX9_product_23 ?_
  refine lv_iload_n hx hb dX9_product_24 rfl (lv_at hl 5 rfl) ?_
  refine xa_iald hx hb hK hP 1 0 rfl rfl (by omega) (by decide) dX9_product_25 ?_
  refine xt_i (y := nI 0) (by decide +kernel) ?_
  refine lv_imul hx hb dX9_product_26 ?_
  refine xt_i (y := nI 0) (by decide +kernel) ?_
  refine lv_iadd hx hb dX9_product_27 ?_
  refine xt_i (y := nI 0) (by decide +kernel) ?_
  refine lv_istore (lv' := [(4, .int (nI 0)), (5, .int (nI 0)), (0, .ref (h 130)), (1, .int (nI 2)), (2, .int (nI 1)), (3, .int (nI 0))]) hx hb dX9_product_28 hl (by decide) rfl (fun ls hl => ?_)
  refine lv_iinc (v := nI 1) (lv' := [(5, .int (nI 1)), (4, .int (nI 0)), (0, .ref (h 130)), (1, .int (nI 2)), (2, .int (nI 1)), (3, .int (nI 0))]) hx hb dX9_product_30 hl (k := 1) rfl (by decide +kernel) (by decide) rfl (fun ls hl => ?_)
  refine lv_goto (tgt := 6) hx hb dX9_product_33 (by decide) ?_
  refine lv_iload hx hb dX9_product_6 (lv_at hl 0 rfl) ?_
  refine lv_iload_n hx hb dX9_product_8 rfl (lv_at hl 3 rfl) ?_
  refine lv_icmp_ge (tgt := 36) hx hb dX9_product_9 (by decide) (fun c9 => False.elim (by revert c9; decide +kernel)) (fun _ => ?_)
  refine lv_iload hx hb dX9_product_12 (lv_at hl 1 rfl) ?_
  refine lv_aload_n hx hb dX9_product_14 rfl (lv_at hl 2 rfl) ?_
  refine lv_iload hx hb dX9_product_15 (lv_at hl 0 rfl) ?_
  refine xa_aald (b := h 132) hx hb hK hP 0 3 rfl rfl rfl (by omega) (by decide) (if_pos (by omega)) dX9_product_17 ?_
  refine lv_iload_n hx hb dX9_product_18 rfl (lv_at hl 4 rfl) ?_
  refine xa_iald hx hb hK hP 2 0 rfl rfl (by omega) (by decide) dX9_product_19 ?_
  refine xt_i (y := nI 0) (by decide +kernel) ?_
  refine lv_aload_n hx hb dX9_product_20 rfl (lv_at hl 2 rfl) ?_
  refine lv_iload hx hb dX9_product_21 (lv_at hl 0 rfl) ?_
  refine xa_aald (b := h 132) hx hb hK hP 0 3 rfl rfl rfl (by omega) (by decide) (if_pos (by omega)) dX9_product_23 ?_
  refine lv_iload_n hx hb dX9_product_24 rfl (lv_at hl 5 rfl) ?_
  refine xa_iald hx hb hK hP 2 0 rfl rfl (by omega) (by decide) dX9_product_25 ?_
  refine xt_i (y := nI 0) (by decide +kernel) ?_
  refine lv_imul hx hb dX9_product_26 ?_
  refine xt_i (y := nI 0) (by decide +kernel) ?_
  refine lv_iadd hx hb dX9_product_27 ?_
  refine xt_i (y := nI 0) (by decide +kernel) ?_
  refine lv_istore (lv' := [(4, .int (nI 0)), (5, .int (nI 1)), (0, .ref (h 130)), (1, .int (nI 2)), (2, .int (nI 1)), (3, .int (nI 0))]) hx hb dX9_product_28 hl (by decide) rfl (fun ls hl => ?_)
  refine lv_iinc (v := nI 2) (lv' := [(5, .int (nI 2)), (4, .int (nI 0)), (0, .ref (h 130)), (1, .int (nI 2)), (2, .int (nI 1)), (3, .int (nI 0))]) hx hb dX9_product_30 hl (k := 1) rfl (by decide +kernel) (by decide) rfl (fun ls hl => ?_)
  refine lv_goto (tgt := 6) hx hb dX9_product_33 (by decide) ?_
  refine lv_iload hx hb dX9_product_6 (lv_at hl 0 rfl) ?_
  refine lv_iload_n hx hb dX9_product_8 rfl (lv_at hl 3 rfl) ?_
  refine lv_icmp_ge (tgt := 36) hx hb dX9_product_9 (by decide) (fun _ => ?_) (fun c9 => False.elim (by revert c9; decide +kernel))
  refine lv_iload hx hb dX9_product_36 (lv_at hl 1 rfl) ?_
  exact xr_i (v := (nI 0)) hx hb hr hlocks hK hS dX9_product_38 (fI, fL, qA_120, fQ, fG, fJ) ⟨rfl, rfl⟩ hP hD
set_option maxHeartbeats 4000000 in
set_option maxRecDepth 100000 in
theorem a_X9_product_124 (l : Launch) (dC : Nat → ClassId) (dI : Nat → Nat → Nat) (h : Nat → Nat) (cs : Nat → ClassId) (sz : Nat) (I : Nat → Int32) (L : Nat → Int64) (A : Nat → Nat → Int32) (Q : Nat → Nat → Int64) (G : Nat → Nat → Nat → Int32) (J : Nat → Nat → Nat → Int64) : Met l yX9_product wsX9_product ({ frames := 0, cells := 0, slots := 0, locals := 0 }) (va_Pc [.ref (h 130), .int (nI 2), .int (nI 1), .int (nI 1)] (xPre (dC, dI) (wD_11 h cs fI fL qA_120 fQ fG fJ) (tysA cs) sz)) (va_Qi (fun (r : Int32) (u : CS) => (r = nI 0) ∧ u = (fI, fL, qA_120, fQ, fG, fJ)) (xB (dC, dI) (tysA cs) (va_A (wD_11 h cs fI fL qA_120 fQ fG fJ) sz) (fun u : CS => wD_11 h cs u.1 u.2.1 u.2.2.1 u.2.2.2.1 u.2.2.2.2.1 u.2.2.2.2.2)) (va_A (wD_11 h cs fI fL qA_120 fQ fG fJ) sz)) 0 0 (va_A (wD_11 h cs fI fL qA_120 fQ fG fJ) sz) := by
  refine Met.ofW (cc := cX9_product) (maxL := 6) (ret := (some .int)) (by decide) rfl ?_
  intro p e s m args below meth c s₁ B hml hv
  obtain ⟨rfl, hsz, hP, hK, hD0, hN⟩ := hv
  have hx := B.exec
  have hb := B.bytes
  have hr := B.returns
  have hts := atoms_spec (ws := wsX9_product) B.pre
  have hown : s.vm.findClass RX9 = some m.cls := findClass_of_methodNamed B.named
  have hlocks := B.notSynchronized
  subst hsz
  have hD := hD0.self (sz := s.heap.size)
  generalize hAe : va_A (wD_11 h cs fI fL qA_120 fQ fG fJ) s.heap.size = A0 at hD ⊢
  have hA : ∀ q : Nat, s.heap.size ≤ q → A0 q := fun q h => by rw [← hAe]; exact Or.inr h
  have hl := lv_entry ([.ref (h 130), .int (nI 2), .int (nI 1), .int (nI 1)]) (n := 6) (Nat.le_of_ble_eq_true rfl)
  rw [lg_entry_eq]
  generalize (lg_sl ([.ref (h 130), .int (nI 2), .int (nI 1), .int (nI 1)]) ++ List.replicate (6 - (lg_sl ([.ref (h 130), .int (nI 2), .int (nI 1), .int (nI 1)])).length) Slot.unset).toArray = ls at hl ⊢
  have hl : lv_has ls 6 [(0, .ref (h 130)), (1, .int (nI 2)), (2, .int (nI 1)), (3, .int (nI 1))] := hl
  generalize hH : s.heap = H at hP ⊢
  have hS : va_S A0 s.heap H [] := by rw [← hH]; exact va_S.rf
  refine lv_iconst (v := nI 0) hx hb dX9_product_0 (by decide) ?_
  refine lv_istore (lv' := [(4, .int (nI 0)), (0, .ref (h 130)), (1, .int (nI 2)), (2, .int (nI 1)), (3, .int (nI 1))]) hx hb dX9_product_1 hl (by decide) rfl (fun ls hl => ?_)
  refine lv_iconst (v := nI 0) hx hb dX9_product_3 (by decide) ?_
  refine lv_istore (lv' := [(5, .int (nI 0)), (4, .int (nI 0)), (0, .ref (h 130)), (1, .int (nI 2)), (2, .int (nI 1)), (3, .int (nI 1))]) hx hb dX9_product_4 hl (by decide) rfl (fun ls hl => ?_)
  refine lv_iload hx hb dX9_product_6 (lv_at hl 0 rfl) ?_
  refine lv_iload_n hx hb dX9_product_8 rfl (lv_at hl 3 rfl) ?_
  refine lv_icmp_ge (tgt := 36) hx hb dX9_product_9 (by decide) (fun c9 => False.elim (by revert c9; decide +kernel)) (fun _ => ?_)
  refine lv_iload hx hb dX9_product_12 (lv_at hl 1 rfl) ?_
  refine lv_aload_n hx hb dX9_product_14 rfl (lv_at hl 2 rfl) ?_
  refine lv_iload hx hb dX9_product_15 (lv_at hl 0 rfl) ?_
  refine xa_aald (b := h 131) hx hb hK hP 0 3 rfl rfl rfl (by omega) (by decide) (if_pos (by omega)) dX9_product_17 ?_
  refine lv_iload_n hx hb dX9_product_18 rfl (lv_at hl 4 rfl) ?_
  refine xa_iald hx hb hK hP 1 0 rfl rfl (by omega) (by decide) dX9_product_19 ?_
  refine xt_i (y := nI 0) (by decide +kernel) ?_
  refine lv_aload_n hx hb dX9_product_20 rfl (lv_at hl 2 rfl) ?_
  refine lv_iload hx hb dX9_product_21 (lv_at hl 0 rfl) ?_
  refine xa_aald (b := h 131) hx hb hK hP 0 3 rfl rfl rfl (by omega) (by decide) (if_pos (by omega)) dX9_product_23 ?_
  refine lv_iload_n hx hb dX9_product_24 rfl (lv_at hl 5 rfl) ?_
  refine xa_iald hx hb hK hP 1 0 rfl rfl (by omega) (by decide) dX9_product_25 ?_
  refine xt_i (y := nI 0) (by decide +kernel) ?_
  refine lv_imul hx hb dX9_product_26 ?_
  refine xt_i (y := nI 0) (by decide +kernel) ?_
  refine lv_iadd hx hb dX9_product_27 ?_
  refine xt_i (y := nI 0) (by decide +kernel) ?_
  refine lv_istore (lv' := [(4, .int (nI 0)), (5, .int (nI 0)), (0, .ref (h 130)), (1, .int (nI 2)), (2, .int (nI 1)), (3, .int (nI 1))]) hx hb dX9_product_28 hl (by decide) rfl (fun ls hl => ?_)
  refine lv_iinc (v := nI 1) (lv' := [(5, .int (nI 1)), (4, .int (nI 0)), (0, .ref (h 130)), (1, .int (nI 2)), (2, .int (nI 1)), (3, .int (nI 1))]) hx hb dX9_product_30 hl (k := 1) rfl (by decide +kernel) (by decide) rfl (fun ls hl => ?_)
  refine lv_goto (tgt := 6) hx hb dX9_product_33 (by decide) ?_
  refine lv_iload hx hb dX9_product_6 (lv_at hl 0 rfl) ?_
  refine lv_iload_n hx hb dX9_product_8 rfl (lv_at hl 3 rfl) ?_
  refine lv_icmp_ge (tgt := 36) hx hb dX9_product_9 (by decide) (fun c9 => False.elim (by revert c9; decide +kernel)) (fun _ => ?_)
  refine lv_iload hx hb dX9_product_12 (lv_at hl 1 rfl) ?_
  refine lv_aload_n hx hb dX9_product_14 rfl (lv_at hl 2 rfl) ?_
  refine lv_iload hx hb dX9_product_15 (lv_at hl 0 rfl) ?_
  refine xa_aald (b := h 132) hx hb hK hP 0 3 rfl rfl rfl (by omega) (by decide) (if_pos (by omega)) dX9_product_17 ?_
  refine lv_iload_n hx hb dX9_product_18 rfl (lv_at hl 4 rfl) ?_
  refine xa_iald hx hb hK hP 2 0 rfl rfl (by omega) (by decide) dX9_product_19 ?_
  refine xt_i (y := nI 0) (by decide +kernel) ?_
  refine lv_aload_n hx hb dX9_product_20 rfl (lv_at hl 2 rfl) ?_
  refine lv_iload hx hb dX9_product_21 (lv_at hl 0 rfl) ?_
  refine xa_aald (b := h 132) hx hb hK hP 0 3 rfl rfl rfl (by omega) (by decide) (if_pos (by omega)) dX9_product_23 ?_
  refine lv_iload_n hx hb dX9_product_24 rfl (lv_at hl 5 rfl) ?_
  refine xa_iald hx hb hK hP 2 0 rfl rfl (by omega) (by decide) dX9_product_25 ?_
  refine xt_i (y := nI 0) (by decide +kernel) ?_
  refine lv_imul hx hb dX9_product_26 ?_
  refine xt_i (y := nI 0) (by decide +kernel) ?_
  refine lv_iadd hx hb dX9_product_27 ?_
  refine xt_i (y := nI 0) (by decide +kernel) ?_
  refine lv_istore (lv' := [(4, .int (nI 0)), (5, .int (nI 1)), (0, .ref (h 130)), (1, .int (nI 2)), (2, .int (nI 1)), (3, .int (nI 1))]) hx hb dX9_product_28 hl (by decide) rfl (fun ls hl => ?_)
  refine lv_iinc (v := nI 2) (lv' := [(5, .int (nI 2)), (4, .int (nI 0)), (0, .ref (h 130)), (1, .int (nI 2)), (2, .int (nI 1)), (3, .int (nI 1))]) hx hb dX9_product_30 hl (k := 1) rfl (by decide +kernel) (by decide) rfl (fun ls hl => ?_)
  refine lv_goto (tgt := 6) hx hb dX9_product_33 (by decide) ?_
  refine lv_iload hx hb dX9_product_6 (lv_at hl 0 rfl) ?_
  refine lv_iload_n hx hb dX9_product_8 rfl (lv_at hl 3 rfl) ?_
  refine lv_icmp_ge (tgt := 36) hx hb dX9_product_9 (by decide) (fun _ => ?_) (fun c9 => False.elim (by revert c9; decide +kernel))
  refine lv_iload hx hb dX9_product_36 (lv_at hl 1 rfl) ?_
  exact xr_i (v := (nI 0)) hx hb hr hlocks hK hS dX9_product_38 (fI, fL, qA_120, fQ, fG, fJ) ⟨rfl, rfl⟩ hP hD
set_option maxHeartbeats 4000000 in
set_option maxRecDepth 100000 in
theorem a_X2_determinant_125 (l : Launch) (dC : Nat → ClassId) (dI : Nat → Nat → Nat) (h : Nat → Nat) (cs : Nat → ClassId) (sz : Nat) (I : Nat → Int32) (L : Nat → Int64) (A : Nat → Nat → Int32) (Q : Nat → Nat → Int64) (G : Nat → Nat → Nat → Int32) (J : Nat → Nat → Nat → Int64) : Met l yX2_determinant wsX2_determinant ({ frames := 5, cells := 0, slots := 0, locals := 200 }) (va_Pc [.ref (h 180), .int (nI 2), .int (nI 0), .int (nI 3)] (xPre (dC, dI) (wD_16 h cs fI fL qA_120 fQ fG fJ) (tysA cs) sz)) (va_Ql (fun (r : Int64) (u : CS) => (r = (0 : Int64)) ∧ u = (fI, fL, qA_120, fQ, fG, fJ)) (xB (dC, dI) (tysA cs) (va_A (wD_16 h cs fI fL qA_120 fQ fG fJ) sz) (fun u : CS => wD_16 h cs u.1 u.2.1 u.2.2.1 u.2.2.2.1 u.2.2.2.2.1 u.2.2.2.2.2)) (va_A (wD_16 h cs fI fL qA_120 fQ fG fJ) sz)) 0 0 (va_A (wD_16 h cs fI fL qA_120 fQ fG fJ) sz) := by
  refine Met.ofW (cc := cX2_determinant) (maxL := 9) (ret := (some .long)) (by decide) rfl ?_
  intro p e s m args below meth c s₁ B hml hv
  obtain ⟨rfl, hsz, hP, hK, hD0, hN⟩ := hv
  have hx := B.exec
  have hb := B.bytes
  have hr := B.returns
  have hts := atoms_spec (ws := wsX2_determinant) B.pre
  have hown : s.vm.findClass RX2 = some m.cls := findClass_of_methodNamed B.named
  have hlocks := B.notSynchronized
  subst hsz
  have hD := hD0.self (sz := s.heap.size)
  generalize hAe : va_A (wD_16 h cs fI fL qA_120 fQ fG fJ) s.heap.size = A0 at hD ⊢
  have hA : ∀ q : Nat, s.heap.size ≤ q → A0 q := fun q h => by rw [← hAe]; exact Or.inr h
  have hl := lv_entry ([.ref (h 180), .int (nI 2), .int (nI 0), .int (nI 3)]) (n := 9) (Nat.le_of_ble_eq_true rfl)
  rw [lg_entry_eq]
  generalize (lg_sl ([.ref (h 180), .int (nI 2), .int (nI 0), .int (nI 3)]) ++ List.replicate (9 - (lg_sl ([.ref (h 180), .int (nI 2), .int (nI 0), .int (nI 3)])).length) Slot.unset).toArray = ls at hl ⊢
  have hl : lv_has ls 9 [(0, .ref (h 180)), (1, .int (nI 2)), (2, .int (nI 0)), (3, .int (nI 3))] := hl
  generalize hH : s.heap = H at hP ⊢
  have hS : va_S A0 s.heap H [] := by rw [← hH]; exact va_S.rf
  refine lv_iload_n hx hb dX2_determinant_0 rfl (lv_at hl 2 rfl) ?_
  refine lv_iload_n hx hb dX2_determinant_1 rfl (lv_at hl 1 rfl) ?_
  refine lv_icmp_lt (tgt := 7) hx hb dX2_determinant_2 (by decide) (fun _ => ?_) (fun c9 => False.elim (by revert c9; decide +kernel))
  refine lv_lconst (v := 0) hx hb dX2_determinant_7 rfl ?_
  refine lv_lstore (lv' := [(4, .long (0 : Int64)), (0, .ref (h 180)), (1, .int (nI 2)), (2, .int (nI 0)), (3, .int (nI 3))]) hx hb dX2_determinant_8 hl (by decide) rfl (fun ls hl => ?_)
  refine lv_lconst (v := 1) hx hb dX2_determinant_10 rfl ?_
  refine lv_lstore (lv' := [(6, .long (1 : Int64)), (4, .long (0 : Int64)), (0, .ref (h 180)), (1, .int (nI 2)), (2, .int (nI 0)), (3, .int (nI 3))]) hx hb dX2_determinant_11 hl (by decide) rfl (fun ls hl => ?_)
  refine lv_iconst (v := nI 0) hx hb dX2_determinant_13 (by decide) ?_
  refine lv_istore (lv' := [(8, .int (nI 0)), (6, .long (1 : Int64)), (4, .long (0 : Int64)), (0, .ref (h 180)), (1, .int (nI 2)), (2, .int (nI 0)), (3, .int (nI 3))]) hx hb dX2_determinant_14 hl (by decide) rfl (fun ls hl => ?_)
  refine lv_iload hx hb dX2_determinant_16 (lv_at hl 0 rfl) ?_
  refine lv_iload_n hx hb dX2_determinant_18 rfl (lv_at hl 4 rfl) ?_
  refine lv_icmp_ge (tgt := 87) hx hb dX2_determinant_19 (by decide) (fun c9 => False.elim (by revert c9; decide +kernel)) (fun _ => ?_)
  refine lv_iload_n hx hb dX2_determinant_22 rfl (lv_at hl 6 rfl) ?_
  refine lv_iload hx hb dX2_determinant_23 (lv_at hl 0 rfl) ?_
  refine lv_ishr hx hb dX2_determinant_25 ?_
  refine xt_i (y := nI 3) (by decide +kernel) ?_
  refine lv_iconst (v := nI 1) hx hb dX2_determinant_26 (by decide) ?_
  refine lv_iand hx hb dX2_determinant_27 ?_
  refine xt_i (y := nI 1) (by decide +kernel) ?_
  refine lv_if_ne (tgt := 34) hx hb dX2_determinant_28 (by decide) (fun _ => ?_) (fun c9 => False.elim (by revert c9; decide +kernel))
  refine lv_aload_n hx hb dX2_determinant_34 rfl (lv_at hl 3 rfl) ?_
  refine lv_iload_n hx hb dX2_determinant_35 rfl (lv_at hl 5 rfl) ?_
  refine xa_aald (b := h 181) hx hb hK hP 0 4 rfl rfl rfl (by omega) (by decide) (if_pos (by omega)) dX2_determinant_36 ?_
  refine lv_iload hx hb dX2_determinant_37 (lv_at hl 0 rfl) ?_
  refine xa_lald hx hb hK hP 1 1 rfl rfl (by omega) (by decide) dX2_determinant_39 ?_
  refine xt_l (y := (0 : Int64)) (by decide +kernel) ?_
  refine lv_lconst (v := 0) hx hb dX2_determinant_40 rfl ?_
  refine xl_eq (tgt := 76) hx hb dX2_determinant_41 dX2_determinant_42 (by decide) (fun _ => ?_) (fun c9 => False.elim (by revert c9; decide +kernel))
  refine lv_lload hx hb dX2_determinant_76 (lv_at hl 1 rfl) ?_
  refine lv_lneg hx hb dX2_determinant_78 ?_
  refine xt_l (y := (-1 : Int64)) (by decide +kernel) ?_
  refine lv_lstore (lv' := [(6, .long (-1 : Int64)), (8, .int (nI 0)), (4, .long (0 : Int64)), (0, .ref (h 180)), (1, .int (nI 2)), (2, .int (nI 0)), (3, .int (nI 3))]) hx hb dX2_determinant_79 hl (by decide) rfl (fun ls hl => ?_)
  refine lv_iinc (v := nI 1) (lv' := [(8, .int (nI 1)), (6, .long (-1 : Int64)), (4, .long (0 : Int64)), (0, .ref (h 180)), (1, .int (nI 2)), (2, .int (nI 0)), (3, .int (nI 3))]) hx hb dX2_determinant_81 hl (k := 1) rfl (by decide +kernel) (by decide) rfl (fun ls hl => ?_)
  refine lv_goto (tgt := 16) hx hb dX2_determinant_84 (by decide) ?_
  refine lv_iload hx hb dX2_determinant_16 (lv_at hl 0 rfl) ?_
  refine lv_iload_n hx hb dX2_determinant_18 rfl (lv_at hl 4 rfl) ?_
  refine lv_icmp_ge (tgt := 87) hx hb dX2_determinant_19 (by decide) (fun c9 => False.elim (by revert c9; decide +kernel)) (fun _ => ?_)
  refine lv_iload_n hx hb dX2_determinant_22 rfl (lv_at hl 6 rfl) ?_
  refine lv_iload hx hb dX2_determinant_23 (lv_at hl 0 rfl) ?_
  refine lv_ishr hx hb dX2_determinant_25 ?_
  refine xt_i (y := nI 1) (by decide +kernel) ?_
  refine lv_iconst (v := nI 1) hx hb dX2_determinant_26 (by decide) ?_
  refine lv_iand hx hb dX2_determinant_27 ?_
  refine xt_i (y := nI 1) (by decide +kernel) ?_
  refine lv_if_ne (tgt := 34) hx hb dX2_determinant_28 (by decide) (fun _ => ?_) (fun c9 => False.elim (by revert c9; decide +kernel))
  refine lv_aload_n hx hb dX2_determinant_34 rfl (lv_at hl 3 rfl) ?_
  refine lv_iload_n hx hb dX2_determinant_35 rfl (lv_at hl 5 rfl) ?_
  refine xa_aald (b := h 181) hx hb hK hP 0 4 rfl rfl rfl (by omega) (by decide) (if_pos (by omega)) dX2_determinant_36 ?_
  refine lv_iload hx hb dX2_determinant_37 (lv_at hl 0 rfl) ?_
  refine xa_lald hx hb hK hP 1 1 rfl rfl (by omega) (by decide) dX2_determinant_39 ?_
  refine xt_l (y := (0 : Int64)) (by decide +kernel) ?_
  refine lv_lconst (v := 0) hx hb dX2_determinant_40 rfl ?_
  refine xl_eq (tgt := 76) hx hb dX2_determinant_41 dX2_determinant_42 (by decide) (fun _ => ?_) (fun c9 => False.elim (by revert c9; decide +kernel))
  refine lv_lload hx hb dX2_determinant_76 (lv_at hl 1 rfl) ?_
  refine lv_lneg hx hb dX2_determinant_78 ?_
  refine xt_l (y := (1 : Int64)) (by decide +kernel) ?_
  refine lv_lstore (lv' := [(6, .long (1 : Int64)), (8, .int (nI 1)), (4, .long (0 : Int64)), (0, .ref (h 180)), (1, .int (nI 2)), (2, .int (nI 0)), (3, .int (nI 3))]) hx hb dX2_determinant_79 hl (by decide) rfl (fun ls hl => ?_)
  refine lv_iinc (v := nI 2) (lv' := [(8, .int (nI 2)), (6, .long (1 : Int64)), (4, .long (0 : Int64)), (0, .ref (h 180)), (1, .int (nI 2)), (2, .int (nI 0)), (3, .int (nI 3))]) hx hb dX2_determinant_81 hl (k := 1) rfl (by decide +kernel) (by decide) rfl (fun ls hl => ?_)
  refine lv_goto (tgt := 16) hx hb dX2_determinant_84 (by decide) ?_
  refine lv_iload hx hb dX2_determinant_16 (lv_at hl 0 rfl) ?_
  refine lv_iload_n hx hb dX2_determinant_18 rfl (lv_at hl 4 rfl) ?_
  refine lv_icmp_ge (tgt := 87) hx hb dX2_determinant_19 (by decide) (fun _ => ?_) (fun c9 => False.elim (by revert c9; decide +kernel))
  refine lv_lload hx hb dX2_determinant_87 (lv_at hl 2 rfl) ?_
  exact xr_l (v := (0 : Int64)) hx hb hr hlocks hK hS dX2_determinant_89 (fI, fL, qA_120, fQ, fG, fJ) ⟨rfl, rfl⟩ hP hD
set_option maxHeartbeats 4000000 in
set_option maxRecDepth 100000 in
theorem a_X2_worthOf_119 (l : Launch) (dC : Nat → ClassId) (dI : Nat → Nat → Nat) (h : Nat → Nat) (cs : Nat → ClassId) (sz : Nat) (I : Nat → Int32) (L : Nat → Int64) (A : Nat → Nat → Int32) (Q : Nat → Nat → Int64) (G : Nat → Nat → Nat → Int32) (J : Nat → Nat → Nat → Int64) : Met l yX2_worthOf wsX2_worthOf ({ frames := 6, cells := 0, slots := 0, locals := 228 }) (va_Pc [.ref (h 106), .ref (h 101), .int (nI 3)] (xPre (dC, dI) (wD_112 h cs fI fL fA fQ fG fJ) (tysA cs) sz)) (va_Ql (fun (r : Int64) (u : CS) => (r = (0 : Int64)) ∧ u = (fI, fL, qA_120, fQ, fG, fJ)) (xB (dC, dI) (tysA cs) (va_A (wD_112 h cs fI fL fA fQ fG fJ) sz) (fun u : CS => wD_112 h cs u.1 u.2.1 u.2.2.1 u.2.2.2.1 u.2.2.2.2.1 u.2.2.2.2.2)) (va_A (wD_112 h cs fI fL fA fQ fG fJ) sz)) 0 0 (va_A (wD_112 h cs fI fL fA fQ fG fJ) sz) := by
  refine Met.ofW (cc := cX2_worthOf) (maxL := 6) (ret := (some .long)) (by decide) rfl ?_
  intro p e s m args below meth c s₁ B hml hv
  obtain ⟨rfl, hsz, hP, hK, hD0, hN⟩ := hv
  have hx := B.exec
  have hb := B.bytes
  have hr := B.returns
  have hts := atoms_spec (ws := wsX2_worthOf) B.pre
  have hown : s.vm.findClass RX2 = some m.cls := findClass_of_methodNamed B.named
  have hlocks := B.notSynchronized
  subst hsz
  have hD := hD0.self (sz := s.heap.size)
  generalize hAe : va_A (wD_112 h cs fI fL fA fQ fG fJ) s.heap.size = A0 at hD ⊢
  have hA : ∀ q : Nat, s.heap.size ≤ q → A0 q := fun q h => by rw [← hAe]; exact Or.inr h
  have hl := lv_entry ([.ref (h 106), .ref (h 101), .int (nI 3)]) (n := 6) (Nat.le_of_ble_eq_true rfl)
  rw [lg_entry_eq]
  generalize (lg_sl ([.ref (h 106), .ref (h 101), .int (nI 3)]) ++ List.replicate (6 - (lg_sl ([.ref (h 106), .ref (h 101), .int (nI 3)])).length) Slot.unset).toArray = ls at hl ⊢
  have hl : lv_has ls 6 [(0, .ref (h 106)), (1, .ref (h 101)), (2, .int (nI 3))] := hl
  generalize hH : s.heap = H at hP ⊢
  have hS : va_S A0 s.heap H [] := by rw [← hH]; exact va_S.rf
  have hinX3 : ∀ w ∈ wsX30, w ∈ wsX2_worthOf := by decide +kernel
  have hinX2 : ∀ w ∈ wsX20, w ∈ wsX2_worthOf := by decide +kernel
  refine lv_iconst (v := nI 0) hx hb dX2_worthOf_0 (by decide) ?_
  refine lv_istore_n (lv' := [(3, .int (nI 0)), (0, .ref (h 106)), (1, .ref (h 101)), (2, .int (nI 3))]) hx hb dX2_worthOf_1 rfl hl (by decide) rfl (fun ls hl => ?_)
  refine lv_iconst (v := nI 0) hx hb dX2_worthOf_2 (by decide) ?_
  refine lv_istore (lv' := [(4, .int (nI 0)), (3, .int (nI 0)), (0, .ref (h 106)), (1, .ref (h 101)), (2, .int (nI 3))]) hx hb dX2_worthOf_3 hl (by decide) rfl (fun ls hl => ?_)
  refine lv_iload hx hb dX2_worthOf_5 (lv_at hl 0 rfl) ?_
  refine lv_aload_n hx hb dX2_worthOf_7 rfl (lv_at hl 3 rfl) ?_
  refine va_get (D := (dC, dI)) (ci := 3) (v := .int (fI 121)) (C := RX3) (T := TX3) (N := 6) hx hb hts hinX3 hown hK hP 1 rfl rfl 1 (by decide) (hts (.fieldLink RX2 27 "MixedWords$Mix" "width" "I") (by decide +kernel)) (fun _ h9 => h9) rfl dX2_worthOf_8 ?_
  refine xt_i (y := nI 2) (by decide +kernel) ?_
  refine lv_icmp_ge (tgt := 41) hx hb dX2_worthOf_11 (by decide) (fun c9 => False.elim (by revert c9; decide +kernel)) (fun _ => ?_)
  refine lv_iload_n hx hb dX2_worthOf_14 rfl (lv_at hl 4 rfl) ?_
  refine lv_iload hx hb dX2_worthOf_15 (lv_at hl 0 rfl) ?_
  refine lv_ishr hx hb dX2_worthOf_17 ?_
  refine xt_i (y := nI 3) (by decide +kernel) ?_
  refine lv_iconst (v := nI 1) hx hb dX2_worthOf_18 (by decide) ?_
  refine lv_iand hx hb dX2_worthOf_19 ?_
  refine xt_i (y := nI 1) (by decide +kernel) ?_
  refine lv_iconst (v := nI 1) hx hb dX2_worthOf_20 (by decide) ?_
  refine lv_icmp_ne (tgt := 35) hx hb dX2_worthOf_21 (by decide) (fun c9 => False.elim (by revert c9; decide +kernel)) (fun _ => ?_)
  refine lv_aload_n hx hb dX2_worthOf_24 rfl (lv_at hl 2 rfl) ?_
  refine va_get (D := (dC, dI)) (ci := 2) (v := .ref (h 186)) (C := RX2) (T := TX2) (N := 5) hx hb hts hinX2 hown hK hP 0 rfl rfl 2 (by decide) (hts (.fieldLink RX2 20 "MixedWords$Least" "picked" "[I") (by decide +kernel)) (fun _ h9 => h9) rfl dX2_worthOf_25 ?_
  refine lv_iload_n hx hb dX2_worthOf_28 rfl (lv_at hl 1 rfl) ?_
  refine lv_iload hx hb dX2_worthOf_29 (lv_at hl 0 rfl) ?_
  refine xa_iastS hx hb hK hP hD hS 15 0 rfl rfl (by omega) (by decide) (by decide +kernel) dX2_worthOf_31 (fun H locs hP hD hS => ?_)
  refine lv_iinc (v := nI 1) (lv' := [(3, .int (nI 1)), (4, .int (nI 0)), (0, .ref (h 106)), (1, .ref (h 101)), (2, .int (nI 3))]) hx hb dX2_worthOf_32 hl (k := 1) rfl (by decide +kernel) (by decide) rfl (fun ls hl => ?_)
  refine lv_iinc (v := nI 1) (lv' := [(4, .int (nI 1)), (3, .int (nI 1)), (0, .ref (h 106)), (1, .ref (h 101)), (2, .int (nI 3))]) hx hb dX2_worthOf_35 hl (k := 1) rfl (by decide +kernel) (by decide) rfl (fun ls hl => ?_)
  refine lv_goto (tgt := 5) hx hb dX2_worthOf_38 (by decide) ?_
  refine lv_iload hx hb dX2_worthOf_5 (lv_at hl 0 rfl) ?_
  refine lv_aload_n hx hb dX2_worthOf_7 rfl (lv_at hl 3 rfl) ?_
  refine va_get (D := (dC, dI)) (ci := 3) (v := .int (fI 121)) (C := RX3) (T := TX3) (N := 6) hx hb hts hinX3 hown hK hP 1 rfl rfl 1 (by decide) (hts (.fieldLink RX2 27 "MixedWords$Mix" "width" "I") (by decide +kernel)) (fun _ h9 => h9) rfl dX2_worthOf_8 ?_
  refine xt_i (y := nI 2) (by decide +kernel) ?_
  refine lv_icmp_ge (tgt := 41) hx hb dX2_worthOf_11 (by decide) (fun c9 => False.elim (by revert c9; decide +kernel)) (fun _ => ?_)
  refine lv_iload_n hx hb dX2_worthOf_14 rfl (lv_at hl 4 rfl) ?_
  refine lv_iload hx hb dX2_worthOf_15 (lv_at hl 0 rfl) ?_
  refine lv_ishr hx hb dX2_worthOf_17 ?_
  refine xt_i (y := nI 1) (by decide +kernel) ?_
  refine lv_iconst (v := nI 1) hx hb dX2_worthOf_18 (by decide) ?_
  refine lv_iand hx hb dX2_worthOf_19 ?_
  refine xt_i (y := nI 1) (by decide +kernel) ?_
  refine lv_iconst (v := nI 1) hx hb dX2_worthOf_20 (by decide) ?_
  refine lv_icmp_ne (tgt := 35) hx hb dX2_worthOf_21 (by decide) (fun c9 => False.elim (by revert c9; decide +kernel)) (fun _ => ?_)
  refine lv_aload_n hx hb dX2_worthOf_24 rfl (lv_at hl 2 rfl) ?_
  refine va_get (D := (dC, dI)) (ci := 2) (v := .ref (h 186)) (C := RX2) (T := TX2) (N := 5) hx hb hts hinX2 hown hK hP 0 rfl rfl 2 (by decide) (hts (.fieldLink RX2 20 "MixedWords$Least" "picked" "[I") (by decide +kernel)) (fun _ h9 => h9) rfl dX2_worthOf_25 ?_
  refine lv_iload_n hx hb dX2_worthOf_28 rfl (lv_at hl 1 rfl) ?_
  refine lv_iload hx hb dX2_worthOf_29 (lv_at hl 0 rfl) ?_
  refine xa_iast hx hb hK hP hD hS 15 0 rfl rfl (by omega) (by decide) dX2_worthOf_31 (fun H locs hP hD hS => ?_)
  have hP : va_P (dC, dI) vwCl (wD_112 h cs fI fL (va_up fA 186 (upd (fA 186) 1 (nI 1))) fQ fG fJ) H := hP
  have hD : va_D A0 (wD_112 h cs fI fL (va_up fA 186 (upd (fA 186) 1 (nI 1))) fQ fG fJ) := hD
  refine lv_iinc (v := nI 2) (lv' := [(3, .int (nI 2)), (4, .int (nI 1)), (0, .ref (h 106)), (1, .ref (h 101)), (2, .int (nI 3))]) hx hb dX2_worthOf_32 hl (k := 1) rfl (by decide +kernel) (by decide) rfl (fun ls hl => ?_)
  refine lv_iinc (v := nI 2) (lv' := [(4, .int (nI 2)), (3, .int (nI 2)), (0, .ref (h 106)), (1, .ref (h 101)), (2, .int (nI 3))]) hx hb dX2_worthOf_35 hl (k := 1) rfl (by decide +kernel) (by decide) rfl (fun ls hl => ?_)
  refine lv_goto (tgt := 5) hx hb dX2_worthOf_38 (by decide) ?_
  refine lv_iload hx hb dX2_worthOf_5 (lv_at hl 0 rfl) ?_
  refine lv_aload_n hx hb dX2_worthOf_7 rfl (lv_at hl 3 rfl) ?_
  refine va_get (D := (dC, dI)) (ci := 3) (v := .int (fI 121)) (C := RX3) (T := TX3) (N := 6) hx hb hts hinX3 hown hK hP 1 rfl rfl 1 (by decide) (hts (.fieldLink RX2 27 "MixedWords$Mix" "width" "I") (by decide +kernel)) (fun _ h9 => h9) rfl dX2_worthOf_8 ?_
  refine xt_i (y := nI 2) (by decide +kernel) ?_
  refine lv_icmp_ge (tgt := 41) hx hb dX2_worthOf_11 (by decide) (fun _ => ?_) (fun c9 => False.elim (by revert c9; decide +kernel))
  refine lv_iconst (v := nI 0) hx hb dX2_worthOf_41 (by decide) ?_
  refine lv_istore (lv' := [(4, .int (nI 0)), (3, .int (nI 2)), (0, .ref (h 106)), (1, .ref (h 101)), (2, .int (nI 3))]) hx hb dX2_worthOf_42 hl (by decide) rfl (fun ls hl => ?_)
  refine lv_iload hx hb dX2_worthOf_44 (lv_at hl 0 rfl) ?_
  refine lv_iload_n hx hb dX2_worthOf_46 rfl (lv_at hl 1 rfl) ?_
  refine lv_icmp_ge (tgt := 107) hx hb dX2_worthOf_47 (by decide) (fun c9 => False.elim (by revert c9; decide +kernel)) (fun _ => ?_)
  refine lv_iconst (v := nI 0) hx hb dX2_worthOf_50 (by decide) ?_
  refine lv_istore (lv' := [(5, .int (nI 0)), (4, .int (nI 0)), (3, .int (nI 2)), (0, .ref (h 106)), (1, .ref (h 101)), (2, .int (nI 3))]) hx hb dX2_worthOf_51 hl (by decide) rfl (fun ls hl => ?_)
  refine lv_iload hx hb dX2_worthOf_53 (lv_at hl 0 rfl) ?_
  refine lv_iload_n hx hb dX2_worthOf_55 rfl (lv_at hl 2 rfl) ?_
  refine lv_icmp_ge (tgt := 101) hx hb dX2_worthOf_56 (by decide) (fun c9 => False.elim (by revert c9; decide +kernel)) (fun _ => ?_)
  refine lv_aload_n hx hb dX2_worthOf_59 rfl (lv_at hl 3 rfl) ?_
  refine va_get (D := (dC, dI)) (ci := 2) (v := .ref (h 180)) (C := RX2) (T := TX2) (N := 5) hx hb hts hinX2 hown hK hP 0 rfl rfl 0 (by decide) (hts (.fieldLink RX2 11 "MixedWords$Least" "square" "[[J") (by decide +kernel)) (fun _ h9 => h9) rfl dX2_worthOf_60 ?_
  refine lv_iload hx hb dX2_worthOf_63 (lv_at hl 1 rfl) ?_
  refine xa_aald (b := h 181) hx hb hK hP 9 4 rfl rfl rfl (by omega) (by decide) (if_pos (by omega)) dX2_worthOf_65 ?_
  refine lv_iload hx hb dX2_worthOf_66 (lv_at hl 0 rfl) ?_
  refine lv_aload_n hx hb dX2_worthOf_68 rfl (lv_at hl 4 rfl) ?_
  refine va_get (D := (dC, dI)) (ci := 3) (v := .ref (h 130)) (C := RX3) (T := TX3) (N := 6) hx hb hts hinX3 hown hK hP 1 rfl rfl 4 (by decide) (hts (.fieldLink RX2 33 "MixedWords$Mix" "cells" "[[I") (by decide +kernel)) (fun _ h9 => h9) rfl dX2_worthOf_69 ?_
  refine lv_aload_n hx hb dX2_worthOf_72 rfl (lv_at hl 4 rfl) ?_
  refine va_get (D := (dC, dI)) (ci := 3) (v := .int (fI 120)) (C := RX3) (T := TX3) (N := 6) hx hb hts hinX3 hown hK hP 1 rfl rfl 0 (by decide) (hts (.fieldLink RX2 37 "MixedWords$Mix" "height" "I") (by decide +kernel)) (fun _ h9 => h9) rfl dX2_worthOf_73 ?_
  refine xt_i (y := nI 2) (by decide +kernel) ?_
  refine lv_aload_n hx hb dX2_worthOf_76 rfl (lv_at hl 3 rfl) ?_
  refine va_get (D := (dC, dI)) (ci := 2) (v := .ref (h 186)) (C := RX2) (T := TX2) (N := 5) hx hb hts hinX2 hown hK hP 0 rfl rfl 2 (by decide) (hts (.fieldLink RX2 20 "MixedWords$Least" "picked" "[I") (by decide +kernel)) (fun _ h9 => h9) rfl dX2_worthOf_77 ?_
  refine lv_iload hx hb dX2_worthOf_80 (lv_at hl 1 rfl) ?_
  refine xa_iald hx hb hK hP 15 0 rfl rfl (by omega) (by decide) dX2_worthOf_82 ?_
  refine xt_i (y := nI 0) (by decide +kernel) ?_
  refine lv_aload_n hx hb dX2_worthOf_83 rfl (lv_at hl 3 rfl) ?_
  refine va_get (D := (dC, dI)) (ci := 2) (v := .ref (h 186)) (C := RX2) (T := TX2) (N := 5) hx hb hts hinX2 hown hK hP 0 rfl rfl 2 (by decide) (hts (.fieldLink RX2 20 "MixedWords$Least" "picked" "[I") (by decide +kernel)) (fun _ h9 => h9) rfl dX2_worthOf_84 ?_
  refine lv_iload hx hb dX2_worthOf_87 (lv_at hl 0 rfl) ?_
  refine xa_iald hx hb hK hP 15 0 rfl rfl (by omega) (by decide) dX2_worthOf_89 ?_
  refine xt_i (y := nI 0) (by decide +kernel) ?_
  have hP : va_P (dC, dI) vwCl (wD_112 h cs fI fL qA_120 fQ fG fJ) H := hP
  have hD : va_D A0 (wD_112 h cs fI fL qA_120 fQ fG fJ) := hD
  refine xj_i (wc := (wD_11 h cs fI fL qA_120 fQ fG fJ)) (wr := [(h 106, .inr (2, [.ref (h 180), .ref (h 185), .ref (h 186), .ref (h 187), .long (fL 188)])), (h 101, .inr (3, [.int (fI 120), .int (fI 121), .int (fI 122), .int (fI 123), .ref (h 130), .ref (h 136)])), (h 136, .inl (cs 0, 5, .inl (qA_120 136))), (h 180, .inl (cs 4, 4, .inr (.inr (.inr (.inr (fun i => if i < 4 then some (h (i + 181)) else none)))))), (h 181, .inl (cs 1, 4, .inr (.inl ((fJ 0) 0)))), (h 182, .inl (cs 1, 4, .inr (.inl ((fJ 0) 1)))), (h 183, .inl (cs 1, 4, .inr (.inl ((fJ 0) 2)))), (h 184, .inl (cs 1, 4, .inr (.inl ((fJ 0) 3)))), (h 185, .inl (cs 1, 4, .inr (.inl (fQ 185)))), (h 186, .inl (cs 0, 4, .inl (qA_120 186))), (h 187, .inl (cs 1, 4, .inr (.inl (fQ 187))))]) hP hD hS hA [2, 3, 4, 5, 6, 7] [0, 1, 8, 9, 10, 11, 12, 13, 14, 15, 16] rfl rfl (by decide) (by decide) (va_runSN (As := [.ref (h 130), .int (nI 2), .int (nI 0), .int (nI 0)]) (rest := [.int (nI 0), .ref (h 181)]) ⟨hx, hb, hml, hown, hts⟩ (a_X9_product_121 l dC dI h cs H.size fI fL qA_120 fQ fG fJ ) ⟨va_cnB (host := "MixedWords") 4 hts gX2_worthOf_X9_product_n40 rfl rfl rfl hN.2.2.2.2.2.1 (hts (.initialized RX9) (by decide +kernel)) (by decide +kernel) ⟨Nat.le_of_ble_eq_true rfl, Nat.le_of_ble_eq_true rfl⟩, hts (.static yX9_product) (by decide +kernel), trivial⟩ (xpS (wc := (wD_11 h cs fI fL qA_120 fQ fG fJ)) hP hD hK hN [2, 3, 4, 5, 6, 7] rfl (by decide) _) rfl rfl hl.1 rfl (lv_room (Nat.le_of_ble_eq_true rfl)) dX2_worthOf_90 ⟨Nat.zero_le _, Nat.zero_le _⟩) (fun r_2 u_1 H locs hw hP hD hS => ?_)
  obtain ⟨hf_3, rfl⟩ := hw
  have hP : va_P (dC, dI) vwCl (wD_112 h cs fI fL qA_120 fQ fG fJ) H := xP_sub hP [0, 1, 11, 12, 13, 14, 15, 16, 2, 3, 4, 5, 6, 7, 8, 9, 10] rfl
  have hD : va_D A0 (wD_112 h cs fI fL qA_120 fQ fG fJ) := hD.sub [0, 1, 11, 12, 13, 14, 15, 16, 2, 3, 4, 5, 6, 7, 8, 9, 10] (by decide) rfl
  obtain rfl := hf_3
  refine lv_i2l (v := (0 : Int64)) hx hb dX2_worthOf_93 (by decide +kernel) ?_
  refine xa_lastS hx hb hK hP hD hS 10 1 rfl rfl (by omega) (by decide) (by decide +kernel) dX2_worthOf_94 (fun H locs hP hD hS => ?_)
  refine lv_iinc (v := nI 1) (lv' := [(5, .int (nI 1)), (4, .int (nI 0)), (3, .int (nI 2)), (0, .ref (h 106)), (1, .ref (h 101)), (2, .int (nI 3))]) hx hb dX2_worthOf_95 hl (k := 0) rfl (by decide +kernel) (by decide) rfl (fun ls hl => ?_)
  refine lv_goto (tgt := 53) hx hb dX2_worthOf_98 (by decide) ?_
  refine lv_iload hx hb dX2_worthOf_53 (lv_at hl 0 rfl) ?_
  refine lv_iload_n hx hb dX2_worthOf_55 rfl (lv_at hl 2 rfl) ?_
  refine lv_icmp_ge (tgt := 101) hx hb dX2_worthOf_56 (by decide) (fun c9 => False.elim (by revert c9; decide +kernel)) (fun _ => ?_)
  refine lv_aload_n hx hb dX2_worthOf_59 rfl (lv_at hl 3 rfl) ?_
  refine va_get (D := (dC, dI)) (ci := 2) (v := .ref (h 180)) (C := RX2) (T := TX2) (N := 5) hx hb hts hinX2 hown hK hP 0 rfl rfl 0 (by decide) (hts (.fieldLink RX2 11 "MixedWords$Least" "square" "[[J") (by decide +kernel)) (fun _ h9 => h9) rfl dX2_worthOf_60 ?_
  refine lv_iload hx hb dX2_worthOf_63 (lv_at hl 1 rfl) ?_
  refine xa_aald (b := h 181) hx hb hK hP 9 4 rfl rfl rfl (by omega) (by decide) (if_pos (by omega)) dX2_worthOf_65 ?_
  refine lv_iload hx hb dX2_worthOf_66 (lv_at hl 0 rfl) ?_
  refine lv_aload_n hx hb dX2_worthOf_68 rfl (lv_at hl 4 rfl) ?_
  refine va_get (D := (dC, dI)) (ci := 3) (v := .ref (h 130)) (C := RX3) (T := TX3) (N := 6) hx hb hts hinX3 hown hK hP 1 rfl rfl 4 (by decide) (hts (.fieldLink RX2 33 "MixedWords$Mix" "cells" "[[I") (by decide +kernel)) (fun _ h9 => h9) rfl dX2_worthOf_69 ?_
  refine lv_aload_n hx hb dX2_worthOf_72 rfl (lv_at hl 4 rfl) ?_
  refine va_get (D := (dC, dI)) (ci := 3) (v := .int (fI 120)) (C := RX3) (T := TX3) (N := 6) hx hb hts hinX3 hown hK hP 1 rfl rfl 0 (by decide) (hts (.fieldLink RX2 37 "MixedWords$Mix" "height" "I") (by decide +kernel)) (fun _ h9 => h9) rfl dX2_worthOf_73 ?_
  refine xt_i (y := nI 2) (by decide +kernel) ?_
  refine lv_aload_n hx hb dX2_worthOf_76 rfl (lv_at hl 3 rfl) ?_
  refine va_get (D := (dC, dI)) (ci := 2) (v := .ref (h 186)) (C := RX2) (T := TX2) (N := 5) hx hb hts hinX2 hown hK hP 0 rfl rfl 2 (by decide) (hts (.fieldLink RX2 20 "MixedWords$Least" "picked" "[I") (by decide +kernel)) (fun _ h9 => h9) rfl dX2_worthOf_77 ?_
  refine lv_iload hx hb dX2_worthOf_80 (lv_at hl 1 rfl) ?_
  refine xa_iald hx hb hK hP 15 0 rfl rfl (by omega) (by decide) dX2_worthOf_82 ?_
  refine xt_i (y := nI 0) (by decide +kernel) ?_
  refine lv_aload_n hx hb dX2_worthOf_83 rfl (lv_at hl 3 rfl) ?_
  refine va_get (D := (dC, dI)) (ci := 2) (v := .ref (h 186)) (C := RX2) (T := TX2) (N := 5) hx hb hts hinX2 hown hK hP 0 rfl rfl 2 (by decide) (hts (.fieldLink RX2 20 "MixedWords$Least" "picked" "[I") (by decide +kernel)) (fun _ h9 => h9) rfl dX2_worthOf_84 ?_
  refine lv_iload hx hb dX2_worthOf_87 (lv_at hl 0 rfl) ?_
  refine xa_iald hx hb hK hP 15 0 rfl rfl (by omega) (by decide) dX2_worthOf_89 ?_
  refine xt_i (y := nI 1) (by decide +kernel) ?_
  refine xj_i (wc := (wD_11 h cs fI fL qA_120 fQ fG fJ)) (wr := [(h 106, .inr (2, [.ref (h 180), .ref (h 185), .ref (h 186), .ref (h 187), .long (fL 188)])), (h 101, .inr (3, [.int (fI 120), .int (fI 121), .int (fI 122), .int (fI 123), .ref (h 130), .ref (h 136)])), (h 136, .inl (cs 0, 5, .inl (qA_120 136))), (h 180, .inl (cs 4, 4, .inr (.inr (.inr (.inr (fun i => if i < 4 then some (h (i + 181)) else none)))))), (h 181, .inl (cs 1, 4, .inr (.inl ((fJ 0) 0)))), (h 182, .inl (cs 1, 4, .inr (.inl ((fJ 0) 1)))), (h 183, .inl (cs 1, 4, .inr (.inl ((fJ 0) 2)))), (h 184, .inl (cs 1, 4, .inr (.inl ((fJ 0) 3)))), (h 185, .inl (cs 1, 4, .inr (.inl (fQ 185)))), (h 186, .inl (cs 0, 4, .inl (qA_120 186))), (h 187, .inl (cs 1, 4, .inr (.inl (fQ 187))))]) hP hD hS hA [2, 3, 4, 5, 6, 7] [0, 1, 8, 9, 10, 11, 12, 13, 14, 15, 16] rfl rfl (by decide) (by decide) (va_runSN (As := [.ref (h 130), .int (nI 2), .int (nI 0), .int (nI 1)]) (rest := [.int (nI 1), .ref (h 181)]) ⟨hx, hb, hml, hown, hts⟩ (a_X9_product_122 l dC dI h cs H.size fI fL qA_120 fQ fG fJ ) ⟨va_cnB (host := "MixedWords") 4 hts gX2_worthOf_X9_product_n40 rfl rfl rfl hN.2.2.2.2.2.1 (hts (.initialized RX9) (by decide +kernel)) (by decide +kernel) ⟨Nat.le_of_ble_eq_true rfl, Nat.le_of_ble_eq_true rfl⟩, hts (.static yX9_product) (by decide +kernel), trivial⟩ (xpS (wc := (wD_11 h cs fI fL qA_120 fQ fG fJ)) hP hD hK hN [2, 3, 4, 5, 6, 7] rfl (by decide) _) rfl rfl hl.1 rfl (lv_room (Nat.le_of_ble_eq_true rfl)) dX2_worthOf_90 ⟨Nat.zero_le _, Nat.zero_le _⟩) (fun r_5 u_4 H locs hw hP hD hS => ?_)
  obtain ⟨hf_6, rfl⟩ := hw
  have hP : va_P (dC, dI) vwCl (wD_112 h cs fI fL qA_120 fQ fG fJ) H := xP_sub hP [0, 1, 11, 12, 13, 14, 15, 16, 2, 3, 4, 5, 6, 7, 8, 9, 10] rfl
  have hD : va_D A0 (wD_112 h cs fI fL qA_120 fQ fG fJ) := hD.sub [0, 1, 11, 12, 13, 14, 15, 16, 2, 3, 4, 5, 6, 7, 8, 9, 10] (by decide) rfl
  obtain rfl := hf_6
  refine lv_i2l (v := (0 : Int64)) hx hb dX2_worthOf_93 (by decide +kernel) ?_
  refine xa_lastS hx hb hK hP hD hS 10 1 rfl rfl (by omega) (by decide) (by decide +kernel) dX2_worthOf_94 (fun H locs hP hD hS => ?_)
  refine lv_iinc (v := nI 2) (lv' := [(5, .int (nI 2)), (4, .int (nI 0)), (3, .int (nI 2)), (0, .ref (h 106)), (1, .ref (h 101)), (2, .int (nI 3))]) hx hb dX2_worthOf_95 hl (k := 0) rfl (by decide +kernel) (by decide) rfl (fun ls hl => ?_)
  refine lv_goto (tgt := 53) hx hb dX2_worthOf_98 (by decide) ?_
  refine lv_iload hx hb dX2_worthOf_53 (lv_at hl 0 rfl) ?_
  refine lv_iload_n hx hb dX2_worthOf_55 rfl (lv_at hl 2 rfl) ?_
  refine lv_icmp_ge (tgt := 101) hx hb dX2_worthOf_56 (by decide) (fun _ => ?_) (fun c9 => False.elim (by revert c9; decide +kernel))
  refine lv_iinc (v := nI 1) (lv' := [(4, .int (nI 1)), (5, .int (nI 2)), (3, .int (nI 2)), (0, .ref (h 106)), (1, .ref (h 101)), (2, .int (nI 3))]) hx hb dX2_worthOf_101 hl (k := 1) rfl (by decide +kernel) (by decide) rfl (fun ls hl => ?_)
  refine lv_goto (tgt := 44) hx hb dX2_worthOf_104 (by decide) ?_
  refine lv_iload hx hb dX2_worthOf_44 (lv_at hl 0 rfl) ?_
  refine lv_iload_n hx hb dX2_worthOf_46 rfl (lv_at hl 2 rfl) ?_
  refine lv_icmp_ge (tgt := 107) hx hb dX2_worthOf_47 (by decide) (fun c9 => False.elim (by revert c9; decide +kernel)) (fun _ => ?_)
  refine lv_iconst (v := nI 0) hx hb dX2_worthOf_50 (by decide) ?_
  refine lv_istore (lv' := [(5, .int (nI 0)), (4, .int (nI 1)), (3, .int (nI 2)), (0, .ref (h 106)), (1, .ref (h 101)), (2, .int (nI 3))]) hx hb dX2_worthOf_51 hl (by decide) rfl (fun ls hl => ?_)
  refine lv_iload hx hb dX2_worthOf_53 (lv_at hl 0 rfl) ?_
  refine lv_iload_n hx hb dX2_worthOf_55 rfl (lv_at hl 2 rfl) ?_
  refine lv_icmp_ge (tgt := 101) hx hb dX2_worthOf_56 (by decide) (fun c9 => False.elim (by revert c9; decide +kernel)) (fun _ => ?_)
  refine lv_aload_n hx hb dX2_worthOf_59 rfl (lv_at hl 3 rfl) ?_
  refine va_get (D := (dC, dI)) (ci := 2) (v := .ref (h 180)) (C := RX2) (T := TX2) (N := 5) hx hb hts hinX2 hown hK hP 0 rfl rfl 0 (by decide) (hts (.fieldLink RX2 11 "MixedWords$Least" "square" "[[J") (by decide +kernel)) (fun _ h9 => h9) rfl dX2_worthOf_60 ?_
  refine lv_iload hx hb dX2_worthOf_63 (lv_at hl 1 rfl) ?_
  refine xa_aald (b := h 182) hx hb hK hP 9 4 rfl rfl rfl (by omega) (by decide) (if_pos (by omega)) dX2_worthOf_65 ?_
  refine lv_iload hx hb dX2_worthOf_66 (lv_at hl 0 rfl) ?_
  refine lv_aload_n hx hb dX2_worthOf_68 rfl (lv_at hl 4 rfl) ?_
  refine va_get (D := (dC, dI)) (ci := 3) (v := .ref (h 130)) (C := RX3) (T := TX3) (N := 6) hx hb hts hinX3 hown hK hP 1 rfl rfl 4 (by decide) (hts (.fieldLink RX2 33 "MixedWords$Mix" "cells" "[[I") (by decide +kernel)) (fun _ h9 => h9) rfl dX2_worthOf_69 ?_
  refine lv_aload_n hx hb dX2_worthOf_72 rfl (lv_at hl 4 rfl) ?_
  refine va_get (D := (dC, dI)) (ci := 3) (v := .int (fI 120)) (C := RX3) (T := TX3) (N := 6) hx hb hts hinX3 hown hK hP 1 rfl rfl 0 (by decide) (hts (.fieldLink RX2 37 "MixedWords$Mix" "height" "I") (by decide +kernel)) (fun _ h9 => h9) rfl dX2_worthOf_73 ?_
  refine xt_i (y := nI 2) (by decide +kernel) ?_
  refine lv_aload_n hx hb dX2_worthOf_76 rfl (lv_at hl 3 rfl) ?_
  refine va_get (D := (dC, dI)) (ci := 2) (v := .ref (h 186)) (C := RX2) (T := TX2) (N := 5) hx hb hts hinX2 hown hK hP 0 rfl rfl 2 (by decide) (hts (.fieldLink RX2 20 "MixedWords$Least" "picked" "[I") (by decide +kernel)) (fun _ h9 => h9) rfl dX2_worthOf_77 ?_
  refine lv_iload hx hb dX2_worthOf_80 (lv_at hl 1 rfl) ?_
  refine xa_iald hx hb hK hP 15 0 rfl rfl (by omega) (by decide) dX2_worthOf_82 ?_
  refine xt_i (y := nI 1) (by decide +kernel) ?_
  refine lv_aload_n hx hb dX2_worthOf_83 rfl (lv_at hl 3 rfl) ?_
  refine va_get (D := (dC, dI)) (ci := 2) (v := .ref (h 186)) (C := RX2) (T := TX2) (N := 5) hx hb hts hinX2 hown hK hP 0 rfl rfl 2 (by decide) (hts (.fieldLink RX2 20 "MixedWords$Least" "picked" "[I") (by decide +kernel)) (fun _ h9 => h9) rfl dX2_worthOf_84 ?_
  refine lv_iload hx hb dX2_worthOf_87 (lv_at hl 0 rfl) ?_
  refine xa_iald hx hb hK hP 15 0 rfl rfl (by omega) (by decide) dX2_worthOf_89 ?_
  refine xt_i (y := nI 0) (by decide +kernel) ?_
  refine xj_i (wc := (wD_11 h cs fI fL qA_120 fQ fG fJ)) (wr := [(h 106, .inr (2, [.ref (h 180), .ref (h 185), .ref (h 186), .ref (h 187), .long (fL 188)])), (h 101, .inr (3, [.int (fI 120), .int (fI 121), .int (fI 122), .int (fI 123), .ref (h 130), .ref (h 136)])), (h 136, .inl (cs 0, 5, .inl (qA_120 136))), (h 180, .inl (cs 4, 4, .inr (.inr (.inr (.inr (fun i => if i < 4 then some (h (i + 181)) else none)))))), (h 181, .inl (cs 1, 4, .inr (.inl ((fJ 0) 0)))), (h 182, .inl (cs 1, 4, .inr (.inl ((fJ 0) 1)))), (h 183, .inl (cs 1, 4, .inr (.inl ((fJ 0) 2)))), (h 184, .inl (cs 1, 4, .inr (.inl ((fJ 0) 3)))), (h 185, .inl (cs 1, 4, .inr (.inl (fQ 185)))), (h 186, .inl (cs 0, 4, .inl (qA_120 186))), (h 187, .inl (cs 1, 4, .inr (.inl (fQ 187))))]) hP hD hS hA [2, 3, 4, 5, 6, 7] [0, 1, 8, 9, 10, 11, 12, 13, 14, 15, 16] rfl rfl (by decide) (by decide) (va_runSN (As := [.ref (h 130), .int (nI 2), .int (nI 1), .int (nI 0)]) (rest := [.int (nI 0), .ref (h 182)]) ⟨hx, hb, hml, hown, hts⟩ (a_X9_product_123 l dC dI h cs H.size fI fL qA_120 fQ fG fJ ) ⟨va_cnB (host := "MixedWords") 4 hts gX2_worthOf_X9_product_n40 rfl rfl rfl hN.2.2.2.2.2.1 (hts (.initialized RX9) (by decide +kernel)) (by decide +kernel) ⟨Nat.le_of_ble_eq_true rfl, Nat.le_of_ble_eq_true rfl⟩, hts (.static yX9_product) (by decide +kernel), trivial⟩ (xpS (wc := (wD_11 h cs fI fL qA_120 fQ fG fJ)) hP hD hK hN [2, 3, 4, 5, 6, 7] rfl (by decide) _) rfl rfl hl.1 rfl (lv_room (Nat.le_of_ble_eq_true rfl)) dX2_worthOf_90 ⟨Nat.zero_le _, Nat.zero_le _⟩) (fun r_8 u_7 H locs hw hP hD hS => ?_)
  obtain ⟨hf_9, rfl⟩ := hw
  have hP : va_P (dC, dI) vwCl (wD_112 h cs fI fL qA_120 fQ fG fJ) H := xP_sub hP [0, 1, 11, 12, 13, 14, 15, 16, 2, 3, 4, 5, 6, 7, 8, 9, 10] rfl
  have hD : va_D A0 (wD_112 h cs fI fL qA_120 fQ fG fJ) := hD.sub [0, 1, 11, 12, 13, 14, 15, 16, 2, 3, 4, 5, 6, 7, 8, 9, 10] (by decide) rfl
  obtain rfl := hf_9
  refine lv_i2l (v := (0 : Int64)) hx hb dX2_worthOf_93 (by decide +kernel) ?_
  refine xa_lastS hx hb hK hP hD hS 11 1 rfl rfl (by omega) (by decide) (by decide +kernel) dX2_worthOf_94 (fun H locs hP hD hS => ?_)
  refine lv_iinc (v := nI 1) (lv' := [(5, .int (nI 1)), (4, .int (nI 1)), (3, .int (nI 2)), (0, .ref (h 106)), (1, .ref (h 101)), (2, .int (nI 3))]) hx hb dX2_worthOf_95 hl (k := 0) rfl (by decide +kernel) (by decide) rfl (fun ls hl => ?_)
  refine lv_goto (tgt := 53) hx hb dX2_worthOf_98 (by decide) ?_
  refine lv_iload hx hb dX2_worthOf_53 (lv_at hl 0 rfl) ?_
  refine lv_iload_n hx hb dX2_worthOf_55 rfl (lv_at hl 2 rfl) ?_
  refine lv_icmp_ge (tgt := 101) hx hb dX2_worthOf_56 (by decide) (fun c9 => False.elim (by revert c9; decide +kernel)) (fun _ => ?_)
  refine lv_aload_n hx hb dX2_worthOf_59 rfl (lv_at hl 3 rfl) ?_
  refine va_get (D := (dC, dI)) (ci := 2) (v := .ref (h 180)) (C := RX2) (T := TX2) (N := 5) hx hb hts hinX2 hown hK hP 0 rfl rfl 0 (by decide) (hts (.fieldLink RX2 11 "MixedWords$Least" "square" "[[J") (by decide +kernel)) (fun _ h9 => h9) rfl dX2_worthOf_60 ?_
  refine lv_iload hx hb dX2_worthOf_63 (lv_at hl 1 rfl) ?_
  refine xa_aald (b := h 182) hx hb hK hP 9 4 rfl rfl rfl (by omega) (by decide) (if_pos (by omega)) dX2_worthOf_65 ?_
  refine lv_iload hx hb dX2_worthOf_66 (lv_at hl 0 rfl) ?_
  refine lv_aload_n hx hb dX2_worthOf_68 rfl (lv_at hl 4 rfl) ?_
  refine va_get (D := (dC, dI)) (ci := 3) (v := .ref (h 130)) (C := RX3) (T := TX3) (N := 6) hx hb hts hinX3 hown hK hP 1 rfl rfl 4 (by decide) (hts (.fieldLink RX2 33 "MixedWords$Mix" "cells" "[[I") (by decide +kernel)) (fun _ h9 => h9) rfl dX2_worthOf_69 ?_
  refine lv_aload_n hx hb dX2_worthOf_72 rfl (lv_at hl 4 rfl) ?_
  refine va_get (D := (dC, dI)) (ci := 3) (v := .int (fI 120)) (C := RX3) (T := TX3) (N := 6) hx hb hts hinX3 hown hK hP 1 rfl rfl 0 (by decide) (hts (.fieldLink RX2 37 "MixedWords$Mix" "height" "I") (by decide +kernel)) (fun _ h9 => h9) rfl dX2_worthOf_73 ?_
  refine xt_i (y := nI 2) (by decide +kernel) ?_
  refine lv_aload_n hx hb dX2_worthOf_76 rfl (lv_at hl 3 rfl) ?_
  refine va_get (D := (dC, dI)) (ci := 2) (v := .ref (h 186)) (C := RX2) (T := TX2) (N := 5) hx hb hts hinX2 hown hK hP 0 rfl rfl 2 (by decide) (hts (.fieldLink RX2 20 "MixedWords$Least" "picked" "[I") (by decide +kernel)) (fun _ h9 => h9) rfl dX2_worthOf_77 ?_
  refine lv_iload hx hb dX2_worthOf_80 (lv_at hl 1 rfl) ?_
  refine xa_iald hx hb hK hP 15 0 rfl rfl (by omega) (by decide) dX2_worthOf_82 ?_
  refine xt_i (y := nI 1) (by decide +kernel) ?_
  refine lv_aload_n hx hb dX2_worthOf_83 rfl (lv_at hl 3 rfl) ?_
  refine va_get (D := (dC, dI)) (ci := 2) (v := .ref (h 186)) (C := RX2) (T := TX2) (N := 5) hx hb hts hinX2 hown hK hP 0 rfl rfl 2 (by decide) (hts (.fieldLink RX2 20 "MixedWords$Least" "picked" "[I") (by decide +kernel)) (fun _ h9 => h9) rfl dX2_worthOf_84 ?_
  refine lv_iload hx hb dX2_worthOf_87 (lv_at hl 0 rfl) ?_
  refine xa_iald hx hb hK hP 15 0 rfl rfl (by omega) (by decide) dX2_worthOf_89 ?_
  refine xt_i (y := nI 1) (by decide +kernel) ?_
  refine xj_i (wc := (wD_11 h cs fI fL qA_120 fQ fG fJ)) (wr := [(h 106, .inr (2, [.ref (h 180), .ref (h 185), .ref (h 186), .ref (h 187), .long (fL 188)])), (h 101, .inr (3, [.int (fI 120), .int (fI 121), .int (fI 122), .int (fI 123), .ref (h 130), .ref (h 136)])), (h 136, .inl (cs 0, 5, .inl (qA_120 136))), (h 180, .inl (cs 4, 4, .inr (.inr (.inr (.inr (fun i => if i < 4 then some (h (i + 181)) else none)))))), (h 181, .inl (cs 1, 4, .inr (.inl ((fJ 0) 0)))), (h 182, .inl (cs 1, 4, .inr (.inl ((fJ 0) 1)))), (h 183, .inl (cs 1, 4, .inr (.inl ((fJ 0) 2)))), (h 184, .inl (cs 1, 4, .inr (.inl ((fJ 0) 3)))), (h 185, .inl (cs 1, 4, .inr (.inl (fQ 185)))), (h 186, .inl (cs 0, 4, .inl (qA_120 186))), (h 187, .inl (cs 1, 4, .inr (.inl (fQ 187))))]) hP hD hS hA [2, 3, 4, 5, 6, 7] [0, 1, 8, 9, 10, 11, 12, 13, 14, 15, 16] rfl rfl (by decide) (by decide) (va_runSN (As := [.ref (h 130), .int (nI 2), .int (nI 1), .int (nI 1)]) (rest := [.int (nI 1), .ref (h 182)]) ⟨hx, hb, hml, hown, hts⟩ (a_X9_product_124 l dC dI h cs H.size fI fL qA_120 fQ fG fJ ) ⟨va_cnB (host := "MixedWords") 4 hts gX2_worthOf_X9_product_n40 rfl rfl rfl hN.2.2.2.2.2.1 (hts (.initialized RX9) (by decide +kernel)) (by decide +kernel) ⟨Nat.le_of_ble_eq_true rfl, Nat.le_of_ble_eq_true rfl⟩, hts (.static yX9_product) (by decide +kernel), trivial⟩ (xpS (wc := (wD_11 h cs fI fL qA_120 fQ fG fJ)) hP hD hK hN [2, 3, 4, 5, 6, 7] rfl (by decide) _) rfl rfl hl.1 rfl (lv_room (Nat.le_of_ble_eq_true rfl)) dX2_worthOf_90 ⟨Nat.zero_le _, Nat.zero_le _⟩) (fun r_11 u_10 H locs hw hP hD hS => ?_)
  obtain ⟨hf_12, rfl⟩ := hw
  have hP : va_P (dC, dI) vwCl (wD_112 h cs fI fL qA_120 fQ fG fJ) H := xP_sub hP [0, 1, 11, 12, 13, 14, 15, 16, 2, 3, 4, 5, 6, 7, 8, 9, 10] rfl
  have hD : va_D A0 (wD_112 h cs fI fL qA_120 fQ fG fJ) := hD.sub [0, 1, 11, 12, 13, 14, 15, 16, 2, 3, 4, 5, 6, 7, 8, 9, 10] (by decide) rfl
  obtain rfl := hf_12
  refine lv_i2l (v := (0 : Int64)) hx hb dX2_worthOf_93 (by decide +kernel) ?_
  refine xa_lastS hx hb hK hP hD hS 11 1 rfl rfl (by omega) (by decide) (by decide +kernel) dX2_worthOf_94 (fun H locs hP hD hS => ?_)
  refine lv_iinc (v := nI 2) (lv' := [(5, .int (nI 2)), (4, .int (nI 1)), (3, .int (nI 2)), (0, .ref (h 106)), (1, .ref (h 101)), (2, .int (nI 3))]) hx hb dX2_worthOf_95 hl (k := 0) rfl (by decide +kernel) (by decide) rfl (fun ls hl => ?_)
  refine lv_goto (tgt := 53) hx hb dX2_worthOf_98 (by decide) ?_
  refine lv_iload hx hb dX2_worthOf_53 (lv_at hl 0 rfl) ?_
  refine lv_iload_n hx hb dX2_worthOf_55 rfl (lv_at hl 2 rfl) ?_
  refine lv_icmp_ge (tgt := 101) hx hb dX2_worthOf_56 (by decide) (fun _ => ?_) (fun c9 => False.elim (by revert c9; decide +kernel))
  refine lv_iinc (v := nI 2) (lv' := [(4, .int (nI 2)), (5, .int (nI 2)), (3, .int (nI 2)), (0, .ref (h 106)), (1, .ref (h 101)), (2, .int (nI 3))]) hx hb dX2_worthOf_101 hl (k := 1) rfl (by decide +kernel) (by decide) rfl (fun ls hl => ?_)
  refine lv_goto (tgt := 44) hx hb dX2_worthOf_104 (by decide) ?_
  refine lv_iload hx hb dX2_worthOf_44 (lv_at hl 0 rfl) ?_
  refine lv_iload_n hx hb dX2_worthOf_46 rfl (lv_at hl 2 rfl) ?_
  refine lv_icmp_ge (tgt := 107) hx hb dX2_worthOf_47 (by decide) (fun _ => ?_) (fun c9 => False.elim (by revert c9; decide +kernel))
  refine lv_aload_n hx hb dX2_worthOf_107 rfl (lv_at hl 3 rfl) ?_
  refine va_get (D := (dC, dI)) (ci := 2) (v := .ref (h 180)) (C := RX2) (T := TX2) (N := 5) hx hb hts hinX2 hown hK hP 0 rfl rfl 0 (by decide) (hts (.fieldLink RX2 11 "MixedWords$Least" "square" "[[J") (by decide +kernel)) (fun _ h9 => h9) rfl dX2_worthOf_108 ?_
  refine lv_iload_n hx hb dX2_worthOf_111 rfl (lv_at hl 2 rfl) ?_
  refine lv_iconst (v := nI 0) hx hb dX2_worthOf_112 (by decide) ?_
  refine lv_iconst (v := nI 1) hx hb dX2_worthOf_113 (by decide) ?_
  refine lv_iload_n hx hb dX2_worthOf_114 rfl (lv_at hl 2 rfl) ?_
  refine lv_ishl hx hb dX2_worthOf_115 ?_
  refine xt_i (y := nI 4) (by decide +kernel) ?_
  refine lv_iconst (v := nI 1) hx hb dX2_worthOf_116 (by decide) ?_
  refine lv_isub hx hb dX2_worthOf_117 ?_
  refine xt_i (y := nI 3) (by decide +kernel) ?_
  refine xj_l (wc := (wD_16 h cs fI fL qA_120 fQ fG fJ)) (wr := [(h 106, .inr (2, [.ref (h 180), .ref (h 185), .ref (h 186), .ref (h 187), .long (fL 188)])), (h 101, .inr (3, [.int (fI 120), .int (fI 121), .int (fI 122), .int (fI 123), .ref (h 130), .ref (h 136)])), (h 130, .inl (cs 3, 5, .inr (.inr (.inr (.inr (fun i => if i < 5 then some (h (i + 131)) else none)))))), (h 131, .inl (cs 0, 4, .inl ((fG 0) 0))), (h 132, .inl (cs 0, 4, .inl ((fG 0) 1))), (h 133, .inl (cs 0, 4, .inl ((fG 0) 2))), (h 134, .inl (cs 0, 4, .inl ((fG 0) 3))), (h 135, .inl (cs 0, 4, .inl ((fG 0) 4))), (h 136, .inl (cs 0, 5, .inl (qA_120 136))), (h 185, .inl (cs 1, 4, .inr (.inl (fQ 185)))), (h 186, .inl (cs 0, 4, .inl (qA_120 186))), (h 187, .inl (cs 1, 4, .inr (.inl (fQ 187))))]) hP hD hS hA [9, 10, 11, 12, 13] [0, 1, 2, 3, 4, 5, 6, 7, 8, 14, 15, 16] rfl rfl (by decide) (by decide) (va_runS (As := [.ref (h 180), .int (nI 2), .int (nI 0), .int (nI 3)]) (rest := []) ⟨hx, hb, hml, hown, hts⟩ (a_X2_determinant_125 l dC dI h cs H.size fI fL qA_120 fQ fG fJ ) (va_cwS 4 hts gX2_worthOf_X2_determinant rfl rfl rfl (by decide +kernel) ⟨Nat.le_of_ble_eq_true rfl, Nat.le_of_ble_eq_true rfl⟩) (xpS (wc := (wD_16 h cs fI fL qA_120 fQ fG fJ)) hP hD hK hN [9, 10, 11, 12, 13] rfl (by decide) _) rfl rfl hl.1 rfl (lv_room (Nat.le_of_ble_eq_true rfl)) dX2_worthOf_118 ⟨Nat.zero_le _, Nat.zero_le _⟩) (fun r_14 u_13 H locs hw hP hD hS => ?_)
  obtain ⟨hf_15, rfl⟩ := hw
  have hP : va_P (dC, dI) vwCl (wD_112 h cs fI fL qA_120 fQ fG fJ) H := xP_sub hP [0, 1, 2, 3, 4, 5, 6, 7, 8, 12, 13, 14, 15, 16, 9, 10, 11] rfl
  have hD : va_D A0 (wD_112 h cs fI fL qA_120 fQ fG fJ) := hD.sub [0, 1, 2, 3, 4, 5, 6, 7, 8, 12, 13, 14, 15, 16, 9, 10, 11] (by decide) rfl
  obtain rfl := hf_15
  exact xr_l (v := (0 : Int64)) hx hb hr hlocks hK hS dX2_worthOf_121 (fI, fL, qA_120, fQ, fG, fJ) ⟨rfl, rfl⟩ hP hD
set_option maxRecDepth 20000 in
theorem ggX9_worth_X2_worthOf : GoodIn wsX9_worth wsX2_worthOf := goodIn_r _ [9, 10, 11, 12, 13, 14, 15, 16, 17, 18, 19, 8, 20, 30, 31, 32, 33, 34, 35, 36, 37, 38, 39, 40] (by decide +kernel) (by decide +kernel)
set_option maxRecDepth 20000 in
theorem gX9_worth_X2_worthOf : GoodIn wsX9_worth (wsV RX9 180 RX2 yX2_worthOf wsX2_worthOf) := goodIn_app (goodIn_of _ (by decide +kernel)) ggX9_worth_X2_worthOf
theorem dX9_worth_0 : decode cX9_worth 0 = .ok (.iload_n 1, 1) := by decide +kernel
theorem dX9_worth_1 : decode cX9_worth 1 = .ok (.iconst 1, 1) := by decide +kernel
theorem dX9_worth_2 : decode cX9_worth 2 = .ok (.if_icmp .lt 16, 3) := by decide +kernel
theorem dX9_worth_5 : decode cX9_worth 5 = .ok (.iload_n 1, 1) := by decide +kernel
theorem dX9_worth_6 : decode cX9_worth 6 = .ok (.iconst 1, 1) := by decide +kernel
theorem dX9_worth_7 : decode cX9_worth 7 = .ok (.aload_n 0, 1) := by decide +kernel
theorem dX9_worth_8 : decode cX9_worth 8 = .ok (.getfield 12, 3) := by decide +kernel
theorem dX9_worth_11 : decode cX9_worth 11 = .ok (.getfield 106, 3) := by decide +kernel
theorem dX9_worth_14 : decode cX9_worth 14 = .ok (.ishl, 1) := by decide +kernel
theorem dX9_worth_15 : decode cX9_worth 15 = .ok (.if_icmp .lt 7, 3) := by decide +kernel
theorem dX9_worth_18 : decode cX9_worth 18 = .ok (.ldc2_w 178, 3) := by decide +kernel
theorem dX9_worth_21 : decode cX9_worth 21 = .ok (.lreturn, 1) := by decide +kernel
theorem dX9_worth_22 : decode cX9_worth 22 = .ok (.aload_n 0, 1) := by decide +kernel
theorem dX9_worth_23 : decode cX9_worth 23 = .ok (.getfield 51, 3) := by decide +kernel
theorem dX9_worth_26 : decode cX9_worth 26 = .ok (.aload_n 0, 1) := by decide +kernel
theorem dX9_worth_27 : decode cX9_worth 27 = .ok (.getfield 12, 3) := by decide +kernel
theorem dX9_worth_30 : decode cX9_worth 30 = .ok (.iload_n 1, 1) := by decide +kernel
theorem dX9_worth_31 : decode cX9_worth 31 = .ok (.invokevirtual 180, 3) := by decide +kernel
theorem dX9_worth_34 : decode cX9_worth 34 = .ok (.lreturn, 1) := by decide +kernel
set_option maxHeartbeats 4000000 in
set_option maxRecDepth 100000 in
theorem f_X9_worth (l : Launch) (dC : Nat → ClassId) (dI : Nat → Nat → Nat) (h : Nat → Nat) (cs : Nat → ClassId) (sz : Nat) (I : Nat → Int32) (L : Nat → Int64) (A : Nat → Nat → Int32) (Q : Nat → Nat → Int64) (G : Nat → Nat → Nat → Int32) (J : Nat → Nat → Nat → Int64) (x : Int32) : Met l yX9_worth wsX9_worth ({ frames := 7, cells := 0, slots := 0, locals := 253 }) (va_Pc [.ref (h 100), .int x] (xPre (dC, dI) (wAll h cs fI fL fA fQ fG fJ) (tysA cs) sz)) (va_Ql (fun (r : Int64) (u : CS) => ∃ za9 : Nat → Nat → Int32, (r = an_worth x) ∧ u = (fI, fL, za9, fQ, fG, fJ)) (xB (dC, dI) (tysA cs) (va_A (wAll h cs fI fL fA fQ fG fJ) sz) (fun u : CS => wAll h cs u.1 u.2.1 u.2.2.1 u.2.2.2.1 u.2.2.2.2.1 u.2.2.2.2.2)) (va_A (wAll h cs fI fL fA fQ fG fJ) sz)) 0 0 (va_A (wAll h cs fI fL fA fQ fG fJ) sz) := by
  refine Met.ofW (cc := cX9_worth) (maxL := 2) (ret := (some .long)) (by decide) rfl ?_
  intro p e s m args below meth c s₁ B hml hv
  obtain ⟨rfl, hsz, hP, hK, hD0, hN⟩ := hv
  have hx := B.exec
  have hb := B.bytes
  have hr := B.returns
  have hts := atoms_spec (ws := wsX9_worth) B.pre
  have hown : s.vm.findClass RX9 = some m.cls := findClass_of_methodNamed B.named
  have hlocks := B.notSynchronized
  subst hsz
  have hD := hD0.self (sz := s.heap.size)
  generalize hAe : va_A (wAll h cs fI fL fA fQ fG fJ) s.heap.size = A0 at hD ⊢
  have hA : ∀ q : Nat, s.heap.size ≤ q → A0 q := fun q h => by rw [← hAe]; exact Or.inr h
  have hl := lv_entry ([.ref (h 100), .int x]) (n := 2) (Nat.le_of_ble_eq_true rfl)
  rw [lg_entry_eq]
  generalize (lg_sl ([.ref (h 100), .int x]) ++ List.replicate (2 - (lg_sl ([.ref (h 100), .int x])).length) Slot.unset).toArray = ls at hl ⊢
  have hl : lv_has ls 2 [(0, .ref (h 100)), (1, .int x)] := hl
  generalize hH : s.heap = H at hP ⊢
  have hS : va_S A0 s.heap H [] := by rw [← hH]; exact va_S.rf
  have hinX9 : ∀ w ∈ wsX90, w ∈ wsX9_worth := by decide +kernel
  have hinX3 : ∀ w ∈ wsX30, w ∈ wsX9_worth := by decide +kernel
  rcases splR x 1 3 (by decide) with ⟨i_x, h_x, g_x, rfl⟩ | hz_x
  · skip
    rcases (show i_x = 1 ∨ i_x = 2 ∨ i_x = 3 by omega) with rfl | rfl | rfl
    · skip
      refine lv_iload_n hx hb dX9_worth_0 rfl (lv_at hl 1 rfl) ?_
      refine lv_iconst (v := nI 1) hx hb dX9_worth_1 (by decide) ?_
      refine lv_icmp_lt (tgt := 18) hx hb dX9_worth_2 (by decide) (fun c9 => False.elim (by revert c9; decide +kernel)) (fun _ => ?_)
      refine lv_iload_n hx hb dX9_worth_5 rfl (lv_at hl 1 rfl) ?_
      refine lv_iconst (v := nI 1) hx hb dX9_worth_6 (by decide) ?_
      refine lv_aload_n hx hb dX9_worth_7 rfl (lv_at hl 0 rfl) ?_
      refine va_get (D := (dC, dI)) (ci := 9) (v := .ref (h 101)) (C := RX9) (T := TX9) (N := 9) hx hb hts hinX9 hown hK hP 0 rfl rfl 0 (by decide) (hts (.fieldLink RX9 12 "MixedWords" "mix" "LMixedWords$Mix;") (by decide +kernel)) (fun _ h9 => h9) rfl dX9_worth_8 ?_
      refine va_get (D := (dC, dI)) (ci := 3) (v := .int (fI 121)) (C := RX3) (T := TX3) (N := 6) hx hb hts hinX3 hown hK hP 1 rfl rfl 1 (by decide) (hts (.fieldLink RX9 106 "MixedWords$Mix" "width" "I") (by decide +kernel)) (fun _ h9 => h9) rfl dX9_worth_11 ?_
      refine xt_i (y := nI 2) (by decide +kernel) ?_
      refine lv_ishl hx hb dX9_worth_14 ?_
      refine xt_i (y := nI 4) (by decide +kernel) ?_
      refine lv_icmp_lt (tgt := 22) hx hb dX9_worth_15 (by decide) (fun _ => ?_) (fun c9 => False.elim (by revert c9; decide +kernel))
      refine lv_aload_n hx hb dX9_worth_22 rfl (lv_at hl 0 rfl) ?_
      refine va_get (D := (dC, dI)) (ci := 9) (v := .ref (h 106)) (C := RX9) (T := TX9) (N := 9) hx hb hts hinX9 hown hK hP 0 rfl rfl 5 (by decide) (hts (.fieldLink RX9 51 "MixedWords" "least" "LMixedWords$Least;") (by decide +kernel)) (fun _ h9 => h9) rfl dX9_worth_23 ?_
      refine lv_aload_n hx hb dX9_worth_26 rfl (lv_at hl 0 rfl) ?_
      refine va_get (D := (dC, dI)) (ci := 9) (v := .ref (h 101)) (C := RX9) (T := TX9) (N := 9) hx hb hts hinX9 hown hK hP 0 rfl rfl 0 (by decide) (hts (.fieldLink RX9 12 "MixedWords" "mix" "LMixedWords$Mix;") (by decide +kernel)) (fun _ h9 => h9) rfl dX9_worth_27 ?_
      refine lv_iload_n hx hb dX9_worth_30 rfl (lv_at hl 1 rfl) ?_
      refine xj_l (wc := (wD_112 h cs fI fL fA fQ fG fJ)) (wr := [(h 100, .inr (9, [.ref (h 101), .ref (h 102), .ref (h 103), .ref (h 104), .ref (h 105), .ref (h 106), .ref (h 107), .ref (h 108), .ref (h 109)])), (h 102, .inr (0, [.ref (h 101), .ref (h 140), .ref (h 141), .ref (h 142), .ref (h 143), .int (fI 144), .int (fI 145), .int (fI 146)])), (h 140, .inl (cs 0, 40, .inl (fA 140))), (h 141, .inl (cs 0, 40, .inl (fA 141))), (h 142, .inl (cs 0, 40, .inl (fA 142))), (h 143, .inl (cs 0, 40, .inl (fA 143))), (h 103, .inr (7, [.ref (h 150), .int (fI 151)])), (h 150, .inl (cs 2, 90, .inl (fA 150))), (h 104, .inr (4, [.ref (h 103), .ref (h 160), .int (fI 166), .int (fI 167), .int (fI 168), .int (fI 169)])), (h 160, .inl (cs 3, 5, .inr (.inr (.inr (.inr (fun i => if i < 5 then some (h (i + 161)) else none)))))), (h 161, .inl (cs 0, 4, .inl ((fG 1) 0))), (h 162, .inl (cs 0, 4, .inl ((fG 1) 1))), (h 163, .inl (cs 0, 4, .inl ((fG 1) 2))), (h 164, .inl (cs 0, 4, .inl ((fG 1) 3))), (h 165, .inl (cs 0, 4, .inl ((fG 1) 4))), (h 105, .inr (8, [.ref (h 101), .ref (h 170), .ref (h 171), .ref (h 172), .int (fI 173), .int (fI 174)])), (h 170, .inl (cs 0, 256, .inl (fA 170))), (h 171, .inl (cs 0, 256, .inl (fA 171))), (h 172, .inl (cs 0, 256, .inl (fA 172))), (h 107, .inr (6, [.ref (h 101), .ref (h 190), .ref (h 191), .ref (h 192)])), (h 190, .inl (cs 0, 5, .inl (fA 190))), (h 191, .inl (cs 0, 4, .inl (fA 191))), (h 192, .inl (cs 0, 4, .inl (fA 192))), (h 108, .inr (1, [.ref (h 101), .ref (h 200), .ref (h 206), .ref (h 211), .int (fI 212), .int (fI 213)])), (h 200, .inl (cs 3, 5, .inr (.inr (.inr (.inr (fun i => if i < 5 then some (h (i + 201)) else none)))))), (h 201, .inl (cs 0, 4, .inl ((fG 2) 0))), (h 202, .inl (cs 0, 4, .inl ((fG 2) 1))), (h 203, .inl (cs 0, 4, .inl ((fG 2) 2))), (h 204, .inl (cs 0, 4, .inl ((fG 2) 3))), (h 205, .inl (cs 0, 4, .inl ((fG 2) 4))), (h 206, .inl (cs 3, 4, .inr (.inr (.inr (.inr (fun i => if i < 4 then some (h (i + 207)) else none)))))), (h 207, .inl (cs 0, 4, .inl ((fG 3) 0))), (h 208, .inl (cs 0, 4, .inl ((fG 3) 1))), (h 209, .inl (cs 0, 4, .inl ((fG 3) 2))), (h 210, .inl (cs 0, 4, .inl ((fG 3) 3))), (h 211, .inl (cs 0, 5, .inl (fA 211))), (h 109, .inl (cs 5, 4, .inr (.inr (.inr (.inr (fun i => if i < 4 then some (h (i + 110)) else none)))))), (h 110, .inr (5, [.int (fI 220), .int (fI 224), .ref (h 228)])), (h 228, .inl (cs 1, 25, .inr (.inl (fQ 228)))), (h 111, .inr (5, [.int (fI 221), .int (fI 225), .ref (h 229)])), (h 229, .inl (cs 1, 25, .inr (.inl (fQ 229)))), (h 112, .inr (5, [.int (fI 222), .int (fI 226), .ref (h 230)])), (h 230, .inl (cs 1, 25, .inr (.inl (fQ 230)))), (h 113, .inr (5, [.int (fI 223), .int (fI 227), .ref (h 231)])), (h 231, .inl (cs 1, 25, .inr (.inl (fQ 231))))]) hP hD hS hA [27, 1, 2, 3, 4, 5, 6, 7, 8, 28, 29, 30, 31, 32, 33, 34, 35] [0, 9, 10, 11, 12, 13, 14, 15, 16, 17, 18, 19, 20, 21, 22, 23, 24, 25, 26, 36, 37, 38, 39, 40, 41, 42, 43, 44, 45, 46, 47, 48, 49, 50, 51, 52, 53, 54, 55, 56, 57, 58, 59, 60, 61] rfl rfl (by decide) (by decide) (va_runV (As := [.ref (h 101), .int (nI 1)]) (rest := []) ⟨hx, hb, hml, hown, hts⟩ (a_X2_worthOf_113 l dC dI h cs H.size fI fL fA fQ fG fJ ) (cwV 2 hts gX9_worth_X2_worthOf rfl rfl rfl (by decide +kernel) ⟨Nat.le_of_ble_eq_true rfl, Nat.le_of_ble_eq_true rfl⟩) (xpV (wc := (wD_112 h cs fI fL fA fQ fG fJ)) hP hD hK hN [27, 1, 2, 3, 4, 5, 6, 7, 8, 28, 29, 30, 31, 32, 33, 34, 35] rfl (by decide) 27 (ci := 2) rfl rfl _) rfl rfl hl.1 rfl (lv_room (Nat.le_of_ble_eq_true rfl)) dX9_worth_31 ⟨Nat.zero_le _, Nat.zero_le _⟩) (fun r_2 u_1 H locs hw hP hD hS => ?_)
      obtain ⟨hf_3, rfl⟩ := hw
      have hP : va_P (dC, dI) vwCl (wAll h cs fI fL fA fQ fG fJ) H := xP_sub hP [0, 46, 47, 48, 49, 50, 51, 52, 53, 1, 2, 3, 4, 5, 6, 7, 8, 9, 10, 11, 12, 13, 14, 15, 16, 17, 18, 45, 54, 55, 56, 57, 58, 59, 60, 61, 19, 20, 21, 22, 23, 24, 25, 26, 27, 28, 29, 30, 31, 32, 33, 34, 35, 36, 37, 38, 39, 40, 41, 42, 43, 44] rfl
      have hD : va_D A0 (wAll h cs fI fL fA fQ fG fJ) := hD.sub [0, 46, 47, 48, 49, 50, 51, 52, 53, 1, 2, 3, 4, 5, 6, 7, 8, 9, 10, 11, 12, 13, 14, 15, 16, 17, 18, 45, 54, 55, 56, 57, 58, 59, 60, 61, 19, 20, 21, 22, 23, 24, 25, 26, 27, 28, 29, 30, 31, 32, 33, 34, 35, 36, 37, 38, 39, 40, 41, 42, 43, 44] (by decide) rfl
      obtain rfl := hf_3
      exact xr_l (v := (0 : Int64)) hx hb hr hlocks hK hS dX9_worth_34 (fI, fL, fA, fQ, fG, fJ) ⟨fA, (by decide +kernel), rfl⟩ hP hD
    · skip
      refine lv_iload_n hx hb dX9_worth_0 rfl (lv_at hl 1 rfl) ?_
      refine lv_iconst (v := nI 1) hx hb dX9_worth_1 (by decide) ?_
      refine lv_icmp_lt (tgt := 18) hx hb dX9_worth_2 (by decide) (fun c9 => False.elim (by revert c9; decide +kernel)) (fun _ => ?_)
      refine lv_iload_n hx hb dX9_worth_5 rfl (lv_at hl 1 rfl) ?_
      refine lv_iconst (v := nI 1) hx hb dX9_worth_6 (by decide) ?_
      refine lv_aload_n hx hb dX9_worth_7 rfl (lv_at hl 0 rfl) ?_
      refine va_get (D := (dC, dI)) (ci := 9) (v := .ref (h 101)) (C := RX9) (T := TX9) (N := 9) hx hb hts hinX9 hown hK hP 0 rfl rfl 0 (by decide) (hts (.fieldLink RX9 12 "MixedWords" "mix" "LMixedWords$Mix;") (by decide +kernel)) (fun _ h9 => h9) rfl dX9_worth_8 ?_
      refine va_get (D := (dC, dI)) (ci := 3) (v := .int (fI 121)) (C := RX3) (T := TX3) (N := 6) hx hb hts hinX3 hown hK hP 1 rfl rfl 1 (by decide) (hts (.fieldLink RX9 106 "MixedWords$Mix" "width" "I") (by decide +kernel)) (fun _ h9 => h9) rfl dX9_worth_11 ?_
      refine xt_i (y := nI 2) (by decide +kernel) ?_
      refine lv_ishl hx hb dX9_worth_14 ?_
      refine xt_i (y := nI 4) (by decide +kernel) ?_
      refine lv_icmp_lt (tgt := 22) hx hb dX9_worth_15 (by decide) (fun _ => ?_) (fun c9 => False.elim (by revert c9; decide +kernel))
      refine lv_aload_n hx hb dX9_worth_22 rfl (lv_at hl 0 rfl) ?_
      refine va_get (D := (dC, dI)) (ci := 9) (v := .ref (h 106)) (C := RX9) (T := TX9) (N := 9) hx hb hts hinX9 hown hK hP 0 rfl rfl 5 (by decide) (hts (.fieldLink RX9 51 "MixedWords" "least" "LMixedWords$Least;") (by decide +kernel)) (fun _ h9 => h9) rfl dX9_worth_23 ?_
      refine lv_aload_n hx hb dX9_worth_26 rfl (lv_at hl 0 rfl) ?_
      refine va_get (D := (dC, dI)) (ci := 9) (v := .ref (h 101)) (C := RX9) (T := TX9) (N := 9) hx hb hts hinX9 hown hK hP 0 rfl rfl 0 (by decide) (hts (.fieldLink RX9 12 "MixedWords" "mix" "LMixedWords$Mix;") (by decide +kernel)) (fun _ h9 => h9) rfl dX9_worth_27 ?_
      refine lv_iload_n hx hb dX9_worth_30 rfl (lv_at hl 1 rfl) ?_
      refine xj_l (wc := (wD_112 h cs fI fL fA fQ fG fJ)) (wr := [(h 100, .inr (9, [.ref (h 101), .ref (h 102), .ref (h 103), .ref (h 104), .ref (h 105), .ref (h 106), .ref (h 107), .ref (h 108), .ref (h 109)])), (h 102, .inr (0, [.ref (h 101), .ref (h 140), .ref (h 141), .ref (h 142), .ref (h 143), .int (fI 144), .int (fI 145), .int (fI 146)])), (h 140, .inl (cs 0, 40, .inl (fA 140))), (h 141, .inl (cs 0, 40, .inl (fA 141))), (h 142, .inl (cs 0, 40, .inl (fA 142))), (h 143, .inl (cs 0, 40, .inl (fA 143))), (h 103, .inr (7, [.ref (h 150), .int (fI 151)])), (h 150, .inl (cs 2, 90, .inl (fA 150))), (h 104, .inr (4, [.ref (h 103), .ref (h 160), .int (fI 166), .int (fI 167), .int (fI 168), .int (fI 169)])), (h 160, .inl (cs 3, 5, .inr (.inr (.inr (.inr (fun i => if i < 5 then some (h (i + 161)) else none)))))), (h 161, .inl (cs 0, 4, .inl ((fG 1) 0))), (h 162, .inl (cs 0, 4, .inl ((fG 1) 1))), (h 163, .inl (cs 0, 4, .inl ((fG 1) 2))), (h 164, .inl (cs 0, 4, .inl ((fG 1) 3))), (h 165, .inl (cs 0, 4, .inl ((fG 1) 4))), (h 105, .inr (8, [.ref (h 101), .ref (h 170), .ref (h 171), .ref (h 172), .int (fI 173), .int (fI 174)])), (h 170, .inl (cs 0, 256, .inl (fA 170))), (h 171, .inl (cs 0, 256, .inl (fA 171))), (h 172, .inl (cs 0, 256, .inl (fA 172))), (h 107, .inr (6, [.ref (h 101), .ref (h 190), .ref (h 191), .ref (h 192)])), (h 190, .inl (cs 0, 5, .inl (fA 190))), (h 191, .inl (cs 0, 4, .inl (fA 191))), (h 192, .inl (cs 0, 4, .inl (fA 192))), (h 108, .inr (1, [.ref (h 101), .ref (h 200), .ref (h 206), .ref (h 211), .int (fI 212), .int (fI 213)])), (h 200, .inl (cs 3, 5, .inr (.inr (.inr (.inr (fun i => if i < 5 then some (h (i + 201)) else none)))))), (h 201, .inl (cs 0, 4, .inl ((fG 2) 0))), (h 202, .inl (cs 0, 4, .inl ((fG 2) 1))), (h 203, .inl (cs 0, 4, .inl ((fG 2) 2))), (h 204, .inl (cs 0, 4, .inl ((fG 2) 3))), (h 205, .inl (cs 0, 4, .inl ((fG 2) 4))), (h 206, .inl (cs 3, 4, .inr (.inr (.inr (.inr (fun i => if i < 4 then some (h (i + 207)) else none)))))), (h 207, .inl (cs 0, 4, .inl ((fG 3) 0))), (h 208, .inl (cs 0, 4, .inl ((fG 3) 1))), (h 209, .inl (cs 0, 4, .inl ((fG 3) 2))), (h 210, .inl (cs 0, 4, .inl ((fG 3) 3))), (h 211, .inl (cs 0, 5, .inl (fA 211))), (h 109, .inl (cs 5, 4, .inr (.inr (.inr (.inr (fun i => if i < 4 then some (h (i + 110)) else none)))))), (h 110, .inr (5, [.int (fI 220), .int (fI 224), .ref (h 228)])), (h 228, .inl (cs 1, 25, .inr (.inl (fQ 228)))), (h 111, .inr (5, [.int (fI 221), .int (fI 225), .ref (h 229)])), (h 229, .inl (cs 1, 25, .inr (.inl (fQ 229)))), (h 112, .inr (5, [.int (fI 222), .int (fI 226), .ref (h 230)])), (h 230, .inl (cs 1, 25, .inr (.inl (fQ 230)))), (h 113, .inr (5, [.int (fI 223), .int (fI 227), .ref (h 231)])), (h 231, .inl (cs 1, 25, .inr (.inl (fQ 231))))]) hP hD hS hA [27, 1, 2, 3, 4, 5, 6, 7, 8, 28, 29, 30, 31, 32, 33, 34, 35] [0, 9, 10, 11, 12, 13, 14, 15, 16, 17, 18, 19, 20, 21, 22, 23, 24, 25, 26, 36, 37, 38, 39, 40, 41, 42, 43, 44, 45, 46, 47, 48, 49, 50, 51, 52, 53, 54, 55, 56, 57, 58, 59, 60, 61] rfl rfl (by decide) (by decide) (va_runV (As := [.ref (h 101), .int (nI 2)]) (rest := []) ⟨hx, hb, hml, hown, hts⟩ (a_X2_worthOf_115 l dC dI h cs H.size fI fL fA fQ fG fJ ) (cwV 2 hts gX9_worth_X2_worthOf rfl rfl rfl (by decide +kernel) ⟨Nat.le_of_ble_eq_true rfl, Nat.le_of_ble_eq_true rfl⟩) (xpV (wc := (wD_112 h cs fI fL fA fQ fG fJ)) hP hD hK hN [27, 1, 2, 3, 4, 5, 6, 7, 8, 28, 29, 30, 31, 32, 33, 34, 35] rfl (by decide) 27 (ci := 2) rfl rfl _) rfl rfl hl.1 rfl (lv_room (Nat.le_of_ble_eq_true rfl)) dX9_worth_31 ⟨Nat.zero_le _, Nat.zero_le _⟩) (fun r_5 u_4 H locs hw hP hD hS => ?_)
      obtain ⟨hf_6, rfl⟩ := hw
      have hP : va_P (dC, dI) vwCl (wAll h cs fI fL qA_116 fQ fG fJ) H := xP_sub hP [0, 46, 47, 48, 49, 50, 51, 52, 53, 1, 2, 3, 4, 5, 6, 7, 8, 9, 10, 11, 12, 13, 14, 15, 16, 17, 18, 45, 54, 55, 56, 57, 58, 59, 60, 61, 19, 20, 21, 22, 23, 24, 25, 26, 27, 28, 29, 30, 31, 32, 33, 34, 35, 36, 37, 38, 39, 40, 41, 42, 43, 44] rfl
      have hD : va_D A0 (wAll h cs fI fL qA_116 fQ fG fJ) := hD.sub [0, 46, 47, 48, 49, 50, 51, 52, 53, 1, 2, 3, 4, 5, 6, 7, 8, 9, 10, 11, 12, 13, 14, 15, 16, 17, 18, 45, 54, 55, 56, 57, 58, 59, 60, 61, 19, 20, 21, 22, 23, 24, 25, 26, 27, 28, 29, 30, 31, 32, 33, 34, 35, 36, 37, 38, 39, 40, 41, 42, 43, 44] (by decide) rfl
      obtain rfl := hf_6
      exact xr_l (v := (0 : Int64)) hx hb hr hlocks hK hS dX9_worth_34 (fI, fL, qA_116, fQ, fG, fJ) ⟨qA_116, (by decide +kernel), rfl⟩ hP hD
    · skip
      refine lv_iload_n hx hb dX9_worth_0 rfl (lv_at hl 1 rfl) ?_
      refine lv_iconst (v := nI 1) hx hb dX9_worth_1 (by decide) ?_
      refine lv_icmp_lt (tgt := 18) hx hb dX9_worth_2 (by decide) (fun c9 => False.elim (by revert c9; decide +kernel)) (fun _ => ?_)
      refine lv_iload_n hx hb dX9_worth_5 rfl (lv_at hl 1 rfl) ?_
      refine lv_iconst (v := nI 1) hx hb dX9_worth_6 (by decide) ?_
      refine lv_aload_n hx hb dX9_worth_7 rfl (lv_at hl 0 rfl) ?_
      refine va_get (D := (dC, dI)) (ci := 9) (v := .ref (h 101)) (C := RX9) (T := TX9) (N := 9) hx hb hts hinX9 hown hK hP 0 rfl rfl 0 (by decide) (hts (.fieldLink RX9 12 "MixedWords" "mix" "LMixedWords$Mix;") (by decide +kernel)) (fun _ h9 => h9) rfl dX9_worth_8 ?_
      refine va_get (D := (dC, dI)) (ci := 3) (v := .int (fI 121)) (C := RX3) (T := TX3) (N := 6) hx hb hts hinX3 hown hK hP 1 rfl rfl 1 (by decide) (hts (.fieldLink RX9 106 "MixedWords$Mix" "width" "I") (by decide +kernel)) (fun _ h9 => h9) rfl dX9_worth_11 ?_
      refine xt_i (y := nI 2) (by decide +kernel) ?_
      refine lv_ishl hx hb dX9_worth_14 ?_
      refine xt_i (y := nI 4) (by decide +kernel) ?_
      refine lv_icmp_lt (tgt := 22) hx hb dX9_worth_15 (by decide) (fun _ => ?_) (fun c9 => False.elim (by revert c9; decide +kernel))
      refine lv_aload_n hx hb dX9_worth_22 rfl (lv_at hl 0 rfl) ?_
      refine va_get (D := (dC, dI)) (ci := 9) (v := .ref (h 106)) (C := RX9) (T := TX9) (N := 9) hx hb hts hinX9 hown hK hP 0 rfl rfl 5 (by decide) (hts (.fieldLink RX9 51 "MixedWords" "least" "LMixedWords$Least;") (by decide +kernel)) (fun _ h9 => h9) rfl dX9_worth_23 ?_
      refine lv_aload_n hx hb dX9_worth_26 rfl (lv_at hl 0 rfl) ?_
      refine va_get (D := (dC, dI)) (ci := 9) (v := .ref (h 101)) (C := RX9) (T := TX9) (N := 9) hx hb hts hinX9 hown hK hP 0 rfl rfl 0 (by decide) (hts (.fieldLink RX9 12 "MixedWords" "mix" "LMixedWords$Mix;") (by decide +kernel)) (fun _ h9 => h9) rfl dX9_worth_27 ?_
      refine lv_iload_n hx hb dX9_worth_30 rfl (lv_at hl 1 rfl) ?_
      refine xj_l (wc := (wD_112 h cs fI fL fA fQ fG fJ)) (wr := [(h 100, .inr (9, [.ref (h 101), .ref (h 102), .ref (h 103), .ref (h 104), .ref (h 105), .ref (h 106), .ref (h 107), .ref (h 108), .ref (h 109)])), (h 102, .inr (0, [.ref (h 101), .ref (h 140), .ref (h 141), .ref (h 142), .ref (h 143), .int (fI 144), .int (fI 145), .int (fI 146)])), (h 140, .inl (cs 0, 40, .inl (fA 140))), (h 141, .inl (cs 0, 40, .inl (fA 141))), (h 142, .inl (cs 0, 40, .inl (fA 142))), (h 143, .inl (cs 0, 40, .inl (fA 143))), (h 103, .inr (7, [.ref (h 150), .int (fI 151)])), (h 150, .inl (cs 2, 90, .inl (fA 150))), (h 104, .inr (4, [.ref (h 103), .ref (h 160), .int (fI 166), .int (fI 167), .int (fI 168), .int (fI 169)])), (h 160, .inl (cs 3, 5, .inr (.inr (.inr (.inr (fun i => if i < 5 then some (h (i + 161)) else none)))))), (h 161, .inl (cs 0, 4, .inl ((fG 1) 0))), (h 162, .inl (cs 0, 4, .inl ((fG 1) 1))), (h 163, .inl (cs 0, 4, .inl ((fG 1) 2))), (h 164, .inl (cs 0, 4, .inl ((fG 1) 3))), (h 165, .inl (cs 0, 4, .inl ((fG 1) 4))), (h 105, .inr (8, [.ref (h 101), .ref (h 170), .ref (h 171), .ref (h 172), .int (fI 173), .int (fI 174)])), (h 170, .inl (cs 0, 256, .inl (fA 170))), (h 171, .inl (cs 0, 256, .inl (fA 171))), (h 172, .inl (cs 0, 256, .inl (fA 172))), (h 107, .inr (6, [.ref (h 101), .ref (h 190), .ref (h 191), .ref (h 192)])), (h 190, .inl (cs 0, 5, .inl (fA 190))), (h 191, .inl (cs 0, 4, .inl (fA 191))), (h 192, .inl (cs 0, 4, .inl (fA 192))), (h 108, .inr (1, [.ref (h 101), .ref (h 200), .ref (h 206), .ref (h 211), .int (fI 212), .int (fI 213)])), (h 200, .inl (cs 3, 5, .inr (.inr (.inr (.inr (fun i => if i < 5 then some (h (i + 201)) else none)))))), (h 201, .inl (cs 0, 4, .inl ((fG 2) 0))), (h 202, .inl (cs 0, 4, .inl ((fG 2) 1))), (h 203, .inl (cs 0, 4, .inl ((fG 2) 2))), (h 204, .inl (cs 0, 4, .inl ((fG 2) 3))), (h 205, .inl (cs 0, 4, .inl ((fG 2) 4))), (h 206, .inl (cs 3, 4, .inr (.inr (.inr (.inr (fun i => if i < 4 then some (h (i + 207)) else none)))))), (h 207, .inl (cs 0, 4, .inl ((fG 3) 0))), (h 208, .inl (cs 0, 4, .inl ((fG 3) 1))), (h 209, .inl (cs 0, 4, .inl ((fG 3) 2))), (h 210, .inl (cs 0, 4, .inl ((fG 3) 3))), (h 211, .inl (cs 0, 5, .inl (fA 211))), (h 109, .inl (cs 5, 4, .inr (.inr (.inr (.inr (fun i => if i < 4 then some (h (i + 110)) else none)))))), (h 110, .inr (5, [.int (fI 220), .int (fI 224), .ref (h 228)])), (h 228, .inl (cs 1, 25, .inr (.inl (fQ 228)))), (h 111, .inr (5, [.int (fI 221), .int (fI 225), .ref (h 229)])), (h 229, .inl (cs 1, 25, .inr (.inl (fQ 229)))), (h 112, .inr (5, [.int (fI 222), .int (fI 226), .ref (h 230)])), (h 230, .inl (cs 1, 25, .inr (.inl (fQ 230)))), (h 113, .inr (5, [.int (fI 223), .int (fI 227), .ref (h 231)])), (h 231, .inl (cs 1, 25, .inr (.inl (fQ 231))))]) hP hD hS hA [27, 1, 2, 3, 4, 5, 6, 7, 8, 28, 29, 30, 31, 32, 33, 34, 35] [0, 9, 10, 11, 12, 13, 14, 15, 16, 17, 18, 19, 20, 21, 22, 23, 24, 25, 26, 36, 37, 38, 39, 40, 41, 42, 43, 44, 45, 46, 47, 48, 49, 50, 51, 52, 53, 54, 55, 56, 57, 58, 59, 60, 61] rfl rfl (by decide) (by decide) (va_runV (As := [.ref (h 101), .int (nI 3)]) (rest := []) ⟨hx, hb, hml, hown, hts⟩ (a_X2_worthOf_119 l dC dI h cs H.size fI fL fA fQ fG fJ ) (cwV 2 hts gX9_worth_X2_worthOf rfl rfl rfl (by decide +kernel) ⟨Nat.le_of_ble_eq_true rfl, Nat.le_of_ble_eq_true rfl⟩) (xpV (wc := (wD_112 h cs fI fL fA fQ fG fJ)) hP hD hK hN [27, 1, 2, 3, 4, 5, 6, 7, 8, 28, 29, 30, 31, 32, 33, 34, 35] rfl (by decide) 27 (ci := 2) rfl rfl _) rfl rfl hl.1 rfl (lv_room (Nat.le_of_ble_eq_true rfl)) dX9_worth_31 ⟨Nat.zero_le _, Nat.zero_le _⟩) (fun r_8 u_7 H locs hw hP hD hS => ?_)
      obtain ⟨hf_9, rfl⟩ := hw
      have hP : va_P (dC, dI) vwCl (wAll h cs fI fL qA_120 fQ fG fJ) H := xP_sub hP [0, 46, 47, 48, 49, 50, 51, 52, 53, 1, 2, 3, 4, 5, 6, 7, 8, 9, 10, 11, 12, 13, 14, 15, 16, 17, 18, 45, 54, 55, 56, 57, 58, 59, 60, 61, 19, 20, 21, 22, 23, 24, 25, 26, 27, 28, 29, 30, 31, 32, 33, 34, 35, 36, 37, 38, 39, 40, 41, 42, 43, 44] rfl
      have hD : va_D A0 (wAll h cs fI fL qA_120 fQ fG fJ) := hD.sub [0, 46, 47, 48, 49, 50, 51, 52, 53, 1, 2, 3, 4, 5, 6, 7, 8, 9, 10, 11, 12, 13, 14, 15, 16, 17, 18, 45, 54, 55, 56, 57, 58, 59, 60, 61, 19, 20, 21, 22, 23, 24, 25, 26, 27, 28, 29, 30, 31, 32, 33, 34, 35, 36, 37, 38, 39, 40, 41, 42, 43, 44] (by decide) rfl
      obtain rfl := hf_9
      exact xr_l (v := (0 : Int64)) hx hb hr hlocks hK hS dX9_worth_34 (fI, fL, qA_120, fQ, fG, fJ) ⟨qA_120, (by decide +kernel), rfl⟩ hP hD
  · skip
    refine lv_iload_n hx hb dX9_worth_0 rfl (lv_at hl 1 rfl) ?_
    refine lv_iconst (v := nI 1) hx hb dX9_worth_1 (by decide) ?_
    refine lv_icmp_lt (tgt := 18) hx hb dX9_worth_2 (by decide) (fun c_2_9 => ?_) (fun c_2_9 => ?_)
    · skip
      have t_t_10 : x.toInt < 1 := zc_tlt (K := nI 1) (by decide +kernel) c_2_9
      refine lv_ldc2 (v := (-1)) hx hb hown (hts (.constantLong RX9 178 (-1)) (by decide +kernel)) dX9_worth_18 ?_
      exact xr_l (v := (-1 : Int64)) hx hb hr hlocks hK hS dX9_worth_21 (fI, fL, fA, fQ, fG, fJ) ⟨fA, (by unfold an_worth; rw [if_neg (by omega)]), rfl⟩ hP hD
    · skip
      have t_f_11 : 1 ≤ x.toInt := zc_flt (K := nI 1) (by decide +kernel) c_2_9
      refine lv_iload_n hx hb dX9_worth_5 rfl (lv_at hl 1 rfl) ?_
      refine lv_iconst (v := nI 1) hx hb dX9_worth_6 (by decide) ?_
      refine lv_aload_n hx hb dX9_worth_7 rfl (lv_at hl 0 rfl) ?_
      refine va_get (D := (dC, dI)) (ci := 9) (v := .ref (h 101)) (C := RX9) (T := TX9) (N := 9) hx hb hts hinX9 hown hK hP 0 rfl rfl 0 (by decide) (hts (.fieldLink RX9 12 "MixedWords" "mix" "LMixedWords$Mix;") (by decide +kernel)) (fun _ h9 => h9) rfl dX9_worth_8 ?_
      refine va_get (D := (dC, dI)) (ci := 3) (v := .int (fI 121)) (C := RX3) (T := TX3) (N := 6) hx hb hts hinX3 hown hK hP 1 rfl rfl 1 (by decide) (hts (.fieldLink RX9 106 "MixedWords$Mix" "width" "I") (by decide +kernel)) (fun _ h9 => h9) rfl dX9_worth_11 ?_
      refine xt_i (y := nI 2) (by decide +kernel) ?_
      refine lv_ishl hx hb dX9_worth_14 ?_
      refine xt_i (y := nI 4) (by decide +kernel) ?_
      refine lv_icmp_lt (tgt := 22) hx hb dX9_worth_15 (by decide) (fun c_15_12 => ?_) (fun c_15_12 => ?_)
      · skip
        have t_t_13 : x.toInt < 4 := zc_tlt (K := nI 4) (by decide +kernel) c_15_12
        exact absurd t_t_13 (by omega)
      · skip
        have t_f_14 : 4 ≤ x.toInt := zc_flt (K := nI 4) (by decide +kernel) c_15_12
        refine lv_ldc2 (v := (-1)) hx hb hown (hts (.constantLong RX9 178 (-1)) (by decide +kernel)) dX9_worth_18 ?_
        exact xr_l (v := (-1 : Int64)) hx hb hr hlocks hK hS dX9_worth_21 (fI, fL, fA, fQ, fG, fJ) ⟨fA, (by unfold an_worth; rw [if_neg (by omega)]), rfl⟩ hP hD
