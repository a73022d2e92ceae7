set_option maxHeartbeats 4000000 in
set_option maxRecDepth 100000 in
theorem a_X10_whole_207 (l : Launch) (dC : Nat → ClassId) (dI : Nat → Nat → Nat) (h : Nat → Nat) (cs : Nat → ClassId) (sz : Nat) (I : Nat → Int32) (L : Nat → Int64) (A : Nat → Nat → Int32) (Q : Nat → Nat → Int64) : Met l yX10_whole wsX10_whole ({ frames := 0, cells := 0, slots := 0, locals := 0 }) (va_Pc [.ref (h 0)] (xPre (dC, dI) (wD_177 h cs gI gL gA gQ) (tysA cs) sz)) (va_Qi (fun (r : Int32) (u : RS) => (r = nI 3) ∧ u = (gI, gL, gA, gQ)) (xB (dC, dI) (tysA cs) (va_A (wD_177 h cs gI gL gA gQ) sz) (fun u : RS => wD_177 h cs u.1 u.2.1 u.2.2.1 u.2.2.2)) (va_A (wD_177 h cs gI gL gA gQ) sz)) 0 0 (va_A (wD_177 h cs gI gL gA gQ) sz) := by
  refine Met.ofW (cc := cX10_whole) (maxL := 1) (ret := (some .int)) (by decide) rfl ?_
  intro p e s m args below meth c s₁ B hml hv
  obtain ⟨rfl, hsz, hP, hK, hD0, hN⟩ := hv
  have hx := B.exec
  have hb := B.bytes
  have hr := B.returns
  have hts := atoms_spec (ws := wsX10_whole) B.pre
  have hown : s.vm.findClass RX10 = some m.cls := findClass_of_methodNamed B.named
  have hlocks := B.notSynchronized
  subst hsz
  have hD := hD0.self (sz := s.heap.size)
  generalize hAe : va_A (wD_177 h cs gI gL gA gQ) s.heap.size = A0 at hD ⊢
  have hA : ∀ q : Nat, s.heap.size ≤ q → A0 q := fun q h => by rw [← hAe]; exact Or.inr h
  have hl := lv_entry ([.ref (h 0)]) (n := 1) (Nat.le_of_ble_eq_true rfl)
  rw [lg_entry_eq]
  generalize (lg_sl ([.ref (h 0)]) ++ List.replicate (1 - (lg_sl ([.ref (h 0)])).length) Slot.unset).toArray = ls at hl ⊢
  have hl : lv_has ls 1 [(0, .ref (h 0))] := hl
  generalize hH : s.heap = H at hP ⊢
  have hS : va_S A0 s.heap H [] := by rw [← hH]; exact va_S.rf
  have hinX10 : ∀ w ∈ wsX100, w ∈ wsX10_whole := by decide +kernel
  refine lv_iconst (v := nI 1) hx hb dX10_whole_0 (by decide) ?_
  refine lv_aload_n hx hb dX10_whole_1 rfl (lv_at hl 0 rfl) ?_
  refine va_get (D := (dC, dI)) (ci := 10) (v := .int (gI 1)) (C := RX10) (T := TX10) (N := 28) hx hb hts hinX10 hown hK hP 0 rfl rfl 1 (by decide) (hts (.fieldLink RX10 13 "MixedWordsModel" "columns" "I") (by decide +kernel)) (fun _ h9 => h9) rfl dX10_whole_2 ?_
  refine xt_i (y := nI 2) (by decide +kernel) ?_
  refine lv_ishl hx hb dX10_whole_5 ?_
  refine xt_i (y := nI 4) (by decide +kernel) ?_
  refine lv_iconst (v := nI 1) hx hb dX10_whole_6 (by decide) ?_
  refine lv_isub hx hb dX10_whole_7 ?_
  refine xt_i (y := nI 3) (by decide +kernel) ?_
  exact xr_i (v := (nI 3)) hx hb hr hlocks hK hS dX10_whole_8 (gI, gL, gA, gQ) ⟨rfl, rfl⟩ hP hD
set_option maxHeartbeats 4000000 in
set_option maxRecDepth 100000 in
theorem a_X10_in_208 (l : Launch) (dC : Nat → ClassId) (dI : Nat → Nat → Nat) (h : Nat → Nat) (cs : Nat → ClassId) (sz : Nat) (I : Nat → Int32) (L : Nat → Int64) (A : Nat → Nat → Int32) (Q : Nat → Nat → Int64) : Met l yX10_in wsX10_in ({ frames := 0, cells := 0, slots := 0, locals := 0 }) (va_Pc [.long (1 : Int64), .long (1 : Int64), .long (3 : Int64)] (xPre (dC, dI) ([] : va_W) (tysA cs) sz)) (va_Qi (fun (r : Int32) (u : RS) => (r = nI 1) ∧ u = (I, L, A, Q)) (xB (dC, dI) (tysA cs) (va_A ([] : va_W) sz) (fun _ : RS => ([] : va_W))) (va_A ([] : va_W) sz)) 0 0 (va_A ([] : va_W) sz) := by
  refine Met.ofW (cc := cX10_in) (maxL := 6) (ret := (some .boolean)) (by decide) rfl ?_
  intro p e s m args below meth c s₁ B hml hv
  obtain ⟨rfl, hsz, hP, hK, hD0, hN⟩ := hv
  have hx := B.exec
  have hb := B.bytes
  have hr := B.returns
  have hts := atoms_spec (ws := wsX10_in) B.pre
  have hown : s.vm.findClass RX10 = some m.cls := findClass_of_methodNamed B.named
  have hlocks := B.notSynchronized
  subst hsz
  have hD := hD0.self (sz := s.heap.size)
  generalize hAe : va_A ([] : va_W) s.heap.size = A0 at hD ⊢
  have hA : ∀ q : Nat, s.heap.size ≤ q → A0 q := fun q h => by rw [← hAe]; exact Or.inr h
  have hl := lv_entry ([.long (1 : Int64), .long (1 : Int64), .long (3 : Int64)]) (n := 6) (Nat.le_of_ble_eq_true rfl)
  rw [lg_entry_eq]
  generalize (lg_sl ([.long (1 : Int64), .long (1 : Int64), .long (3 : Int64)]) ++ List.replicate (6 - (lg_sl ([.long (1 : Int64), .long (1 : Int64), .long (3 : Int64)])).length) Slot.unset).toArray = ls at hl ⊢
  have hl : lv_has ls 6 [(0, .long (1 : Int64)), (2, .long (1 : Int64)), (4, .long (3 : Int64))] := hl
  generalize hH : s.heap = H at hP ⊢
  have hS : va_S A0 s.heap H [] := by rw [← hH]; exact va_S.rf
  refine lv_lload_n hx hb dX10_in_0 rfl (lv_at hl 0 rfl) ?_
  refine lv_lload_n hx hb dX10_in_1 rfl (lv_at hl 1 rfl) ?_
  refine xl_lt (tgt := 17) hx hb dX10_in_2 dX10_in_3 (by decide) (fun c9 => False.elim (by revert c9; decide +kernel)) (fun _ => ?_)
  refine lv_lload_n hx hb dX10_in_6 rfl (lv_at hl 0 rfl) ?_
  refine lv_lload hx hb dX10_in_7 (lv_at hl 2 rfl) ?_
  refine xl_gt (tgt := 17) hx hb dX10_in_9 dX10_in_10 (by decide) (fun c9 => False.elim (by revert c9; decide +kernel)) (fun _ => ?_)
  refine lv_iconst (v := nI 1) hx hb dX10_in_13 (by decide) ?_
  refine lv_goto (tgt := 18) hx hb dX10_in_14 (by decide) ?_
  exact xr_z (v := (nI 1)) hx hb hr hlocks hK hS dX10_in_18 (rfl) (I, L, A, Q) ⟨rfl, rfl⟩ hP hD
def qA_210 : Nat → Nat → Int32 := (va_up gA 18 (upd (upd (upd (upd (gA 18) 0 (nI 1)) 5 (nI 1)) 10 (nI 1)) 15 (nI 1)))
set_option maxHeartbeats 4000000 in
set_option maxRecDepth 100000 in
theorem a_X10_lay_209 (l : Launch) (dC : Nat → ClassId) (dI : Nat → Nat → Nat) (h : Nat → Nat) (cs : Nat → ClassId) (sz : Nat) (I : Nat → Int32) (L : Nat → Int64) (A : Nat → Nat → Int32) (Q : Nat → Nat → Int64) : Met l yX10_lay wsX10_lay ({ frames := 0, cells := 0, slots := 0, locals := 0 }) (va_Pc [.ref (h 0)] (xPre (dC, dI) (wD_177 h cs gI gL gA gQ) (tysA cs) sz)) (va_Qv (fun (u : RS) => (True) ∧ u = (gI, gL, qA_210, gQ)) (xB (dC, dI) (tysA cs) (va_A (wD_177 h cs gI gL gA gQ) sz) (fun u : RS => wD_177 h cs u.1 u.2.1 u.2.2.1 u.2.2.2)) (va_A (wD_177 h cs gI gL gA gQ) sz)) 0 0 (va_A (wD_177 h cs gI gL gA gQ) sz) := by
  refine Met.ofW (cc := cX10_lay) (maxL := 3) (ret := none) (by decide) rfl ?_
  intro p e s m args below meth c s₁ B hml hv
  obtain ⟨rfl, hsz, hP, hK, hD0, hN⟩ := hv
  have hx := B.exec
  have hb := B.bytes
  have hr := B.returns
  have hts := atoms_spec (ws := wsX10_lay) B.pre
  have hown : s.vm.findClass RX10 = some m.cls := findClass_of_methodNamed B.named
  have hlocks := B.notSynchronized
  subst hsz
  have hD := hD0.self (sz := s.heap.size)
  generalize hAe : va_A (wD_177 h cs gI gL gA gQ) s.heap.size = A0 at hD ⊢
  have hA : ∀ q : Nat, s.heap.size ≤ q → A0 q := fun q h => by rw [← hAe]; exact Or.inr h
  have hl := lv_entry ([.ref (h 0)]) (n := 3) (Nat.le_of_ble_eq_true rfl)
  rw [lg_entry_eq]
  generalize (lg_sl ([.ref (h 0)]) ++ List.replicate (3 - (lg_sl ([.ref (h 0)])).length) Slot.unset).toArray = ls at hl ⊢
  have hl : lv_has ls 3 [(0, .ref (h 0))] := hl
  generalize hH : s.heap = H at hP ⊢
  have hS : va_S A0 s.heap H [] := by rw [← hH]; exact va_S.rf
  have hinX10 : ∀ w ∈ wsX100, w ∈ wsX10_lay := by decide +kernel
  refine lv_iconst (v := nI 0) hx hb dX10_lay_0 (by decide) ?_
  refine lv_istore_n (lv' := [(1, .int (nI 0)), (0, .ref (h 0))]) hx hb dX10_lay_1 rfl hl (by decide) rfl (fun ls hl => ?_)
  refine lv_iload_n hx hb dX10_lay_2 rfl (lv_at hl 0 rfl) ?_
  refine lv_iconst (v := nI 4) hx hb dX10_lay_3 (by decide) ?_
  refine lv_icmp_ge (tgt := 99) hx hb dX10_lay_4 (by decide) (fun c9 => False.elim (by revert c9; decide +kernel)) (fun _ => ?_)
  refine lv_iconst (v := nI 0) hx hb dX10_lay_7 (by decide) ?_
  refine lv_istore_n (lv' := [(2, .int (nI 0)), (1, .int (nI 0)), (0, .ref (h 0))]) hx hb dX10_lay_8 rfl hl (by decide) rfl (fun ls hl => ?_)
  refine lv_iload_n hx hb dX10_lay_9 rfl (lv_at hl 0 rfl) ?_
  refine lv_iconst (v := nI 5) hx hb dX10_lay_10 (by decide) ?_
  refine lv_icmp_ge (tgt := 60) hx hb dX10_lay_11 (by decide) (fun c9 => False.elim (by revert c9; decide +kernel)) (fun _ => ?_)
  refine lv_aload_n hx hb dX10_lay_14 rfl (lv_at hl 2 rfl) ?_
  refine va_get (D := (dC, dI)) (ci := 10) (v := .ref (h 17)) (C := RX10) (T := TX10) (N := 28) hx hb hts hinX10 hown hK hP 0 rfl rfl 17 (by decide) (hts (.fieldLink RX10 41 "MixedWordsModel" "cols" "[I") (by decide +kernel)) (fun _ h9 => h9) rfl dX10_lay_15 ?_
  refine lv_iconst (v := nI 5) hx hb dX10_lay_18 (by decide) ?_
  refine lv_iload_n hx hb dX10_lay_19 rfl (lv_at hl 1 rfl) ?_
  refine lv_imul hx hb dX10_lay_20 ?_
  refine xt_i (y := nI 0) (by decide +kernel) ?_
  refine lv_iload_n hx hb dX10_lay_21 rfl (lv_at hl 0 rfl) ?_
  refine lv_iadd hx hb dX10_lay_22 ?_
  refine xt_i (y := nI 0) (by decide +kernel) ?_
  refine lv_iload_n hx hb dX10_lay_23 rfl (lv_at hl 1 rfl) ?_
  refine lv_aload_n hx hb dX10_lay_24 rfl (lv_at hl 2 rfl) ?_
  refine va_get (D := (dC, dI)) (ci := 10) (v := .int (gI 1)) (C := RX10) (T := TX10) (N := 28) hx hb hts hinX10 hown hK hP 0 rfl rfl 1 (by decide) (hts (.fieldLink RX10 13 "MixedWordsModel" "columns" "I") (by decide +kernel)) (fun _ h9 => h9) rfl dX10_lay_25 ?_
  refine xt_i (y := nI 2) (by decide +kernel) ?_
  refine lv_icmp_ge (tgt := 52) hx hb dX10_lay_28 (by decide) (fun c9 => False.elim (by revert c9; decide +kernel)) (fun _ => ?_)
  refine lv_iload_n hx hb dX10_lay_31 rfl (lv_at hl 0 rfl) ?_
  refine lv_aload_n hx hb dX10_lay_32 rfl (lv_at hl 2 rfl) ?_
  refine va_get (D := (dC, dI)) (ci := 10) (v := .int (gI 0)) (C := RX10) (T := TX10) (N := 28) hx hb hts hinX10 hown hK hP 0 rfl rfl 0 (by decide) (hts (.fieldLink RX10 7 "MixedWordsModel" "rows" "I") (by decide +kernel)) (fun _ h9 => h9) rfl dX10_lay_33 ?_
  refine xt_i (y := nI 2) (by decide +kernel) ?_
  refine lv_icmp_ge (tgt := 52) hx hb dX10_lay_36 (by decide) (fun c9 => False.elim (by revert c9; decide +kernel)) (fun _ => ?_)
  refine lv_aload_n hx hb dX10_lay_39 rfl (lv_at hl 2 rfl) ?_
  refine va_get (D := (dC, dI)) (ci := 10) (v := .ref (h 3)) (C := RX10) (T := TX10) (N := 28) hx hb hts hinX10 hown hK hP 0 rfl rfl 3 (by decide) (hts (.fieldLink RX10 19 "MixedWordsModel" "told" "[I") (by decide +kernel)) (fun _ h9 => h9) rfl dX10_lay_40 ?_
  refine lv_iconst (v := nI 5) hx hb dX10_lay_43 (by decide) ?_
  refine lv_iload_n hx hb dX10_lay_44 rfl (lv_at hl 0 rfl) ?_
  refine lv_imul hx hb dX10_lay_45 ?_
  refine xt_i (y := nI 0) (by decide +kernel) ?_
  refine lv_iload_n hx hb dX10_lay_46 rfl (lv_at hl 1 rfl) ?_
  refine lv_iadd hx hb dX10_lay_47 ?_
  refine xt_i (y := nI 0) (by decide +kernel) ?_
  refine xa_iald hx hb hK hP 1 0 rfl rfl (by omega) (by decide) dX10_lay_48 ?_
  refine xt_i (y := nI 0) (by decide +kernel) ?_
  refine lv_goto (tgt := 53) hx hb dX10_lay_49 (by decide) ?_
  refine xa_iastS hx hb hK hP hD hS 8 0 rfl rfl (by omega) (by decide) (by decide +kernel) dX10_lay_53 (fun H locs hP hD hS => ?_)
  refine lv_iinc (v := nI 1) (lv' := [(2, .int (nI 1)), (1, .int (nI 0)), (0, .ref (h 0))]) hx hb dX10_lay_54 hl (k := 0) rfl (by decide +kernel) (by decide) rfl (fun ls hl => ?_)
  refine lv_goto (tgt := 9) hx hb dX10_lay_57 (by decide) ?_
  refine lv_iload_n hx hb dX10_lay_9 rfl (lv_at hl 0 rfl) ?_
  refine lv_iconst (v := nI 5) hx hb dX10_lay_10 (by decide) ?_
  refine lv_icmp_ge (tgt := 60) hx hb dX10_lay_11 (by decide) (fun c9 => False.elim (by revert c9; decide +kernel)) (fun _ => ?_)
  refine lv_aload_n hx hb dX10_lay_14 rfl (lv_at hl 2 rfl) ?_
  refine va_get (D := (dC, dI)) (ci := 10) (v := .ref (h 17)) (C := RX10) (T := TX10) (N := 28) hx hb hts hinX10 hown hK hP 0 rfl rfl 17 (by decide) (hts (.fieldLink RX10 41 "MixedWordsModel" "cols" "[I") (by decide +kernel)) (fun _ h9 => h9) rfl dX10_lay_15 ?_
  refine lv_iconst (v := nI 5) hx hb dX10_lay_18 (by decide) ?_
  refine lv_iload_n hx hb dX10_lay_19 rfl (lv_at hl 1 rfl) ?_
  refine lv_imul hx hb dX10_lay_20 ?_
  refine xt_i (y := nI 0) (by decide +kernel) ?_
  refine lv_iload_n hx hb dX10_lay_21 rfl (lv_at hl 0 rfl) ?_
  refine lv_iadd hx hb dX10_lay_22 ?_
  refine xt_i (y := nI 1) (by decide +kernel) ?_
  refine lv_iload_n hx hb dX10_lay_23 rfl (lv_at hl 1 rfl) ?_
  refine lv_aload_n hx hb dX10_lay_24 rfl (lv_at hl 2 rfl) ?_
  refine va_get (D := (dC, dI)) (ci := 10) (v := .int (gI 1)) (C := RX10) (T := TX10) (N := 28) hx hb hts hinX10 hown hK hP 0 rfl rfl 1 (by decide) (hts (.fieldLink RX10 13 "MixedWordsModel" "columns" "I") (by decide +kernel)) (fun _ h9 => h9) rfl dX10_lay_25 ?_
  refine xt_i (y := nI 2) (by decide +kernel) ?_
  refine lv_icmp_ge (tgt := 52) hx hb dX10_lay_28 (by decide) (fun c9 => False.elim (by revert c9; decide +kernel)) (fun _ => ?_)
  refine lv_iload_n hx hb dX10_lay_31 rfl (lv_at hl 0 rfl) ?_
  refine lv_aload_n hx hb dX10_lay_32 rfl (lv_at hl 2 rfl) ?_
  refine va_get (D := (dC, dI)) (ci := 10) (v := .int (gI 0)) (C := RX10) (T := TX10) (N := 28) hx hb hts hinX10 hown hK hP 0 rfl rfl 0 (by decide) (hts (.fieldLink RX10 7 "MixedWordsModel" "rows" "I") (by decide +kernel)) (fun _ h9 => h9) rfl dX10_lay_33 ?_
  refine xt_i (y := nI 2) (by decide +kernel) ?_
  refine lv_icmp_ge (tgt := 52) hx hb dX10_lay_36 (by decide) (fun c9 => False.elim (by revert c9; decide +kernel)) (fun _ => ?_)
  refine lv_aload_n hx hb dX10_lay_39 rfl (lv_at hl 2 rfl) ?_
  refine va_get (D := (dC, dI)) (ci := 10) (v := .ref (h 3)) (C := RX10) (T := TX10) (N := 28) hx hb hts hinX10 hown hK hP 0 rfl rfl 3 (by decide) (hts (.fieldLink RX10 19 "MixedWordsModel" "told" "[I") (by decide +kernel)) (fun _ h9 => h9) rfl dX10_lay_40 ?_
  refine lv_iconst (v := nI 5) hx hb dX10_lay_43 (by decide) ?_
  refine lv_iload_n hx hb dX10_lay_44 rfl (lv_at hl 0 rfl) ?_
  refine lv_imul hx hb dX10_lay_45 ?_
  refine xt_i (y := nI 5) (by decide +kernel) ?_
  refine lv_iload_n hx hb dX10_lay_46 rfl (lv_at hl 1 rfl) ?_
  refine lv_iadd hx hb dX10_lay_47 ?_
  refine xt_i (y := nI 5) (by decide +kernel) ?_
  refine xa_iald hx hb hK hP 1 0 rfl rfl (by omega) (by decide) dX10_lay_48 ?_
  refine xt_i (y := nI 0) (by decide +kernel) ?_
  refine lv_goto (tgt := 53) hx hb dX10_lay_49 (by decide) ?_
  refine xa_iastS hx hb hK hP hD hS 8 0 rfl rfl (by omega) (by decide) (by decide +kernel) dX10_lay_53 (fun H locs hP hD hS => ?_)
  refine lv_iinc (v := nI 2) (lv' := [(2, .int (nI 2)), (1, .int (nI 0)), (0, .ref (h 0))]) hx hb dX10_lay_54 hl (k := 0) rfl (by decide +kernel) (by decide) rfl (fun ls hl => ?_)
  refine lv_goto (tgt := 9) hx hb dX10_lay_57 (by decide) ?_
  refine lv_iload_n hx hb dX10_lay_9 rfl (lv_at hl 0 rfl) ?_
  refine lv_iconst (v := nI 5) hx hb dX10_lay_10 (by decide) ?_
  refine lv_icmp_ge (tgt := 60) hx hb dX10_lay_11 (by decide) (fun c9 => False.elim (by revert c9; decide +kernel)) (fun _ => ?_)
  refine lv_aload_n hx hb dX10_lay_14 rfl (lv_at hl 2 rfl) ?_
  refine va_get (D := (dC, dI)) (ci := 10) (v := .ref (h 17)) (C := RX10) (T := TX10) (N := 28) hx hb hts hinX10 hown hK hP 0 rfl rfl 17 (by decide) (hts (.fieldLink RX10 41 "MixedWordsModel" "cols" "[I") (by decide +kernel)) (fun _ h9 => h9) rfl dX10_lay_15 ?_
  refine lv_iconst (v := nI 5) hx hb dX10_lay_18 (by decide) ?_
  refine lv_iload_n hx hb dX10_lay_19 rfl (lv_at hl 1 rfl) ?_
  refine lv_imul hx hb dX10_lay_20 ?_
  refine xt_i (y := nI 0) (by decide +kernel) ?_
  refine lv_iload_n hx hb dX10_lay_21 rfl (lv_at hl 0 rfl) ?_
  refine lv_iadd hx hb dX10_lay_22 ?_
  refine xt_i (y := nI 2) (by decide +kernel) ?_
  refine lv_iload_n hx hb dX10_lay_23 rfl (lv_at hl 1 rfl) ?_
  refine lv_aload_n hx hb dX10_lay_24 rfl (lv_at hl 2 rfl) ?_
  refine va_get (D := (dC, dI)) (ci := 10) (v := .int (gI 1)) (C := RX10) (T := TX10) (N := 28) hx hb hts hinX10 hown hK hP 0 rfl rfl 1 (by decide) (hts (.fieldLink RX10 13 "MixedWordsModel" "columns" "I") (by decide +kernel)) (fun _ h9 => h9) rfl dX10_lay_25 ?_
  refine xt_i (y := nI 2) (by decide +kernel) ?_
  refine lv_icmp_ge (tgt := 52) hx hb dX10_lay_28 (by decide) (fun c9 => False.elim (by revert c9; decide +kernel)) (fun _ => ?_)
  refine lv_iload_n hx hb dX10_lay_31 rfl (lv_at hl 0 rfl) ?_
  refine lv_aload_n hx hb dX10_lay_32 rfl (lv_at hl 2 rfl) ?_
  refine va_get (D := (dC, dI)) (ci := 10) (v := .int (gI 0)) (C := RX10) (T := TX10) (N := 28) hx hb hts hinX10 hown hK hP 0 rfl rfl 0 (by decide) (hts (.fieldLink RX10 7 "MixedWordsModel" "rows" "I") (by decide +kernel)) (fun _ h9 => h9) rfl dX10_lay_33 ?_
  refine xt_i (y := nI 2) (by decide +kernel) ?_
  refine lv_icmp_ge (tgt := 52) hx hb dX10_lay_36 (by decide) (fun _ => ?_) (fun c9 => False.elim (by revert c9; decide +kernel))
  refine lv_iconst (v := nI 0) hx hb dX10_lay_52 (by decide) ?_
  refine xa_iastS hx hb hK hP hD hS 8 0 rfl rfl (by omega) (by decide) (by decide +kernel) dX10_lay_53 (fun H locs hP hD hS => ?_)
  refine lv_iinc (v := nI 3) (lv' := [(2, .int (nI 3)), (1, .int (nI 0)), (0, .ref (h 0))]) hx hb dX10_lay_54 hl (k := 0) rfl (by decide +kernel) (by decide) rfl (fun ls hl => ?_)
  refine lv_goto (tgt := 9) hx hb dX10_lay_57 (by decide) ?_
  refine lv_iload_n hx hb dX10_lay_9 rfl (lv_at hl 0 rfl) ?_
  refine lv_iconst (v := nI 5) hx hb dX10_lay_10 (by decide) ?_
  refine lv_icmp_ge (tgt := 60) hx hb dX10_lay_11 (by decide) (fun c9 => False.elim (by revert c9; decide +kernel)) (fun _ => ?_)
  refine lv_aload_n hx hb dX10_lay_14 rfl (lv_at hl 2 rfl) ?_
  refine va_get (D := (dC, dI)) (ci := 10) (v := .ref (h 17)) (C := RX10) (T := TX10) (N := 28) hx hb hts hinX10 hown hK hP 0 rfl rfl 17 (by decide) (hts (.fieldLink RX10 41 "MixedWordsModel" "cols" "[I") (by decide +kernel)) (fun _ h9 => h9) rfl dX10_lay_15 ?_
  refine lv_iconst (v := nI 5) hx hb dX10_lay_18 (by decide) ?_
  refine lv_iload_n hx hb dX10_lay_19 rfl (lv_at hl 1 rfl) ?_
  refine lv_imul hx hb dX10_lay_20 ?_
  refine xt_i (y := nI 0) (by decide +kernel) ?_
  refine lv_iload_n hx hb dX10_lay_21 rfl (lv_at hl 0 rfl) ?_
  refine lv_iadd hx hb dX10_lay_22 ?_
  refine xt_i (y := nI 3) (by decide +kernel) ?_
  refine lv_iload_n hx hb dX10_lay_23 rfl (lv_at hl 1 rfl) ?_
  refine lv_aload_n hx hb dX10_lay_24 rfl (lv_at hl 2 rfl) ?_
  refine va_get (D := (dC, dI)) (ci := 10) (v := .int (gI 1)) (C := RX10) (T := TX10) (N := 28) hx hb hts hinX10 hown hK hP 0 rfl rfl 1 (by decide) (hts (.fieldLink RX10 13 "MixedWordsModel" "columns" "I") (by decide +kernel)) (fun _ h9 => h9) rfl dX10_lay_25 ?_
  refine xt_i (y := nI 2) (by decide +kernel) ?_
  refine lv_icmp_ge (tgt := 52) hx hb dX10_lay_28 (by decide) (fun c9 => False.elim (by revert c9; decide +kernel)) (fun _ => ?_)
  refine lv_iload_n hx hb dX10_lay_31 rfl (lv_at hl 0 rfl) ?_
  refine lv_aload_n hx hb dX10_lay_32 rfl (lv_at hl 2 rfl) ?_
  refine va_get (D := (dC, dI)) (ci := 10) (v := .int (gI 0)) (C := RX10) (T := TX10) (N := 28) hx hb hts hinX10 hown hK hP 0 rfl rfl 0 (by decide) (hts (.fieldLink RX10 7 "MixedWordsModel" "rows" "I") (by decide +kernel)) (fun _ h9 => h9) rfl dX10_lay_33 ?_
  refine xt_i (y := nI 2) (by decide +kernel) ?_
  refine lv_icmp_ge (tgt := 52) hx hb dX10_lay_36 (by decide) (fun _ => ?_) (fun c9 => False.elim (by revert c9; decide +kernel))
  refine lv_iconst (v := nI 0) hx hb dX10_lay_52 (by decide) ?_
  refine xa_iastS hx hb hK hP hD hS 8 0 rfl rfl (by omega) (by decide) (by decide +kernel) dX10_lay_53 (fun H locs hP hD hS => ?_)
  refine lv_iinc (v := nI 4) (lv' := [(2, .int (nI 4)), (1, .int (nI 0)), (0, .ref (h 0))]) hx hb dX10_lay_54 hl (k := 0) rfl (by decide +kernel) (by decide) rfl (fun ls hl => ?_)
  refine lv_goto (tgt := 9) hx hb dX10_lay_57 (by decide) ?_
  refine lv_iload_n hx hb dX10_lay_9 rfl (lv_at hl 0 rfl) ?_
  refine lv_iconst (v := nI 5) hx hb dX10_lay_10 (by decide) ?_
  refine lv_icmp_ge (tgt := 60) hx hb dX10_lay_11 (by decide) (fun c9 => False.elim (by revert c9; decide +kernel)) (fun _ => ?_)
  refine lv_aload_n hx hb dX10_lay_14 rfl (lv_at hl 2 rfl) ?_
  refine va_get (D := (dC, dI)) (ci := 10) (v := .ref (h 17)) (C := RX10) (T := TX10) (N := 28) hx hb hts hinX10 hown hK hP 0 rfl rfl 17 (by decide) (hts (.fieldLink RX10 41 "MixedWordsModel" "cols" "[I") (by decide +kernel)) (fun _ h9 => h9) rfl dX10_lay_15 ?_
  refine lv_iconst (v := nI 5) hx hb dX10_lay_18 (by decide) ?_
  refine lv_iload_n hx hb dX10_lay_19 rfl (lv_at hl 1 rfl) ?_
  refine lv_imul hx hb dX10_lay_20 ?_
  refine xt_i (y := nI 0) (by decide +kernel) ?_
  refine lv_iload_n hx hb dX10_lay_21 rfl (lv_at hl 0 rfl) ?_
  refine lv_iadd hx hb dX10_lay_22 ?_
  refine xt_i (y := nI 4) (by decide +kernel) ?_
  refine lv_iload_n hx hb dX10_lay_23 rfl (lv_at hl 1 rfl) ?_
  refine lv_aload_n hx hb dX10_lay_24 rfl (lv_at hl 2 rfl) ?_
  refine va_get (D := (dC, dI)) (ci := 10) (v := .int (gI 1)) (C := RX10) (T := TX10) (N := 28) hx hb hts hinX10 hown hK hP 0 rfl rfl 1 (by decide) (hts (.fieldLink RX10 13 "MixedWordsModel" "columns" "I") (by decide +kernel)) (fun _ h9 => h9) rfl dX10_lay_25 ?_
  refine xt_i (y := nI 2) (by decide +kernel) ?_
  refine lv_icmp_ge (tgt := 52) hx hb dX10_lay_28 (by decide) (fun c9 => False.elim (by revert c9; decide +kernel)) (fun _ => ?_)
  refine lv_iload_n hx hb dX10_lay_31 rfl (lv_at hl 0 rfl) ?_
  refine lv_aload_n hx hb dX10_lay_32 rfl (lv_at hl 2 rfl) ?_
  refine va_get (D := (dC, dI)) (ci := 10) (v := .int (gI 0)) (C := RX10) (T := TX10) (N := 28) hx hb hts hinX10 hown hK hP 0 rfl rfl 0 (by decide) (hts (.fieldLink RX10 7 "MixedWordsModel" "rows" "I") (by decide +kernel)) (fun _ h9 => h9) rfl dX10_lay_33 ?_
  refine xt_i (y := nI 2) (by decide +kernel) ?_
  refine lv_icmp_ge (tgt := 52) hx hb dX10_lay_36 (by decide) (fun _ => ?_) (fun c9 => False.elim (by revert c9; decide +kernel))
  refine lv_iconst (v := nI 0) hx hb dX10_lay_52 (by decide) ?_
  refine xa_iastS hx hb hK hP hD hS 8 0 rfl rfl (by omega) (by decide) (by decide +kernel) dX10_lay_53 (fun H locs hP hD hS => ?_)
  refine lv_iinc (v := nI 5) (lv' := [(2, .int (nI 5)), (1, .int (nI 0)), (0, .ref (h 0))]) hx hb dX10_lay_54 hl (k := 0) rfl (by decide +kernel) (by decide) rfl (fun ls hl => ?_)
  refine lv_goto (tgt := 9) hx hb dX10_lay_57 (by decide) ?_
  refine lv_iload_n hx hb dX10_lay_9 rfl (lv_at hl 0 rfl) ?_
  refine lv_iconst (v := nI 5) hx hb dX10_lay_10 (by decide) ?_
  refine lv_icmp_ge (tgt := 60) hx hb dX10_lay_11 (by decide) (fun _ => ?_) (fun c9 => False.elim (by revert c9; decide +kernel))
  refine lv_iconst (v := nI 0) hx hb dX10_lay_60 (by decide) ?_
  refine lv_istore_n (lv' := [(2, .int (nI 0)), (1, .int (nI 0)), (0, .ref (h 0))]) hx hb dX10_lay_61 rfl hl (by decide) rfl (fun ls hl => ?_)
  refine lv_iload_n hx hb dX10_lay_62 rfl (lv_at hl 0 rfl) ?_
  refine lv_iconst (v := nI 4) hx hb dX10_lay_63 (by decide) ?_
  refine lv_icmp_ge (tgt := 93) hx hb dX10_lay_64 (by decide) (fun c9 => False.elim (by revert c9; decide +kernel)) (fun _ => ?_)
  refine lv_aload_n hx hb dX10_lay_67 rfl (lv_at hl 2 rfl) ?_
  refine va_get (D := (dC, dI)) (ci := 10) (v := .ref (h 18)) (C := RX10) (T := TX10) (N := 28) hx hb hts hinX10 hown hK hP 0 rfl rfl 18 (by decide) (hts (.fieldLink RX10 44 "MixedWordsModel" "trans" "[I") (by decide +kernel)) (fun _ h9 => h9) rfl dX10_lay_68 ?_
  refine lv_iconst (v := nI 4) hx hb dX10_lay_71 (by decide) ?_
  refine lv_iload_n hx hb dX10_lay_72 rfl (lv_at hl 0 rfl) ?_
  refine lv_imul hx hb dX10_lay_73 ?_
  refine xt_i (y := nI 0) (by decide +kernel) ?_
  refine lv_iload_n hx hb dX10_lay_74 rfl (lv_at hl 1 rfl) ?_
  refine lv_iadd hx hb dX10_lay_75 ?_
  refine xt_i (y := nI 0) (by decide +kernel) ?_
  refine lv_iload_n hx hb dX10_lay_76 rfl (lv_at hl 0 rfl) ?_
  refine lv_iload_n hx hb dX10_lay_77 rfl (lv_at hl 1 rfl) ?_
  refine lv_icmp_ne (tgt := 85) hx hb dX10_lay_78 (by decide) (fun c9 => False.elim (by revert c9; decide +kernel)) (fun _ => ?_)
  refine lv_iconst (v := nI 1) hx hb dX10_lay_81 (by decide) ?_
  refine lv_goto (tgt := 86) hx hb dX10_lay_82 (by decide) ?_
  refine xa_iast hx hb hK hP hD hS 9 0 rfl rfl (by omega) (by decide) dX10_lay_86 (fun H locs hP hD hS => ?_)
  have hP : va_P (dC, dI) vwCl (wD_177 h cs gI gL (va_up gA 18 (upd (gA 18) 0 (nI 1))) gQ) H := hP
  have hD : va_D A0 (wD_177 h cs gI gL (va_up gA 18 (upd (gA 18) 0 (nI 1))) gQ) := hD
  refine lv_iinc (v := nI 1) (lv' := [(2, .int (nI 1)), (1, .int (nI 0)), (0, .ref (h 0))]) hx hb dX10_lay_87 hl (k := 0) rfl (by decide +kernel) (by decide) rfl (fun ls hl => ?_)
  refine lv_goto (tgt := 62) hx hb dX10_lay_90 (by decide) ?_
  refine lv_iload_n hx hb dX10_lay_62 rfl (lv_at hl 0 rfl) ?_
  refine lv_iconst (v := nI 4) hx hb dX10_lay_63 (by decide) ?_
  refine lv_icmp_ge (tgt := 93) hx hb dX10_lay_64 (by decide) (fun c9 => False.elim (by revert c9; decide +kernel)) (fun _ => ?_)
  refine lv_aload_n hx hb dX10_lay_67 rfl (lv_at hl 2 rfl) ?_
  refine va_get (D := (dC, dI)) (ci := 10) (v := .ref (h 18)) (C := RX10) (T := TX10) (N := 28) hx hb hts hinX10 hown hK hP 0 rfl rfl 18 (by decide) (hts (.fieldLink RX10 44 "MixedWordsModel" "trans" "[I") (by decide +kernel)) (fun _ h9 => h9) rfl dX10_lay_68 ?_
  refine lv_iconst (v := nI 4) hx hb dX10_lay_71 (by decide) ?_
  refine lv_iload_n hx hb dX10_lay_72 rfl (lv_at hl 0 rfl) ?_
  refine lv_imul hx hb dX10_lay_73 ?_
  refine xt_i (y := nI 4) (by decide +kernel) ?_
  refine lv_iload_n hx hb dX10_lay_74 rfl (lv_at hl 1 rfl) ?_
  refine lv_iadd hx hb dX10_lay_75 ?_
  refine xt_i (y := nI 4) (by decide +kernel) ?_
  refine lv_iload_n hx hb dX10_lay_76 rfl (lv_at hl 0 rfl) ?_
  refine lv_iload_n hx hb dX10_lay_77 rfl (lv_at hl 1 rfl) ?_
  refine lv_icmp_ne (tgt := 85) hx hb dX10_lay_78 (by decide) (fun _ => ?_) (fun c9 => False.elim (by revert c9; decide +kernel))
  refine lv_iconst (v := nI 0) hx hb dX10_lay_85 (by decide) ?_
  refine xa_iastS hx hb hK hP hD hS 9 0 rfl rfl (by omega) (by decide) (by decide +kernel) dX10_lay_86 (fun H locs hP hD hS => ?_)
  refine lv_iinc (v := nI 2) (lv' := [(2, .int (nI 2)), (1, .int (nI 0)), (0, .ref (h 0))]) hx hb dX10_lay_87 hl (k := 0) rfl (by decide +kernel) (by decide) rfl (fun ls hl => ?_)
  refine lv_goto (tgt := 62) hx hb dX10_lay_90 (by decide) ?_
  refine lv_iload_n hx hb dX10_lay_62 rfl (lv_at hl 0 rfl) ?_
  refine lv_iconst (v := nI 4) hx hb dX10_lay_63 (by decide) ?_
  refine lv_icmp_ge (tgt := 93) hx hb dX10_lay_64 (by decide) (fun c9 => False.elim (by revert c9; decide +kernel)) (fun _ => ?_)
  refine lv_aload_n hx hb dX10_lay_67 rfl (lv_at hl 2 rfl) ?_
  refine va_get (D := (dC, dI)) (ci := 10) (v := .ref (h 18)) (C := RX10) (T := TX10) (N := 28) hx hb hts hinX10 hown hK hP 0 rfl rfl 18 (by decide) (hts (.fieldLink RX10 44 "MixedWordsModel" "trans" "[I") (by decide +kernel)) (fun _ h9 => h9) rfl dX10_lay_68 ?_
  refine lv_iconst (v := nI 4) hx hb dX10_lay_71 (by decide) ?_
  refine lv_iload_n hx hb dX10_lay_72 rfl (lv_at hl 0 rfl) ?_
  refine lv_imul hx hb dX10_lay_73 ?_
  refine xt_i (y := nI 8) (by decide +kernel) ?_
  refine lv_iload_n hx hb dX10_lay_74 rfl (lv_at hl 1 rfl) ?_
  refine lv_iadd hx hb dX10_lay_75 ?_
  refine xt_i (y := nI 8) (by decide +kernel) ?_
  refine lv_iload_n hx hb dX10_lay_76 rfl (lv_at hl 0 rfl) ?_
  refine lv_iload_n hx hb dX10_lay_77 rfl (lv_at hl 1 rfl) ?_
  refine lv_icmp_ne (tgt := 85) hx hb dX10_lay_78 (by decide) (fun _ => ?_) (fun c9 => False.elim (by revert c9; decide +kernel))
  refine lv_iconst (v := nI 0) hx hb dX10_lay_85 (by decide) ?_
  refine xa_iastS hx hb hK hP hD hS 9 0 rfl rfl (by omega) (by decide) (by decide +kernel) dX10_lay_86 (fun H locs hP hD hS => ?_)
  refine lv_iinc (v := nI 3) (lv' := [(2, .int (nI 3)), (1, .int (nI 0)), (0, .ref (h 0))]) hx hb dX10_lay_87 hl (k := 0) rfl (by decide +kernel) (by decide) rfl (fun ls hl => ?_)
  refine lv_goto (tgt := 62) hx hb dX10_lay_90 (by decide) ?_
  refine lv_iload_n hx hb dX10_lay_62 rfl (lv_at hl 0 rfl) ?_
  refine lv_iconst (v := nI 4) hx hb dX10_lay_63 (by decide) ?_
  refine lv_icmp_ge (tgt := 93) hx hb dX10_lay_64 (by decide) (fun c9 => False.elim (by revert c9; decide +kernel)) (fun _ => ?_)
  refine lv_aload_n hx hb dX10_lay_67 rfl (lv_at hl 2 rfl) ?_
  refine va_get (D := (dC, dI)) (ci := 10) (v := .ref (h 18)) (C := RX10) (T := TX10) (N := 28) hx hb hts hinX10 hown hK hP 0 rfl rfl 18 (by decide) (hts (.fieldLink RX10 44 "MixedWordsModel" "trans" "[I") (by decide +kernel)) (fun _ h9 => h9) rfl dX10_lay_68 ?_
  refine lv_iconst (v := nI 4) hx hb dX10_lay_71 (by decide) ?_
  refine lv_iload_n hx hb dX10_lay_72 rfl (lv_at hl 0 rfl) ?_
  refine lv_imul hx hb dX10_lay_73 ?_
  refine xt_i (y := nI 12) (by decide +kernel) ?_
  refine lv_iload_n hx hb dX10_lay_74 rfl (lv_at hl 1 rfl) ?_
  refine lv_iadd hx hb dX10_lay_75 ?_
  refine xt_i (y := nI 12) (by decide +kernel) ?_
  refine lv_iload_n hx hb dX10_lay_76 rfl (lv_at hl 0 rfl) ?_
  refine lv_iload_n hx hb dX10_lay_77 rfl (lv_at hl 1 rfl) ?_
  refine lv_icmp_ne (tgt := 85) hx hb dX10_lay_78 (by decide) (fun _ => ?_) (fun c9 => False.elim (by revert c9; decide +kernel))
  refine lv_iconst (v := nI 0) hx hb dX10_lay_85 (by decide) ?_
  refine xa_iastS hx hb hK hP hD hS 9 0 rfl rfl (by omega) (by decide) (by decide +kernel) dX10_lay_86 (fun H locs hP hD hS => ?_)
  refine lv_iinc (v := nI 4) (lv' := [(2, .int (nI 4)), (1, .int (nI 0)), (0, .ref (h 0))]) hx hb dX10_lay_87 hl (k := 0) rfl (by decide +kernel) (by decide) rfl (fun ls hl => ?_)
  refine lv_goto (tgt := 62) hx hb dX10_lay_90 (by decide) ?_
  refine lv_iload_n hx hb dX10_lay_62 rfl (lv_at hl 0 rfl) ?_
  refine lv_iconst (v := nI 4) hx hb dX10_lay_63 (by decide) ?_
  refine lv_icmp_ge (tgt := 93) hx hb dX10_lay_64 (by decide) (fun _ => ?_) (fun c9 => False.elim (by revert c9; decide +kernel))
  refine lv_iinc (v := nI 1) (lv' := [(1, .int (nI 1)), (2, .int (nI 4)), (0, .ref (h 0))]) hx hb dX10_lay_93 hl (k := 1) rfl (by decide +kernel) (by decide) rfl (fun ls hl => ?_)
  refine lv_goto (tgt := 2) hx hb dX10_lay_96 (by decide) ?_
  refine lv_iload_n hx hb dX10_lay_2 rfl (lv_at hl 0 rfl) ?_
  refine lv_iconst (v := nI 4) hx hb dX10_lay_3 (by decide) ?_
  refine lv_icmp_ge (tgt := 99) hx hb dX10_lay_4 (by decide) (fun c9 => False.elim (by revert c9; decide +kernel)) (fun _ => ?_)
  refine lv_iconst (v := nI 0) hx hb dX10_lay_7 (by decide) ?_
  refine lv_istore_n (lv' := [(2, .int (nI 0)), (1, .int (nI 1)), (0, .ref (h 0))]) hx hb dX10_lay_8 rfl hl (by decide) rfl (fun ls hl => ?_)
  refine lv_iload_n hx hb dX10_lay_9 rfl (lv_at hl 0 rfl) ?_
  refine lv_iconst (v := nI 5) hx hb dX10_lay_10 (by decide) ?_
  refine lv_icmp_ge (tgt := 60) hx hb dX10_lay_11 (by decide) (fun c9 => False.elim (by revert c9; decide +kernel)) (fun _ => ?_)
  refine lv_aload_n hx hb dX10_lay_14 rfl (lv_at hl 2 rfl) ?_
  refine va_get (D := (dC, dI)) (ci := 10) (v := .ref (h 17)) (C := RX10) (T := TX10) (N := 28) hx hb hts hinX10 hown hK hP 0 rfl rfl 17 (by decide) (hts (.fieldLink RX10 41 "MixedWordsModel" "cols" "[I") (by decide +kernel)) (fun _ h9 => h9) rfl dX10_lay_15 ?_
  refine lv_iconst (v := nI 5) hx hb dX10_lay_18 (by decide) ?_
  refine lv_iload_n hx hb dX10_lay_19 rfl (lv_at hl 1 rfl) ?_
  refine lv_imul hx hb dX10_lay_20 ?_
  refine xt_i (y := nI 5) (by decide +kernel) ?_
  refine lv_iload_n hx hb dX10_lay_21 rfl (lv_at hl 0 rfl) ?_
  refine lv_iadd hx hb dX10_lay_22 ?_
  refine xt_i (y := nI 5) (by decide +kernel) ?_
  refine lv_iload_n hx hb dX10_lay_23 rfl (lv_at hl 1 rfl) ?_
  refine lv_aload_n hx hb dX10_lay_24 rfl (lv_at hl 2 rfl) ?_
  refine va_get (D := (dC, dI)) (ci := 10) (v := .int (gI 1)) (C := RX10) (T := TX10) (N := 28) hx hb hts hinX10 hown hK hP 0 rfl rfl 1 (by decide) (hts (.fieldLink RX10 13 "MixedWordsModel" "columns" "I") (by decide +kernel)) (fun _ h9 => h9) rfl dX10_lay_25 ?_
  refine xt_i (y := nI 2) (by decide +kernel) ?_
  refine lv_icmp_ge (tgt := 52) hx hb dX10_lay_28 (by decide) (fun c9 => False.elim (by revert c9; decide +kernel)) (fun _ => ?_)
  refine lv_iload_n hx hb dX10_lay_31 rfl (lv_at hl 0 rfl) ?_
  refine lv_aload_n hx hb dX10_lay_32 rfl (lv_at hl 2 rfl) ?_
  refine va_get (D := (dC, dI)) (ci := 10) (v := .int (gI 0)) (C := RX10) (T := TX10) (N := 28) hx hb hts hinX10 hown hK hP 0 rfl rfl 0 (by decide) (hts (.fieldLink RX10 7 "MixedWordsModel" "rows" "I") (by decide +kernel)) (fun _ h9 => h9) rfl dX10_lay_33 ?_
  refine xt_i (y := nI 2) (by decide +kernel) ?_
  refine lv_icmp_ge (tgt := 52) hx hb dX10_lay_36 (by decide) (fun c9 => False.elim (by revert c9; decide +kernel)) (fun _ => ?_)
  refine lv_aload_n hx hb dX10_lay_39 rfl (lv_at hl 2 rfl) ?_
  refine va_get (D := (dC, dI)) (ci := 10) (v := .ref (h 3)) (C := RX10) (T := TX10) (N := 28) hx hb hts hinX10 hown hK hP 0 rfl rfl 3 (by decide) (hts (.fieldLink RX10 19 "MixedWordsModel" "told" "[I") (by decide +kernel)) (fun _ h9 => h9) rfl dX10_lay_40 ?_
  refine lv_iconst (v := nI 5) hx hb dX10_lay_43 (by decide) ?_
  refine lv_iload_n hx hb dX10_lay_44 rfl (lv_at hl 0 rfl) ?_
  refine lv_imul hx hb dX10_lay_45 ?_
  refine xt_i (y := nI 0) (by decide +kernel) ?_
  refine lv_iload_n hx hb dX10_lay_46 rfl (lv_at hl 1 rfl) ?_
  refine lv_iadd hx hb dX10_lay_47 ?_
  refine xt_i (y := nI 1) (by decide +kernel) ?_
  refine xa_iald hx hb hK hP 1 0 rfl rfl (by omega) (by decide) dX10_lay_48 ?_
  refine xt_i (y := nI 0) (by decide +kernel) ?_
  refine lv_goto (tgt := 53) hx hb dX10_lay_49 (by decide) ?_
  refine xa_iastS hx hb hK hP hD hS 8 0 rfl rfl (by omega) (by decide) (by decide +kernel) dX10_lay_53 (fun H locs hP hD hS => ?_)
  refine lv_iinc (v := nI 1) (lv' := [(2, .int (nI 1)), (1, .int (nI 1)), (0, .ref (h 0))]) hx hb dX10_lay_54 hl (k := 0) rfl (by decide +kernel) (by decide) rfl (fun ls hl => ?_)
  refine lv_goto (tgt := 9) hx hb dX10_lay_57 (by decide) ?_
  refine lv_iload_n hx hb dX10_lay_9 rfl (lv_at hl 0 rfl) ?_
  refine lv_iconst (v := nI 5) hx hb dX10_lay_10 (by decide) ?_
  refine lv_icmp_ge (tgt := 60) hx hb dX10_lay_11 (by decide) (fun c9 => False.elim (by revert c9; decide +kernel)) (fun _ => ?_)
  refine lv_aload_n hx hb dX10_lay_14 rfl (lv_at hl 2 rfl) ?_
  refine va_get (D := (dC, dI)) (ci := 10) (v := .ref (h 17)) (C := RX10) (T := TX10) (N := 28) hx hb hts hinX10 hown hK hP 0 rfl rfl 17 (by decide) (hts (.fieldLink RX10 41 "MixedWordsModel" "cols" "[I") (by decide +kernel)) (fun _ h9 => h9) rfl dX10_lay_15 ?_
  refine lv_iconst (v := nI 5) hx hb dX10_lay_18 (by decide) ?_
  refine lv_iload_n hx hb dX10_lay_19 rfl (lv_at hl 1 rfl) ?_
  refine lv_imul hx hb dX10_lay_20 ?_
  refine xt_i (y := nI 5) (by decide +kernel) ?_
  refine lv_iload_n hx hb dX10_lay_21 rfl (lv_at hl 0 rfl) ?_
  refine lv_iadd hx hb dX10_lay_22 ?_
  refine xt_i (y := nI 6) (by decide +kernel) ?_
  refine lv_iload_n hx hb dX10_lay_23 rfl (lv_at hl 1 rfl) ?_
  refine lv_aload_n hx hb dX10_lay_24 rfl (lv_at hl 2 rfl) ?_
  refine va_get (D := (dC, dI)) (ci := 10) (v := .int (gI 1)) (C := RX10) (T := TX10) (N := 28) hx hb hts hinX10 hown hK hP 0 rfl rfl 1 (by decide) (hts (.fieldLink RX10 13 "MixedWordsModel" "columns" "I") (by decide +kernel)) (fun _ h9 => h9) rfl dX10_lay_25 ?_
  refine xt_i (y := nI 2) (by decide +kernel) ?_
  refine lv_icmp_ge (tgt := 52) hx hb dX10_lay_28 (by decide) (fun c9 => False.elim (by revert c9; decide +kernel)) (fun _ => ?_)
  refine lv_iload_n hx hb dX10_lay_31 rfl (lv_at hl 0 rfl) ?_
  refine lv_aload_n hx hb dX10_lay_32 rfl (lv_at hl 2 rfl) ?_
  refine va_get (D := (dC, dI)) (ci := 10) (v := .int (gI 0)) (C := RX10) (T := TX10) (N := 28) hx hb hts hinX10 hown hK hP 0 rfl rfl 0 (by decide) (hts (.fieldLink RX10 7 "MixedWordsModel" "rows" "I") (by decide +kernel)) (fun _ h9 => h9) rfl dX10_lay_33 ?_
  refine xt_i (y := nI 2) (by decide +kernel) ?_
  refine lv_icmp_ge (tgt := 52) hx hb dX10_lay_36 (by decide) (fun c9 => False.elim (by revert c9; decide +kernel)) (fun _ => ?_)
  refine lv_aload_n hx hb dX10_lay_39 rfl (lv_at hl 2 rfl) ?_
  refine va_get (D := (dC, dI)) (ci := 10) (v := .ref (h 3)) (C := RX10) (T := TX10) (N := 28) hx hb hts hinX10 hown hK hP 0 rfl rfl 3 (by decide) (hts (.fieldLink RX10 19 "MixedWordsModel" "told" "[I") (by decide +kernel)) (fun _ h9 => h9) rfl dX10_lay_40 ?_
  refine lv_iconst (v := nI 5) hx hb dX10_lay_43 (by decide) ?_
  refine lv_iload_n hx hb dX10_lay_44 rfl (lv_at hl 0 rfl) ?_
  refine lv_imul hx hb dX10_lay_45 ?_
  refine xt_i (y := nI 5) (by decide +kernel) ?_
  refine lv_iload_n hx hb dX10_lay_46 rfl (lv_at hl 1 rfl) ?_
  refine lv_iadd hx hb dX10_lay_47 ?_
  refine xt_i (y := nI 6) (by decide +kernel) ?_
  refine xa_iald hx hb hK hP 1 0 rfl rfl (by omega) (by decide) dX10_lay_48 ?_
  refine xt_i (y := nI 0) (by decide +kernel) ?_
  refine lv_goto (tgt := 53) hx hb dX10_lay_49 (by decide) ?_
  refine xa_iastS hx hb hK hP hD hS 8 0 rfl rfl (by omega) (by decide) (by decide +kernel) dX10_lay_53 (fun H locs hP hD hS => ?_)
  refine lv_iinc (v := nI 2) (lv' := [(2, .int (nI 2)), (1, .int (nI 1)), (0, .ref (h 0))]) hx hb dX10_lay_54 hl (k := 0) rfl (by decide +kernel) (by decide) rfl (fun ls hl => ?_)
  refine lv_goto (tgt := 9) hx hb dX10_lay_57 (by decide) ?_
  refine lv_iload_n hx hb dX10_lay_9 rfl (lv_at hl 0 rfl) ?_
  refine lv_iconst (v := nI 5) hx hb dX10_lay_10 (by decide) ?_
  refine lv_icmp_ge (tgt := 60) hx hb dX10_lay_11 (by decide) (fun c9 => False.elim (by revert c9; decide +kernel)) (fun _ => ?_)
  refine lv_aload_n hx hb dX10_lay_14 rfl (lv_at hl 2 rfl) ?_
  refine va_get (D := (dC, dI)) (ci := 10) (v := .ref (h 17)) (C := RX10) (T := TX10) (N := 28) hx hb hts hinX10 hown hK hP 0 rfl rfl 17 (by decide) (hts (.fieldLink RX10 41 "MixedWordsModel" "cols" "[I") (by decide +kernel)) (fun _ h9 => h9) rfl dX10_lay_15 ?_
  refine lv_iconst (v := nI 5) hx hb dX10_lay_18 (by decide) ?_
  refine lv_iload_n hx hb dX10_lay_19 rfl (lv_at hl 1 rfl) ?_
  refine lv_imul hx hb dX10_lay_20 ?_
  refine xt_i (y := nI 5) (by decide +kernel) ?_
  refine lv_iload_n hx hb dX10_lay_21 rfl (lv_at hl 0 rfl) ?_
  refine lv_iadd hx hb dX10_lay_22 ?_
  refine xt_i (y := nI 7) (by decide +kernel) ?_
  refine lv_iload_n hx hb dX10_lay_23 rfl (lv_at hl 1 rfl) ?_
  refine lv_aload_n hx hb dX10_lay_24 rfl (lv_at hl 2 rfl) ?_
  refine va_get (D := (dC, dI)) (ci := 10) (v := .int (gI 1)) (C := RX10) (T := TX10) (N := 28) hx hb hts hinX10 hown hK hP 0 rfl rfl 1 (by decide) (hts (.fieldLink RX10 13 "MixedWordsModel" "columns" "I") (by decide +kernel)) (fun _ h9 => h9) rfl dX10_lay_25 ?_
  refine xt_i (y := nI 2) (by decide +kernel) ?_
  refine lv_icmp_ge (tgt := 52) hx hb dX10_lay_28 (by decide) (fun c9 => False.elim (by revert c9; decide +kernel)) (fun _ => ?_)
  refine lv_iload_n hx hb dX10_lay_31 rfl (lv_at hl 0 rfl) ?_
  refine lv_aload_n hx hb dX10_lay_32 rfl (lv_at hl 2 rfl) ?_
  refine va_get (D := (dC, dI)) (ci := 10) (v := .int (gI 0)) (C := RX10) (T := TX10) (N := 28) hx hb hts hinX10 hown hK hP 0 rfl rfl 0 (by decide) (hts (.fieldLink RX10 7 "MixedWordsModel" "rows" "I") (by decide +kernel)) (fun _ h9 => h9) rfl dX10_lay_33 ?_
  refine xt_i (y := nI 2) (by decide +kernel) ?_
  refine lv_icmp_ge (tgt := 52) hx hb dX10_lay_36 (by decide) (fun _ => ?_) (fun c9 => False.elim (by revert c9; decide +kernel))
  refine lv_iconst (v := nI 0) hx hb dX10_lay_52 (by decide) ?_
  refine xa_iastS hx hb hK hP hD hS 8 0 rfl rfl (by omega) (by decide) (by decide +kernel) dX10_lay_53 (fun H locs hP hD hS => ?_)
  refine lv_iinc (v := nI 3) (lv' := [(2, .int (nI 3)), (1, .int (nI 1)), (0, .ref (h 0))]) hx hb dX10_lay_54 hl (k := 0) rfl (by decide +kernel) (by decide) rfl (fun ls hl => ?_)
  refine lv_goto (tgt := 9) hx hb dX10_lay_57 (by decide) ?_
  refine lv_iload_n hx hb dX10_lay_9 rfl (lv_at hl 0 rfl) ?_
  refine lv_iconst (v := nI 5) hx hb dX10_lay_10 (by decide) ?_
  refine lv_icmp_ge (tgt := 60) hx hb dX10_lay_11 (by decide) (fun c9 => False.elim (by revert c9; decide +kernel)) (fun _ => ?_)
  refine lv_aload_n hx hb dX10_lay_14 rfl (lv_at hl 2 rfl) ?_
  refine va_get (D := (dC, dI)) (ci := 10) (v := .ref (h 17)) (C := RX10) (T := TX10) (N := 28) hx hb hts hinX10 hown hK hP 0 rfl rfl 17 (by decide) (hts (.fieldLink RX10 41 "MixedWordsModel" "cols" "[I") (by decide +kernel)) (fun _ h9 => h9) rfl dX10_lay_15 ?_
  refine lv_iconst (v := nI 5) hx hb dX10_lay_18 (by decide) ?_
  refine lv_iload_n hx hb dX10_lay_19 rfl (lv_at hl 1 rfl) ?_
  refine lv_imul hx hb dX10_lay_20 ?_
  refine xt_i (y := nI 5) (by decide +kernel) ?_
  refine lv_iload_n hx hb dX10_lay_21 rfl (lv_at hl 0 rfl) ?_
  refine lv_iadd hx hb dX10_lay_22 ?_
  refine xt_i (y := nI 8) (by decide +kernel) ?_
  refine lv_iload_n hx hb dX10_lay_23 rfl (lv_at hl 1 rfl) ?_
  refine lv_aload_n hx hb dX10_lay_24 rfl (lv_at hl 2 rfl) ?_
  refine va_get (D := (dC, dI)) (ci := 10) (v := .int (gI 1)) (C := RX10) (T := TX10) (N := 28) hx hb hts hinX10 hown hK hP 0 rfl rfl 1 (by decide) (hts (.fieldLink RX10 13 "MixedWordsModel" "columns" "I") (by decide +kernel)) (fun _ h9 => h9) rfl dX10_lay_25 ?_
  refine xt_i (y := nI 2) (by decide +kernel) ?_
  refine lv_icmp_ge (tgt := 52) hx hb dX10_lay_28 (by decide) (fun c9 => False.elim (by revert c9; decide +kernel)) (fun _ => ?_)
  refine lv_iload_n hx hb dX10_lay_31 rfl (lv_at hl 0 rfl) ?_
  refine lv_aload_n hx hb dX10_lay_32 rfl (lv_at hl 2 rfl) ?_
  refine va_get (D := (dC, dI)) (ci := 10) (v := .int (gI 0)) (C := RX10) (T := TX10) (N := 28) hx hb hts hinX10 hown hK hP 0 rfl rfl 0 (by decide) (hts (.fieldLink RX10 7 "MixedWordsModel" "rows" "I") (by decide +kernel)) (fun _ h9 => h9) rfl dX10_lay_33 ?_
  refine xt_i (y := nI 2) (by decide +kernel) ?_
  refine lv_icmp_ge (tgt := 52) hx hb dX10_lay_36 (by decide) (fun _ => ?_) (fun c9 => False.elim (by revert c9; decide +kernel))
  refine lv_iconst (v := nI 0) hx hb dX10_lay_52 (by decide) ?_
  refine xa_iastS hx hb hK hP hD hS 8 0 rfl rfl (by omega) (by decide) (by decide +kernel) dX10_lay_53 (fun H locs hP hD hS => ?_)
  refine lv_iinc (v := nI 4) (lv' := [(2, .int (nI 4)), (1, .int (nI 1)), (0, .ref (h 0))]) hx hb dX10_lay_54 hl (k := 0) rfl (by decide +kernel) (by decide) rfl (fun ls hl => ?_)
  refine lv_goto (tgt := 9) hx hb dX10_lay_57 (by decide) ?_
  refine lv_iload_n hx hb dX10_lay_9 rfl (lv_at hl 0 rfl) ?_
  refine lv_iconst (v := nI 5) hx hb dX10_lay_10 (by decide) ?_
  refine lv_icmp_ge (tgt := 60) hx hb dX10_lay_11 (by decide) (fun c9 => False.elim (by revert c9; decide +kernel)) (fun _ => ?_)
  refine lv_aload_n hx hb dX10_lay_14 rfl (lv_at hl 2 rfl) ?_
  refine va_get (D := (dC, dI)) (ci := 10) (v := .ref (h 17)) (C := RX10) (T := TX10) (N := 28) hx hb hts hinX10 hown hK hP 0 rfl rfl 17 (by decide) (hts (.fieldLink RX10 41 "MixedWordsModel" "cols" "[I") (by decide +kernel)) (fun _ h9 => h9) rfl dX10_lay_15 ?_
  refine lv_iconst (v := nI 5) hx hb dX10_lay_18 (by decide) ?_
  refine lv_iload_n hx hb dX10_lay_19 rfl (lv_at hl 1 rfl) ?_
  refine lv_imul hx hb dX10_lay_20 ?_
  refine xt_i (y := nI 5) (by decide +kernel) ?_
  refine lv_iload_n hx hb dX10_lay_21 rfl (lv_at hl 0 rfl) ?_
  refine lv_iadd hx hb dX10_lay_22 ?_
  refine xt_i (y := nI 9) (by decide +kernel) ?_
  refine lv_iload_n hx hb dX10_lay_23 rfl (lv_at hl 1 rfl) ?_
  refine lv_aload_n hx hb dX10_lay_24 rfl (lv_at hl 2 rfl) ?_
  refine va_get (D := (dC, dI)) (ci := 10) (v := .int (gI 1)) (C := RX10) (T := TX10) (N := 28) hx hb hts hinX10 hown hK hP 0 rfl rfl 1 (by decide) (hts (.fieldLink RX10 13 "MixedWordsModel" "columns" "I") (by decide +kernel)) (fun _ h9 => h9) rfl dX10_lay_25 ?_
  refine xt_i (y := nI 2) (by decide +kernel) ?_
  refine lv_icmp_ge (tgt := 52) hx hb dX10_lay_28 (by decide) (fun c9 => False.elim (by revert c9; decide +kernel)) (fun _ => ?_)
  refine lv_iload_n hx hb dX10_lay_31 rfl (lv_at hl 0 rfl) ?_
  refine lv_aload_n hx hb dX10_lay_32 rfl (lv_at hl 2 rfl) ?_
  refine va_get (D := (dC, dI)) (ci := 10) (v := .int (gI 0)) (C := RX10) (T := TX10) (N := 28) hx hb hts hinX10 hown hK hP 0 rfl rfl 0 (by decide) (hts (.fieldLink RX10 7 "MixedWordsModel" "rows" "I") (by decide +kernel)) (fun _ h9 => h9) rfl dX10_lay_33 ?_
  refine xt_i (y := nI 2) (by decide +kernel) ?_
  refine lv_icmp_ge (tgt := 52) hx hb dX10_lay_36 (by decide) (fun _ => ?_) (fun c9 => False.elim (by revert c9; decide +kernel))
  refine lv_iconst (v := nI 0) hx hb dX10_lay_52 (by decide) ?_
  refine xa_iastS hx hb hK hP hD hS 8 0 rfl rfl (by omega) (by decide) (by decide +kernel) dX10_lay_53 (fun H locs hP hD hS => ?_)
  refine lv_iinc (v := nI 5) (lv' := [(2, .int (nI 5)), (1, .int (nI 1)), (0, .ref (h 0))]) hx hb dX10_lay_54 hl (k := 0) rfl (by decide +kernel) (by decide) rfl (fun ls hl => ?_)
  refine lv_goto (tgt := 9) hx hb dX10_lay_57 (by decide) ?_
  refine lv_iload_n hx hb dX10_lay_9 rfl (lv_at hl 0 rfl) ?_
  refine lv_iconst (v := nI 5) hx hb dX10_lay_10 (by decide) ?_
  refine lv_icmp_ge (tgt := 60) hx hb dX10_lay_11 (by decide) (fun _ => ?_) (fun c9 => False.elim (by revert c9; decide +kernel))
  refine lv_iconst (v := nI 0) hx hb dX10_lay_60 (by decide) ?_
  refine lv_istore_n (lv' := [(2, .int (nI 0)), (1, .int (nI 1)), (0, .ref (h 0))]) hx hb dX10_lay_61 rfl hl (by decide) rfl (fun ls hl => ?_)
  refine lv_iload_n hx hb dX10_lay_62 rfl (lv_at hl 0 rfl) ?_
  refine lv_iconst (v := nI 4) hx hb dX10_lay_63 (by decide) ?_
  refine lv_icmp_ge (tgt := 93) hx hb dX10_lay_64 (by decide) (fun c9 => False.elim (by revert c9; decide +kernel)) (fun _ => ?_)
  refine lv_aload_n hx hb dX10_lay_67 rfl (lv_at hl 2 rfl) ?_
  refine va_get (D := (dC, dI)) (ci := 10) (v := .ref (h 18)) (C := RX10) (T := TX10) (N := 28) hx hb hts hinX10 hown hK hP 0 rfl rfl 18 (by decide) (hts (.fieldLink RX10 44 "MixedWordsModel" "trans" "[I") (by decide +kernel)) (fun _ h9 => h9) rfl dX10_lay_68 ?_
  refine lv_iconst (v := nI 4) hx hb dX10_lay_71 (by decide) ?_
  refine lv_iload_n hx hb dX10_lay_72 rfl (lv_at hl 0 rfl) ?_
  refine lv_imul hx hb dX10_lay_73 ?_
  refine xt_i (y := nI 0) (by decide +kernel) ?_
  refine lv_iload_n hx hb dX10_lay_74 rfl (lv_at hl 1 rfl) ?_
  refine lv_iadd hx hb dX10_lay_75 ?_
  refine xt_i (y := nI 1) (by decide +kernel) ?_
  refine lv_iload_n hx hb dX10_lay_76 rfl (lv_at hl 0 rfl) ?_
  refine lv_iload_n hx hb dX10_lay_77 rfl (lv_at hl 1 rfl) ?_
  refine lv_icmp_ne (tgt := 85) hx hb dX10_lay_78 (by decide) (fun _ => ?_) (fun c9 => False.elim (by revert c9; decide +kernel))
  refine lv_iconst (v := nI 0) hx hb dX10_lay_85 (by decide) ?_
  refine xa_iastS hx hb hK hP hD hS 9 0 rfl rfl (by omega) (by decide) (by decide +kernel) dX10_lay_86 (fun H locs hP hD hS => ?_)
  refine lv_iinc (v := nI 1) (lv' := [(2, .int (nI 1)), (1, .int (nI 1)), (0, .ref (h 0))]) hx hb dX10_lay_87 hl (k := 0) rfl (by decide +kernel) (by decide) rfl (fun ls hl => ?_)
  refine lv_goto (tgt := 62) hx hb dX10_lay_90 (by decide) ?_
  refine lv_iload_n hx hb dX10_lay_62 rfl (lv_at hl 0 rfl) ?_
  refine lv_iconst (v := nI 4) hx hb dX10_lay_63 (by decide) ?_
  refine lv_icmp_ge (tgt := 93) hx hb dX10_lay_64 (by decide) (fun c9 => False.elim (by revert c9; decide +kernel)) (fun _ => ?_)
  refine lv_aload_n hx hb dX10_lay_67 rfl (lv_at hl 2 rfl) ?_
  refine va_get (D := (dC, dI)) (ci := 10) (v := .ref (h 18)) (C := RX10) (T := TX10) (N := 28) hx hb hts hinX10 hown hK hP 0 rfl rfl 18 (by decide) (hts (.fieldLink RX10 44 "MixedWordsModel" "trans" "[I") (by decide +kernel)) (fun _ h9 => h9) rfl dX10_lay_68 ?_
  refine lv_iconst (v := nI 4) hx hb dX10_lay_71 (by decide) ?_
  refine lv_iload_n hx hb dX10_lay_72 rfl (lv_at hl 0 rfl) ?_
  refine lv_imul hx hb dX10_lay_73 ?_
  refine xt_i (y := nI 4) (by decide +kernel) ?_
  refine lv_iload_n hx hb dX10_lay_74 rfl (lv_at hl 1 rfl) ?_
  refine lv_iadd hx hb dX10_lay_75 ?_
  refine xt_i (y := nI 5) (by decide +kernel) ?_
  refine lv_iload_n hx hb dX10_lay_76 rfl (lv_at hl 0 rfl) ?_
  refine lv_iload_n hx hb dX10_lay_77 rfl (lv_at hl 1 rfl) ?_
  refine lv_icmp_ne (tgt := 85) hx hb dX10_lay_78 (by decide) (fun c9 => False.elim (by revert c9; decide +kernel)) (fun _ => ?_)
  refine lv_iconst (v := nI 1) hx hb dX10_lay_81 (by decide) ?_
  refine lv_goto (tgt := 86) hx hb dX10_lay_82 (by decide) ?_
  refine xa_iast hx hb hK hP hD hS 9 0 rfl rfl (by omega) (by decide) dX10_lay_86 (fun H locs hP hD hS => ?_)
  have hP : va_P (dC, dI) vwCl (wD_177 h cs gI gL (va_up gA 18 (upd (upd (gA 18) 0 (nI 1)) 5 (nI 1))) gQ) H := hP
  have hD : va_D A0 (wD_177 h cs gI gL (va_up gA 18 (upd (upd (gA 18) 0 (nI 1)) 5 (nI 1))) gQ) := hD
  refine lv_iinc (v := nI 2) (lv' := [(2, .int (nI 2)), (1, .int (nI 1)), (0, .ref (h 0))]) hx hb dX10_lay_87 hl (k := 0) rfl (by decide +kernel) (by decide) rfl (fun ls hl => ?_)
  refine lv_goto (tgt := 62) hx hb dX10_lay_90 (by decide) ?_
  refine lv_iload_n hx hb dX10_lay_62 rfl (lv_at hl 0 rfl) ?_
  refine lv_iconst (v := nI 4) hx hb dX10_lay_63 (by decide) ?_
  refine lv_icmp_ge (tgt := 93) hx hb dX10_lay_64 (by decide) (fun c9 => False.elim (by revert c9; decide +kernel)) (fun _ => ?_)
  refine lv_aload_n hx hb dX10_lay_67 rfl (lv_at hl 2 rfl) ?_
  refine va_get (D := (dC, dI)) (ci := 10) (v := .ref (h 18)) (C := RX10) (T := TX10) (N := 28) hx hb hts hinX10 hown hK hP 0 rfl rfl 18 (by decide) (hts (.fieldLink RX10 44 "MixedWordsModel" "trans" "[I") (by decide +kernel)) (fun _ h9 => h9) rfl dX10_lay_68 ?_
  refine lv_iconst (v := nI 4) hx hb dX10_lay_71 (by decide) ?_
  refine lv_iload_n hx hb dX10_lay_72 rfl (lv_at hl 0 rfl) ?_
  refine lv_imul hx hb dX10_lay_73 ?_
  refine xt_i (y := nI 8) (by decide +kernel) ?_
  refine lv_iload_n hx hb dX10_lay_74 rfl (lv_at hl 1 rfl) ?_
  refine lv_iadd hx hb dX10_lay_75 ?_
  refine xt_i (y := nI 9) (by decide +kernel) ?_
  refine lv_iload_n hx hb dX10_lay_76 rfl (lv_at hl 0 rfl) ?_
  refine lv_iload_n hx hb dX10_lay_77 rfl (lv_at hl 1 rfl) ?_
  refine lv_icmp_ne (tgt := 85) hx hb dX10_lay_78 (by decide) (fun _ => ?_) (fun c9 => False.elim (by revert c9; decide +kernel))
  refine lv_iconst (v := nI 0) hx hb dX10_lay_85 (by decide) ?_
  refine xa_iastS hx hb hK hP hD hS 9 0 rfl rfl (by omega) (by decide) (by decide +kernel) dX10_lay_86 (fun H locs hP hD hS => ?_)
  refine lv_iinc (v := nI 3) (lv' := [(2, .int (nI 3)), (1, .int (nI 1)), (0, .ref (h 0))]) hx hb dX10_lay_87 hl (k := 0) rfl (by decide +kernel) (by decide) rfl (fun ls hl => ?_)
  refine lv_goto (tgt := 62) hx hb dX10_lay_90 (by decide) ?_
  refine lv_iload_n hx hb dX10_lay_62 rfl (lv_at hl 0 rfl) ?_
  refine lv_iconst (v := nI 4) hx hb dX10_lay_63 (by decide) ?_
  refine lv_icmp_ge (tgt := 93) hx hb dX10_lay_64 (by decide) (fun c9 => False.elim (by revert c9; decide +kernel)) (fun _ => ?_)
  refine lv_aload_n hx hb dX10_lay_67 rfl (lv_at hl 2 rfl) ?_
  refine va_get (D := (dC, dI)) (ci := 10) (v := .ref (h 18)) (C := RX10) (T := TX10) (N := 28) hx hb hts hinX10 hown hK hP 0 rfl rfl 18 (by decide) (hts (.fieldLink RX10 44 "MixedWordsModel" "trans" "[I") (by decide +kernel)) (fun _ h9 => h9) rfl dX10_lay_68 ?_
  refine lv_iconst (v := nI 4) hx hb dX10_lay_71 (by decide) ?_
  refine lv_iload_n hx hb dX10_lay_72 rfl (lv_at hl 0 rfl) ?_
  refine lv_imul hx hb dX10_lay_73 ?_
  refine xt_i (y := nI 12) (by decide +kernel) ?_
  refine lv_iload_n hx hb dX10_lay_74 rfl (lv_at hl 1 rfl) ?_
  refine lv_iadd hx hb dX10_lay_75 ?_
  refine xt_i (y := nI 13) (by decide +kernel) ?_
  refine lv_iload_n hx hb dX10_lay_76 rfl (lv_at hl 0 rfl) ?_
  refine lv_iload_n hx hb dX10_lay_77 rfl (lv_at hl 1 rfl) ?_
  refine lv_icmp_ne (tgt := 85) hx hb dX10_lay_78 (by decide) (fun _ => ?_) (fun c9 => False.elim (by revert c9; decide +kernel))
  refine lv_iconst (v := nI 0) hx hb dX10_lay_85 (by decide) ?_
  refine xa_iastS hx hb hK hP hD hS 9 0 rfl rfl (by omega) (by decide) (by decide +kernel) dX10_lay_86 (fun H locs hP hD hS => ?_)
  refine lv_iinc (v := nI 4) (lv' := [(2, .int (nI 4)), (1, .int (nI 1)), (0, .ref (h 0))]) hx hb dX10_lay_87 hl (k := 0) rfl (by decide +kernel) (by decide) rfl (fun ls hl => ?_)
  refine lv_goto (tgt := 62) hx hb dX10_lay_90 (by decide) ?_
  refine lv_iload_n hx hb dX10_lay_62 rfl (lv_at hl 0 rfl) ?_
  refine lv_iconst (v := nI 4) hx hb dX10_lay_63 (by decide) ?_
  refine lv_icmp_ge (tgt := 93) hx hb dX10_lay_64 (by decide) (fun _ => ?_) (fun c9 => False.elim (by revert c9; decide +kernel))
  refine lv_iinc (v := nI 2) (lv' := [(1, .int (nI 2)), (2, .int (nI 4)), (0, .ref (h 0))]) hx hb dX10_lay_93 hl (k := 1) rfl (by decide +kernel) (by decide) rfl (fun ls hl => ?_)
  refine lv_goto (tgt := 2) hx hb dX10_lay_96 (by decide) ?_
  refine lv_iload_n hx hb dX10_lay_2 rfl (lv_at hl 0 rfl) ?_
  refine lv_iconst (v := nI 4) hx hb dX10_lay_3 (by decide) ?_
  refine lv_icmp_ge (tgt := 99) hx hb dX10_lay_4 (by decide) (fun c9 => False.elim (by revert c9; decide +kernel)) (fun _ => ?_)
  refine lv_iconst (v := nI 0) hx hb dX10_lay_7 (by decide) ?_
  refine lv_istore_n (lv' := [(2, .int (nI 0)), (1, .int (nI 2)), (0, .ref (h 0))]) hx hb dX10_lay_8 rfl hl (by decide) rfl (fun ls hl => ?_)
  refine lv_iload_n hx hb dX10_lay_9 rfl (lv_at hl 0 rfl) ?_
  refine lv_iconst (v := nI 5) hx hb dX10_lay_10 (by decide) ?_
  refine lv_icmp_ge (tgt := 60) hx hb dX10_lay_11 (by decide) (fun c9 => False.elim (by revert c9; decide +kernel)) (fun _ => ?_)
  refine lv_aload_n hx hb dX10_lay_14 rfl (lv_at hl 2 rfl) ?_
  refine va_get (D := (dC, dI)) (ci := 10) (v := .ref (h 17)) (C := RX10) (T := TX10) (N := 28) hx hb hts hinX10 hown hK hP 0 rfl rfl 17 (by decide) (hts (.fieldLink RX10 41 "MixedWordsModel" "cols" "[I") (by decide +kernel)) (fun _ h9 => h9) rfl dX10_lay_15 ?_
  refine lv_iconst (v := nI 5) hx hb dX10_lay_18 (by decide) ?_
  refine lv_iload_n hx hb dX10_lay_19 rfl (lv_at hl 1 rfl) ?_
  refine lv_imul hx hb dX10_lay_20 ?_
  refine xt_i (y := nI 10) (by decide +kernel) ?_
  refine lv_iload_n hx hb dX10_lay_21 rfl (lv_at hl 0 rfl) ?_
  refine lv_iadd hx hb dX10_lay_22 ?_
  refine xt_i (y := nI 10) (by decide +kernel) ?_
  refine lv_iload_n hx hb dX10_lay_23 rfl (lv_at hl 1 rfl) ?_
  refine lv_aload_n hx hb dX10_lay_24 rfl (lv_at hl 2 rfl) ?_
  refine va_get (D := (dC, dI)) (ci := 10) (v := .int (gI 1)) (C := RX10) (T := TX10) (N := 28) hx hb hts hinX10 hown hK hP 0 rfl rfl 1 (by decide) (hts (.fieldLink RX10 13 "MixedWordsModel" "columns" "I") (by decide +kernel)) (fun _ h9 => h9) rfl dX10_lay_25 ?_
  refine xt_i (y := nI 2) (by decide +kernel) ?_
  refine lv_icmp_ge (tgt := 52) hx hb dX10_lay_28 (by decide) (fun _ => ?_) (fun c9 => False.elim (by revert c9; decide +kernel))
  refine lv_iconst (v := nI 0) hx hb dX10_lay_52 (by decide) ?_
  refine xa_iastS hx hb hK hP hD hS 8 0 rfl rfl (by omega) (by decide) (by decide +kernel) dX10_lay_53 (fun H locs hP hD hS => ?_)
  refine lv_iinc (v := nI 1) (lv' := [(2, .int (nI 1)), (1, .int (nI 2)), (0, .ref (h 0))]) hx hb dX10_lay_54 hl (k := 0) rfl (by decide +kernel) (by decide) rfl (fun ls hl => ?_)
  refine lv_goto (tgt := 9) hx hb dX10_lay_57 (by decide) ?_
  refine lv_iload_n hx hb dX10_lay_9 rfl (lv_at hl 0 rfl) ?_
  refine lv_iconst (v := nI 5) hx hb dX10_lay_10 (by decide) ?_
  refine lv_icmp_ge (tgt := 60) hx hb dX10_lay_11 (by decide) (fun c9 => False.elim (by revert c9; decide +kernel)) (fun _ => ?_)
  refine lv_aload_n hx hb dX10_lay_14 rfl (lv_at hl 2 rfl) ?_
  refine va_get (D := (dC, dI)) (ci := 10) (v := .ref (h 17)) (C := RX10) (T := TX10) (N := 28) hx hb hts hinX10 hown hK hP 0 rfl rfl 17 (by decide) (hts (.fieldLink RX10 41 "MixedWordsModel" "cols" "[I") (by decide +kernel)) (fun _ h9 => h9) rfl dX10_lay_15 ?_
  refine lv_iconst (v := nI 5) hx hb dX10_lay_18 (by decide) ?_
  refine lv_iload_n hx hb dX10_lay_19 rfl (lv_at hl 1 rfl) ?_
  refine lv_imul hx hb dX10_lay_20 ?_
  refine xt_i (y := nI 10) (by decide +kernel) ?_
  refine lv_iload_n hx hb dX10_lay_21 rfl (lv_at hl 0 rfl) ?_
  refine lv_iadd hx hb dX10_lay_22 ?_
  refine xt_i (y := nI 11) (by decide +kernel) ?_
  refine lv_iload_n hx hb dX10_lay_23 rfl (lv_at hl 1 rfl) ?_
  refine lv_aload_n hx hb dX10_lay_24 rfl (lv_at hl 2 rfl) ?_
  refine va_get (D := (dC, dI)) (ci := 10) (v := .int (gI 1)) (C := RX10) (T := TX10) (N := 28) hx hb hts hinX10 hown hK hP 0 rfl rfl 1 (by decide) (hts (.fieldLink RX10 13 "MixedWordsModel" "columns" "I") (by decide +kernel)) (fun _ h9 => h9) rfl dX10_lay_25 ?_
  refine xt_i (y := nI 2) (by decide +kernel) ?_
  refine lv_icmp_ge (tgt := 52) hx hb dX10_lay_28 (by decide) (fun _ => ?_) (fun c9 => False.elim (by revert c9; decide +kernel))
  refine lv_iconst (v := nI 0) hx hb dX10_lay_52 (by decide) ?_
  refine xa_iastS hx hb hK hP hD hS 8 0 rfl rfl (by omega) (by decide) (by decide +kernel) dX10_lay_53 (fun H locs hP hD hS => ?_)
  refine lv_iinc (v := nI 2) (lv' := [(2, .int (nI 2)), (1, .int (nI 2)), (0, .ref (h 0))]) hx hb dX10_lay_54 hl (k := 0) rfl (by decide +kernel) (by decide) rfl (fun ls hl => ?_)
  refine lv_goto (tgt := 9) hx hb dX10_lay_57 (by decide) ?_
  refine lv_iload_n hx hb dX10_lay_9 rfl (lv_at hl 0 rfl) ?_
  refine lv_iconst (v := nI 5) hx hb dX10_lay_10 (by decide) ?_
  refine lv_icmp_ge (tgt := 60) hx hb dX10_lay_11 (by decide) (fun c9 => False.elim (by revert c9; decide +kernel)) (fun _ => ?_)
  refine lv_aload_n hx hb dX10_lay_14 rfl (lv_at hl 2 rfl) ?_
  refine va_get (D := (dC, dI)) (ci := 10) (v := .ref (h 17)) (C := RX10) (T := TX10) (N := 28) hx hb hts hinX10 hown hK hP 0 rfl rfl 17 (by decide) (hts (.fieldLink RX10 41 "MixedWordsModel" "cols" "[I") (by decide +kernel)) (fun _ h9 => h9) rfl dX10_lay_15 ?_
  refine lv_iconst (v := nI 5) hx hb dX10_lay_18 (by decide) ?_
  refine lv_iload_n hx hb dX10_lay_19 rfl (lv_at hl 1 rfl) ?_
  refine lv_imul hx hb dX10_lay_20 ?_
  refine xt_i (y := nI 10) (by decide +kernel) ?_
  refine lv_iload_n hx hb dX10_lay_21 rfl (lv_at hl 0 rfl) ?_
  refine lv_iadd hx hb dX10_lay_22 ?_
  refine xt_i (y := nI 12) (by decide +kernel) ?_
  refine lv_iload_n hx hb dX10_lay_23 rfl (lv_at hl 1 rfl) ?_
  refine lv_aload_n hx hb dX10_lay_24 rfl (lv_at hl 2 rfl) ?_
  refine va_get (D := (dC, dI)) (ci := 10) (v := .int (gI 1)) (C := RX10) (T := TX10) (N := 28) hx hb hts hinX10 hown hK hP 0 rfl rfl 1 (by decide) (hts (.fieldLink RX10 13 "MixedWordsModel" "columns" "I") (by decide +kernel)) (fun _ h9 => h9) rfl dX10_lay_25 ?_
  refine xt_i (y := nI 2) (by decide +kernel) ?_
  refine lv_icmp_ge (tgt := 52) hx hb dX10_lay_28 (by decide) (fun _ => ?_) (fun c9 => False.elim (by revert c9; decide +kernel))
  refine lv_iconst (v := nI 0) hx hb dX10_lay_52 (by decide) ?_
  refine xa_iastS hx hb hK hP hD hS 8 0 rfl rfl (by omega) (by decide) (by decide +kernel) dX10_lay_53 (fun H locs hP hD hS => ?_)
  refine lv_iinc (v := nI 3) (lv' := [(2, .int (nI 3)), (1, .int (nI 2)), (0, .ref (h 0))]) hx hb dX10_lay_54 hl (k := 0) rfl (by decide +kernel) (by decide) rfl (fun ls hl => ?_)
  refine lv_goto (tgt := 9) hx hb dX10_lay_57 (by decide) ?_
  refine lv_iload_n hx hb dX10_lay_9 rfl (lv_at hl 0 rfl) ?_
  refine lv_iconst (v := nI 5) hx hb dX10_lay_10 (by decide) ?_
  refine lv_icmp_ge (tgt := 60) hx hb dX10_lay_11 (by decide) (fun c9 => False.elim (by revert c9; decide +kernel)) (fun _ => ?_)
  refine lv_aload_n hx hb dX10_lay_14 rfl (lv_at hl 2 rfl) ?_
  refine va_get (D := (dC, dI)) (ci := 10) (v := .ref (h 17)) (C := RX10) (T := TX10) (N := 28) hx hb hts hinX10 hown hK hP 0 rfl rfl 17 (by decide) (hts (.fieldLink RX10 41 "MixedWordsModel" "cols" "[I") (by decide +kernel)) (fun _ h9 => h9) rfl dX10_lay_15 ?_
  refine lv_iconst (v := nI 5) hx hb dX10_lay_18 (by decide) ?_
  refine lv_iload_n hx hb dX10_lay_19 rfl (lv_at hl 1 rfl) ?_
  refine lv_imul hx hb dX10_lay_20 ?_
  refine xt_i (y := nI 10) (by decide +kernel) ?_
  refine lv_iload_n hx hb dX10_lay_21 rfl (lv_at hl 0 rfl) ?_
  refine lv_iadd hx hb dX10_lay_22 ?_
  refine xt_i (y := nI 13) (by decide +kernel) ?_
  refine lv_iload_n hx hb dX10_lay_23 rfl (lv_at hl 1 rfl) ?_
  refine lv_aload_n hx hb dX10_lay_24 rfl (lv_at hl 2 rfl) ?_
  refine va_get (D := (dC, dI)) (ci := 10) (v := .int (gI 1)) (C := RX10) (T := TX10) (N := 28) hx hb hts hinX10 hown hK hP 0 rfl rfl 1 (by decide) (hts (.fieldLink RX10 13 "MixedWordsModel" "columns" "I") (by decide +kernel)) (fun _ h9 => h9) rfl dX10_lay_25 ?_
  refine xt_i (y := nI 2) (by decide +kernel) ?_
  refine lv_icmp_ge (tgt := 52) hx hb dX10_lay_28 (by decide) (fun _ => ?_) (fun c9 => False.elim (by revert c9; decide +kernel))
  refine lv_iconst (v := nI 0) hx hb dX10_lay_52 (by decide) ?_
  refine xa_iastS hx hb hK hP hD hS 8 0 rfl rfl (by omega) (by decide) (by decide +kernel) dX10_lay_53 (fun H locs hP hD hS => ?_)
  refine lv_iinc (v := nI 4) (lv' := [(2, .int (nI 4)), (1, .int (nI 2)), (0, .ref (h 0))]) hx hb dX10_lay_54 hl (k := 0) rfl (by decide +kernel) (by decide) rfl (fun ls hl => ?_)
  refine lv_goto (tgt := 9) hx hb dX10_lay_57 (by decide) ?_
  refine lv_iload_n hx hb dX10_lay_9 rfl (lv_at hl 0 rfl) ?_
  refine lv_iconst (v := nI 5) hx hb dX10_lay_10 (by decide) ?_
  refine lv_icmp_ge (tgt := 60) hx hb dX10_lay_11 (by decide) (fun c9 => False.elim (by revert c9; decide +kernel)) (fun _ => ?_)
  refine lv_aload_n hx hb dX10_lay_14 rfl (lv_at hl 2 rfl) ?_
  refine va_get (D := (dC, dI)) (ci := 10) (v := .ref (h 17)) (C := RX10) (T := TX10) (N := 28) hx hb hts hinX10 hown hK hP 0 rfl rfl 17 (by decide) (hts (.fieldLink RX10 41 "MixedWordsModel" "cols" "[I") (by decide +kernel)) (fun _ h9 => h9) rfl dX10_lay_15 ?_
  refine lv_iconst (v := nI 5) hx hb dX10_lay_18 (by decide) ?_
  refine lv_iload_n hx hb dX10_lay_19 rfl (lv_at hl 1 rfl) ?_
  refine lv_imul hx hb dX10_lay_20 ?_
  refine xt_i (y := nI 10) (by decide +kernel) ?_
  refine lv_iload_n hx hb dX10_lay_21 rfl (lv_at hl 0 rfl) ?_
  refine lv_iadd hx hb dX10_lay_22 ?_
  refine xt_i (y := nI 14) (by decide +kernel) ?_
  refine lv_iload_n hx hb dX10_lay_23 rfl (lv_at hl 1 rfl) ?_
  refine lv_aload_n hx hb dX10_lay_24 rfl (lv_at hl 2 rfl) ?_
  refine va_get (D := (dC, dI)) (ci := 10) (v := .int (gI 1)) (C := RX10) (T := TX10) (N := 28) hx hb hts hinX10 hown hK hP 0 rfl rfl 1 (by decide) (hts (.fieldLink RX10 13 "MixedWordsModel" "columns" "I") (by decide +kernel)) (fun _ h9 => h9) rfl dX10_lay_25 ?_
  refine xt_i (y := nI 2) (by decide +kernel) ?_
  refine lv_icmp_ge (tgt := 52) hx hb dX10_lay_28 (by decide) (fun _ => ?_) (fun c9 => False.elim (by revert c9; decide +kernel))
  refine lv_iconst (v := nI 0) hx hb dX10_lay_52 (by decide) ?_
  refine xa_iastS hx hb hK hP hD hS 8 0 rfl rfl (by omega) (by decide) (by decide +kernel) dX10_lay_53 (fun H locs hP hD hS => ?_)
  refine lv_iinc (v := nI 5) (lv' := [(2, .int (nI 5)), (1, .int (nI 2)), (0, .ref (h 0))]) hx hb dX10_lay_54 hl (k := 0) rfl (by decide +kernel) (by decide) rfl (fun ls hl => ?_)
  refine lv_goto (tgt := 9) hx hb dX10_lay_57 (by decide) ?_
  refine lv_iload_n hx hb dX10_lay_9 rfl (lv_at hl 0 rfl) ?_
  refine lv_iconst (v := nI 5) hx hb dX10_lay_10 (by decide) ?_
  refine lv_icmp_ge (tgt := 60) hx hb dX10_lay_11 (by decide) (fun _ => ?_) (fun c9 => False.elim (by revert c9; decide +kernel))
  refine lv_iconst (v := nI 0) hx hb dX10_lay_60 (by decide) ?_
  refine lv_istore_n (lv' := [(2, .int (nI 0)), (1, .int (nI 2)), (0, .ref (h 0))]) hx hb dX10_lay_61 rfl hl (by decide) rfl (fun ls hl => ?_)
  refine lv_iload_n hx hb dX10_lay_62 rfl (lv_at hl 0 rfl) ?_
  refine lv_iconst (v := nI 4) hx hb dX10_lay_63 (by decide) ?_
  refine lv_icmp_ge (tgt := 93) hx hb dX10_lay_64 (by decide) (fun c9 => False.elim (by revert c9; decide +kernel)) (fun _ => ?_)
  refine lv_aload_n hx hb dX10_lay_67 rfl (lv_at hl 2 rfl) ?_
  refine va_get (D := (dC, dI)) (ci := 10) (v := .ref (h 18)) (C := RX10) (T := TX10) (N := 28) hx hb hts hinX10 hown hK hP 0 rfl rfl 18 (by decide) (hts (.fieldLink RX10 44 "MixedWordsModel" "trans" "[I") (by decide +kernel)) (fun _ h9 => h9) rfl dX10_lay_68 ?_
  refine lv_iconst (v := nI 4) hx hb dX10_lay_71 (by decide) ?_
  refine lv_iload_n hx hb dX10_lay_72 rfl (lv_at hl 0 rfl) ?_
  refine lv_imul hx hb dX10_lay_73 ?_
  refine xt_i (y := nI 0) (by decide +kernel) ?_
  refine lv_iload_n hx hb dX10_lay_74 rfl (lv_at hl 1 rfl) ?_
  refine lv_iadd hx hb dX10_lay_75 ?_
  refine xt_i (y := nI 2) (by decide +kernel) ?_
  refine lv_iload_n hx hb dX10_lay_76 rfl (lv_at hl 0 rfl) ?_
  refine lv_iload_n hx hb dX10_lay_77 rfl (lv_at hl 1 rfl) ?_
  refine lv_icmp_ne (tgt := 85) hx hb dX10_lay_78 (by decide) (fun _ => ?_) (fun c9 => False.elim (by revert c9; decide +kernel))
  refine lv_iconst (v := nI 0) hx hb dX10_lay_85 (by decide) ?_
  refine xa_iastS hx hb hK hP hD hS 9 0 rfl rfl (by omega) (by decide) (by decide +kernel) dX10_lay_86 (fun H locs hP hD hS => ?_)
  refine lv_iinc (v := nI 1) (lv' := [(2, .int (nI 1)), (1, .int (nI 2)), (0, .ref (h 0))]) hx hb dX10_lay_87 hl (k := 0) rfl (by decide +kernel) (by decide) rfl (fun ls hl => ?_)
  refine lv_goto (tgt := 62) hx hb dX10_lay_90 (by decide) ?_
  refine lv_iload_n hx hb dX10_lay_62 rfl (lv_at hl 0 rfl) ?_
  refine lv_iconst (v := nI 4) hx hb dX10_lay_63 (by decide) ?_
  refine lv_icmp_ge (tgt := 93) hx hb dX10_lay_64 (by decide) (fun c9 => False.elim (by revert c9; decide +kernel)) (fun _ => ?_)
  refine lv_aload_n hx hb dX10_lay_67 rfl (lv_at hl 2 rfl) ?_
  refine va_get (D := (dC, dI)) (ci := 10) (v := .ref (h 18)) (C := RX10) (T := TX10) (N := 28) hx hb hts hinX10 hown hK hP 0 rfl rfl 18 (by decide) (hts (.fieldLink RX10 44 "MixedWordsModel" "trans" "[I") (by decide +kernel)) (fun _ h9 => h9) rfl dX10_lay_68 ?_
  refine lv_iconst (v := nI 4) hx hb dX10_lay_71 (by decide) ?_
  refine lv_iload_n hx hb dX10_lay_72 rfl (lv_at hl 0 rfl) ?_
  refine lv_imul hx hb dX10_lay_73 ?_
  refine xt_i (y := nI 4) (by decide +kernel) ?_
  refine lv_iload_n hx hb dX10_lay_74 rfl (lv_at hl 1 rfl) ?_
  refine lv_iadd hx hb dX10_lay_75 ?_
  refine xt_i (y := nI 6) (by decide +kernel) ?_
  refine lv_iload_n hx hb dX10_lay_76 rfl (lv_at hl 0 rfl) ?_
  refine lv_iload_n hx hb dX10_lay_77 rfl (lv_at hl 1 rfl) ?_
  refine lv_icmp_ne (tgt := 85) hx hb dX10_lay_78 (by decide) (fun _ => ?_) (fun c9 => False.elim (by revert c9; decide +kernel))
  refine lv_iconst (v := nI 0) hx hb dX10_lay_85 (by decide) ?_
  refine xa_iastS hx hb hK hP hD hS 9 0 rfl rfl (by omega) (by decide) (by decide +kernel) dX10_lay_86 (fun H locs hP hD hS => ?_)
  refine lv_iinc (v := nI 2) (lv' := [(2, .int (nI 2)), (1, .int (nI 2)), (0, .ref (h 0))]) hx hb dX10_lay_87 hl (k := 0) rfl (by decide +kernel) (by decide) rfl (fun ls hl => ?_)
  refine lv_goto (tgt := 62) hx hb dX10_lay_90 (by decide) ?_
  refine lv_iload_n hx hb dX10_lay_62 rfl (lv_at hl 0 rfl) ?_
  refine lv_iconst (v := nI 4) hx hb dX10_lay_63 (by decide) ?_
  refine lv_icmp_ge (tgt := 93) hx hb dX10_lay_64 (by decide) (fun c9 => False.elim (by revert c9; decide +kernel)) (fun _ => ?_)
  refine lv_aload_n hx hb dX10_lay_67 rfl (lv_at hl 2 rfl) ?_
  refine va_get (D := (dC, dI)) (ci := 10) (v := .ref (h 18)) (C := RX10) (T := TX10) (N := 28) hx hb hts hinX10 hown hK hP 0 rfl rfl 18 (by decide) (hts (.fieldLink RX10 44 "MixedWordsModel" "trans" "[I") (by decide +kernel)) (fun _ h9 => h9) rfl dX10_lay_68 ?_
  refine lv_iconst (v := nI 4) hx hb dX10_lay_71 (by decide) ?_
  refine lv_iload_n hx hb dX10_lay_72 rfl (lv_at hl 0 rfl) ?_
  refine lv_imul hx hb dX10_lay_73 ?_
  refine xt_i (y := nI 8) (by decide +kernel) ?_
  refine lv_iload_n hx hb dX10_lay_74 rfl (lv_at hl 1 rfl) ?_
  refine lv_iadd hx hb dX10_lay_75 ?_
  refine xt_i (y := nI 10) (by decide +kernel) ?_
  refine lv_iload_n hx hb dX10_lay_76 rfl (lv_at hl 0 rfl) ?_
  refine lv_iload_n hx hb dX10_lay_77 rfl (lv_at hl 1 rfl) ?_
  refine lv_icmp_ne (tgt := 85) hx hb dX10_lay_78 (by decide) (fun c9 => False.elim (by revert c9; decide +kernel)) (fun _ => ?_)
  refine lv_iconst (v := nI 1) hx hb dX10_lay_81 (by decide) ?_
  refine lv_goto (tgt := 86) hx hb dX10_lay_82 (by decide) ?_
  refine xa_iast hx hb hK hP hD hS 9 0 rfl rfl (by omega) (by decide) dX10_lay_86 (fun H locs hP hD hS => ?_)
  have hP : va_P (dC, dI) vwCl (wD_177 h cs gI gL (va_up gA 18 (upd (upd (upd (gA 18) 0 (nI 1)) 5 (nI 1)) 10 (nI 1))) gQ) H := hP
  have hD : va_D A0 (wD_177 h cs gI gL (va_up gA 18 (upd (upd (upd (gA 18) 0 (nI 1)) 5 (nI 1)) 10 (nI 1))) gQ) := hD
  refine lv_iinc (v := nI 3) (lv' := [(2, .int (nI 3)), (1, .int (nI 2)), (0, .ref (h 0))]) hx hb dX10_lay_87 hl (k := 0) rfl (by decide +kernel) (by decide) rfl (fun ls hl => ?_)
  refine lv_goto (tgt := 62) hx hb dX10_lay_90 (by decide) ?_
  refine lv_iload_n hx hb dX10_lay_62 rfl (lv_at hl 0 rfl) ?_
  refine lv_iconst (v := nI 4) hx hb dX10_lay_63 (by decide) ?_
  refine lv_icmp_ge (tgt := 93) hx hb dX10_lay_64 (by decide) (fun c9 => False.elim (by revert c9; decide +kernel)) (fun _ => ?_)
  refine lv_aload_n hx hb dX10_lay_67 rfl (lv_at hl 2 rfl) ?_
  refine va_get (D := (dC, dI)) (ci := 10) (v := .ref (h 18)) (C := RX10) (T := TX10) (N := 28) hx hb hts hinX10 hown hK hP 0 rfl rfl 18 (by decide) (hts (.fieldLink RX10 44 "MixedWordsModel" "trans" "[I") (by decide +kernel)) (fun _ h9 => h9) rfl dX10_lay_68 ?_
  refine lv_iconst (v := nI 4) hx hb dX10_lay_71 (by decide) ?_
  refine lv_iload_n hx hb dX10_lay_72 rfl (lv_at hl 0 rfl) ?_
  refine lv_imul hx hb dX10_lay_73 ?_
  refine xt_i (y := nI 12) (by decide +kernel) ?_
  refine lv_iload_n hx hb dX10_lay_74 rfl (lv_at hl 1 rfl) ?_
  refine lv_iadd hx hb dX10_lay_75 ?_
  refine xt_i (y := nI 14) (by decide +kernel) ?_
  refine lv_iload_n hx hb dX10_lay_76 rfl (lv_at hl 0 rfl) ?_
  refine lv_iload_n hx hb dX10_lay_77 rfl (lv_at hl 1 rfl) ?_
  refine lv_icmp_ne (tgt := 85) hx hb dX10_lay_78 (by decide) (fun _ => ?_) (fun c9 => False.elim (by revert c9; decide +kernel))
  refine lv_iconst (v := nI 0) hx hb dX10_lay_85 (by decide) ?_
  refine xa_iastS hx hb hK hP hD hS 9 0 rfl rfl (by omega) (by decide) (by decide +kernel) dX10_lay_86 (fun H locs hP hD hS => ?_)
  refine lv_iinc (v := nI 4) (lv' := [(2, .int (nI 4)), (1, .int (nI 2)), (0, .ref (h 0))]) hx hb dX10_lay_87 hl (k := 0) rfl (by decide +kernel) (by decide) rfl (fun ls hl => ?_)
  refine lv_goto (tgt := 62) hx hb dX10_lay_90 (by decide) ?_
  refine lv_iload_n hx hb dX10_lay_62 rfl (lv_at hl 0 rfl) ?_
  refine lv_iconst (v := nI 4) hx hb dX10_lay_63 (by decide) ?_
  refine lv_icmp_ge (tgt := 93) hx hb dX10_lay_64 (by decide) (fun _ => ?_) (fun c9 => False.elim (by revert c9; decide +kernel))
  refine lv_iinc (v := nI 3) (lv' := [(1, .int (nI 3)), (2, .int (nI 4)), (0, .ref (h 0))]) hx hb dX10_lay_93 hl (k := 1) rfl (by decide +kernel) (by decide) rfl (fun ls hl => ?_)
  refine lv_goto (tgt := 2) hx hb dX10_lay_96 (by decide) ?_
  refine lv_iload_n hx hb dX10_lay_2 rfl (lv_at hl 0 rfl) ?_
  refine lv_iconst (v := nI 4) hx hb dX10_lay_3 (by decide) ?_
  refine lv_icmp_ge (tgt := 99) hx hb dX10_lay_4 (by decide) (fun c9 => False.elim (by revert c9; decide +kernel)) (fun _ => ?_)
  refine lv_iconst (v := nI 0) hx hb dX10_lay_7 (by decide) ?_
  refine lv_istore_n (lv' := [(2, .int (nI 0)), (1, .int (nI 3)), (0, .ref (h 0))]) hx hb dX10_lay_8 rfl hl (by decide) rfl (fun ls hl => ?_)
  refine lv_iload_n hx hb dX10_lay_9 rfl (lv_at hl 0 rfl) ?_
  refine lv_iconst (v := nI 5) hx hb dX10_lay_10 (by decide) ?_
  refine lv_icmp_ge (tgt := 60) hx hb dX10_lay_11 (by decide) (fun c9 => False.elim (by revert c9; decide +kernel)) (fun _ => ?_)
  refine lv_aload_n hx hb dX10_lay_14 rfl (lv_at hl 2 rfl) ?_
  refine va_get (D := (dC, dI)) (ci := 10) (v := .ref (h 17)) (C := RX10) (T := TX10) (N := 28) hx hb hts hinX10 hown hK hP 0 rfl rfl 17 (by decide) (hts (.fieldLink RX10 41 "MixedWordsModel" "cols" "[I") (by decide +kernel)) (fun _ h9 => h9) rfl dX10_lay_15 ?_
  refine lv_iconst (v := nI 5) hx hb dX10_lay_18 (by decide) ?_
  refine lv_iload_n hx hb dX10_lay_19 rfl (lv_at hl 1 rfl) ?_
  refine lv_imul hx hb dX10_lay_20 ?_
  refine xt_i (y := nI 15) (by decide +kernel) ?_
  refine lv_iload_n hx hb dX10_lay_21 rfl (lv_at hl 0 rfl) ?_
  refine lv_iadd hx hb dX10_lay_22 ?_
  refine xt_i (y := nI 15) (by decide +kernel) ?_
  refine lv_iload_n hx hb dX10_lay_23 rfl (lv_at hl 1 rfl) ?_
  refine lv_aload_n hx hb dX10_lay_24 rfl (lv_at hl 2 rfl) ?_
  refine va_get (D := (dC, dI)) (ci := 10) (v := .int (gI 1)) (C := RX10) (T := TX10) (N := 28) hx hb hts hinX10 hown hK hP 0 rfl rfl 1 (by decide) (hts (.fieldLink RX10 13 "MixedWordsModel" "columns" "I") (by decide +kernel)) (fun _ h9 => h9) rfl dX10_lay_25 ?_
  refine xt_i (y := nI 2) (by decide +kernel) ?_
  refine lv_icmp_ge (tgt := 52) hx hb dX10_lay_28 (by decide) (fun _ => ?_) (fun c9 => False.elim (by revert c9; decide +kernel))
  refine lv_iconst (v := nI 0) hx hb dX10_lay_52 (by decide) ?_
  refine xa_iastS hx hb hK hP hD hS 8 0 rfl rfl (by omega) (by decide) (by decide +kernel) dX10_lay_53 (fun H locs hP hD hS => ?_)
  refine lv_iinc (v := nI 1) (lv' := [(2, .int (nI 1)), (1, .int (nI 3)), (0, .ref (h 0))]) hx hb dX10_lay_54 hl (k := 0) rfl (by decide +kernel) (by decide) rfl (fun ls hl => ?_)
  refine lv_goto (tgt := 9) hx hb dX10_lay_57 (by decide) ?_
  refine lv_iload_n hx hb dX10_lay_9 rfl (lv_at hl 0 rfl) ?_
  refine lv_iconst (v := nI 5) hx hb dX10_lay_10 (by decide) ?_
  refine lv_icmp_ge (tgt := 60) hx hb dX10_lay_11 (by decide) (fun c9 => False.elim (by revert c9; decide +kernel)) (fun _ => ?_)
  refine lv_aload_n hx hb dX10_lay_14 rfl (lv_at hl 2 rfl) ?_
  refine va_get (D := (dC, dI)) (ci := 10) (v := .ref (h 17)) (C := RX10) (T := TX10) (N := 28) hx hb hts hinX10 hown hK hP 0 rfl rfl 17 (by decide) (hts (.fieldLink RX10 41 "MixedWordsModel" "cols" "[I") (by decide +kernel)) (fun _ h9 => h9) rfl dX10_lay_15 ?_
  refine lv_iconst (v := nI 5) hx hb dX10_lay_18 (by decide) ?_
  refine lv_iload_n hx hb dX10_lay_19 rfl (lv_at hl 1 rfl) ?_
  refine lv_imul hx hb dX10_lay_20 ?_
  refine xt_i (y := nI 15) (by decide +kernel) ?_
  refine lv_iload_n hx hb dX10_lay_21 rfl (lv_at hl 0 rfl) ?_
  refine lv_iadd hx hb dX10_lay_22 ?_
  refine xt_i (y := nI 16) (by decide +kernel) ?_
  refine lv_iload_n hx hb dX10_lay_23 rfl (lv_at hl 1 rfl) ?_
  refine lv_aload_n hx hb dX10_lay_24 rfl (lv_at hl 2 rfl) ?_
  refine va_get (D := (dC, dI)) (ci := 10) (v := .int (gI 1)) (C := RX10) (T := TX10) (N := 28) hx hb hts hinX10 hown hK hP 0 rfl rfl 1 (by decide) (hts (.fieldLink RX10 13 "MixedWordsModel" "columns" "I") (by decide +kernel)) (fun _ h9 => h9) rfl dX10_lay_25 ?_
  refine xt_i (y := nI 2) (by decide +kernel) ?_
  refine lv_icmp_ge (tgt := 52) hx hb dX10_lay_28 (by decide) (fun _ => ?_) (fun c9 => False.elim (by revert c9; decide +kernel))
  refine lv_iconst (v := nI 0) hx hb dX10_lay_52 (by decide) ?_
  refine xa_iastS hx hb hK hP hD hS 8 0 rfl rfl (by omega) (by decide) (by decide +kernel) dX10_lay_53 (fun H locs hP hD hS => ?_)
  refine lv_iinc (v := nI 2) (lv' := [(2, .int (nI 2)), (1, .int (nI 3)), (0, .ref (h 0))]) hx hb dX10_lay_54 hl (k := 0) rfl (by decide +kernel) (by decide) rfl (fun ls hl => ?_)
  refine lv_goto (tgt := 9) hx hb dX10_lay_57 (by decide) ?_
  refine lv_iload_n hx hb dX10_lay_9 rfl (lv_at hl 0 rfl) ?_
  refine lv_iconst (v := nI 5) hx hb dX10_lay_10 (by decide) ?_
  refine lv_icmp_ge (tgt := 60) hx hb dX10_lay_11 (by decide) (fun c9 => False.elim (by revert c9; decide +kernel)) (fun _ => ?_)
  refine lv_aload_n hx hb dX10_lay_14 rfl (lv_at hl 2 rfl) ?_
  refine va_get (D := (dC, dI)) (ci := 10) (v := .ref (h 17)) (C := RX10) (T := TX10) (N := 28) hx hb hts hinX10 hown hK hP 0 rfl rfl 17 (by decide) (hts (.fieldLink RX10 41 "MixedWordsModel" "cols" "[I") (by decide +kernel)) (fun _ h9 => h9) rfl dX10_lay_15 ?_
  refine lv_iconst (v := nI 5) hx hb dX10_lay_18 (by decide) ?_
  refine lv_iload_n hx hb dX10_lay_19 rfl (lv_at hl 1 rfl) ?_
  refine lv_imul hx hb dX10_lay_20 ?_
  refine xt_i (y := nI 15) (by decide +kernel) ?_
  refine lv_iload_n hx hb dX10_lay_21 rfl (lv_at hl 0 rfl) ?_
  refine lv_iadd hx hb dX10_lay_22 ?_
  refine xt_i (y := nI 17) (by decide +kernel) ?_
  refine lv_iload_n hx hb dX10_lay_23 rfl (lv_at hl 1 rfl) ?_
  refine lv_aload_n hx hb dX10_lay_24 rfl (lv_at hl 2 rfl) ?_
  refine va_get (D := (dC, dI)) (ci := 10) (v := .int (gI 1)) (C := RX10) (T := TX10) (N := 28) hx hb hts hinX10 hown hK hP 0 rfl rfl 1 (by decide) (hts (.fieldLink RX10 13 "MixedWordsModel" "columns" "I") (by decide +kernel)) (fun _ h9 => h9) rfl dX10_lay_25 ?_
  refine xt_i (y := nI 2) (by decide +kernel) ?_
  refine lv_icmp_ge (tgt := 52) hx hb dX10_lay_28 (by decide) (fun _ => ?_) (fun c9 => False.elim (by revert c9; decide +kernel))
  refine lv_iconst (v := nI 0) hx hb dX10_lay_52 (by decide) ?_
  refine xa_iastS hx hb hK hP hD hS 8 0 rfl rfl (by omega) (by decide) (by decide +kernel) dX10_lay_53 (fun H locs hP hD hS => ?_)
  refine lv_iinc (v := nI 3) (lv' := [(2, .int (nI 3)), (1, .int (nI 3)), (0, .ref (h 0))]) hx hb dX10_lay_54 hl (k := 0) rfl (by decide +kernel) (by decide) rfl (fun ls hl => ?_)
  refine lv_goto (tgt := 9) hx hb dX10_lay_57 (by decide) ?_
  refine lv_iload_n hx hb dX10_lay_9 rfl (lv_at hl 0 rfl) ?_
  refine lv_iconst (v := nI 5) hx hb dX10_lay_10 (by decide) ?_
  refine lv_icmp_ge (tgt := 60) hx hb dX10_lay_11 (by decide) (fun c9 => False.elim (by revert c9; decide +kernel)) (fun _ => ?_)
  refine lv_aload_n hx hb dX10_lay_14 rfl (lv_at hl 2 rfl) ?_
  refine va_get (D := (dC, dI)) (ci := 10) (v := .ref (h 17)) (C := RX10) (T := TX10) (N := 28) hx hb hts hinX10 hown hK hP 0 rfl rfl 17 (by decide) (hts (.fieldLink RX10 41 "MixedWordsModel" "cols" "[I") (by decide +kernel)) (fun _ h9 => h9) rfl dX10_lay_15 ?_
  refine lv_iconst (v := nI 5) hx hb dX10_lay_18 (by decide) ?_
  refine lv_iload_n hx hb dX10_lay_19 rfl (lv_at hl 1 rfl) ?_
  refine lv_imul hx hb dX10_lay_20 ?_
  refine xt_i (y := nI 15) (by decide +kernel) ?_
  refine lv_iload_n hx hb dX10_lay_21 rfl (lv_at hl 0 rfl) ?_
  refine lv_iadd hx hb dX10_lay_22 ?_
  refine xt_i (y := nI 18) (by decide +kernel) ?_
  refine lv_iload_n hx hb dX10_lay_23 rfl (lv_at hl 1 rfl) ?_
  refine lv_aload_n hx hb dX10_lay_24 rfl (lv_at hl 2 rfl) ?_
  refine va_get (D := (dC, dI)) (ci := 10) (v := .int (gI 1)) (C := RX10) (T := TX10) (N := 28) hx hb hts hinX10 hown hK hP 0 rfl rfl 1 (by decide) (hts (.fieldLink RX10 13 "MixedWordsModel" "columns" "I") (by decide +kernel)) (fun _ h9 => h9) rfl dX10_lay_25 ?_
  refine xt_i (y := nI 2) (by decide +kernel) ?_
  refine lv_icmp_ge (tgt := 52) hx hb dX10_lay_28 (by decide) (fun _ => ?_) (fun c9 => False.elim (by revert c9; decide +kernel))
  refine lv_iconst (v := nI 0) hx hb dX10_lay_52 (by decide) ?_
  refine xa_iastS hx hb hK hP hD hS 8 0 rfl rfl (by omega) (by decide) (by decide +kernel) dX10_lay_53 (fun H locs hP hD hS => ?_)
  refine lv_iinc (v := nI 4) (lv' := [(2, .int (nI 4)), (1, .int (nI 3)), (0, .ref (h 0))]) hx hb dX10_lay_54 hl (k := 0) rfl (by decide +kernel) (by decide) rfl (fun ls hl => ?_)
  refine lv_goto (tgt := 9) hx hb dX10_lay_57 (by decide) ?_
  refine lv_iload_n hx hb dX10_lay_9 rfl (lv_at hl 0 rfl) ?_
  refine lv_iconst (v := nI 5) hx hb dX10_lay_10 (by decide) ?_
  refine lv_icmp_ge (tgt := 60) hx hb dX10_lay_11 (by decide) (fun c9 => False.elim (by revert c9; decide +kernel)) (fun _ => ?_)
  refine lv_aload_n hx hb dX10_lay_14 rfl (lv_at hl 2 rfl) ?_
  refine va_get (D := (dC, dI)) (ci := 10) (v := .ref (h 17)) (C := RX10) (T := TX10) (N := 28) hx hb hts hinX10 hown hK hP 0 rfl rfl 17 (by decide) (hts (.fieldLink RX10 41 "MixedWordsModel" "cols" "[I") (by decide +kernel)) (fun _ h9 => h9) rfl dX10_lay_15 ?_
  refine lv_iconst (v := nI 5) hx hb dX10_lay_18 (by decide) ?_
  refine lv_iload_n hx hb dX10_lay_19 rfl (lv_at hl 1 rfl) ?_
  refine lv_imul hx hb dX10_lay_20 ?_
  refine xt_i (y := nI 15) (by decide +kernel) ?_
  refine lv_iload_n hx hb dX10_lay_21 rfl (lv_at hl 0 rfl) ?_
  refine lv_iadd hx hb dX10_lay_22 ?_
  refine xt_i (y := nI 19) (by decide +kernel) ?_
  refine lv_iload_n hx hb dX10_lay_23 rfl (lv_at hl 1 rfl) ?_
  refine lv_aload_n hx hb dX10_lay_24 rfl (lv_at hl 2 rfl) ?_
  refine va_get (D := (dC, dI)) (ci := 10) (v := .int (gI 1)) (C := RX10) (T := TX10) (N := 28) hx hb hts hinX10 hown hK hP 0 rfl rfl 1 (by decide) (hts (.fieldLink RX10 13 "MixedWordsModel" "columns" "I") (by decide +kernel)) (fun _ h9 => h9) rfl dX10_lay_25 ?_
  refine xt_i (y := nI 2) (by decide +kernel) ?_
  refine lv_icmp_ge (tgt := 52) hx hb dX10_lay_28 (by decide) (fun _ => ?_) (fun c9 => False.elim (by revert c9; decide +kernel))
  refine lv_iconst (v := nI 0) hx hb dX10_lay_52 (by decide) ?_
  refine xa_iastS hx hb hK hP hD hS 8 0 rfl rfl (by omega) (by decide) (by decide +kernel) dX10_lay_53 (fun H locs hP hD hS => ?_)
  refine lv_iinc (v := nI 5) (lv' := [(2, .int (nI 5)), (1, .int (nI 3)), (0, .ref (h 0))]) hx hb dX10_lay_54 hl (k := 0) rfl (by decide +kernel) (by decide) rfl (fun ls hl => ?_)
  refine lv_goto (tgt := 9) hx hb dX10_lay_57 (by decide) ?_
  refine lv_iload_n hx hb dX10_lay_9 rfl (lv_at hl 0 rfl) ?_
  refine lv_iconst (v := nI 5) hx hb dX10_lay_10 (by decide) ?_
  refine lv_icmp_ge (tgt := 60) hx hb dX10_lay_11 (by decide) (fun _ => ?_) (fun c9 => False.elim (by revert c9; decide +kernel))
  refine lv_iconst (v := nI 0) hx hb dX10_lay_60 (by decide) ?_
  refine lv_istore_n (lv' := [(2, .int (nI 0)), (1, .int (nI 3)), (0, .ref (h 0))]) hx hb dX10_lay_61 rfl hl (by decide) rfl (fun ls hl => ?_)
  refine lv_iload_n hx hb dX10_lay_62 rfl (lv_at hl 0 rfl) ?_
  refine lv_iconst (v := nI 4) hx hb dX10_lay_63 (by decide) ?_
  refine lv_icmp_ge (tgt := 93) hx hb dX10_lay_64 (by decide) (fun c9 => False.elim (by revert c9; decide +kernel)) (fun _ => ?_)
  refine lv_aload_n hx hb dX10_lay_67 rfl (lv_at hl 2 rfl) ?_
  refine va_get (D := (dC, dI)) (ci := 10) (v := .ref (h 18)) (C := RX10) (T := TX10) (N := 28) hx hb hts hinX10 hown hK hP 0 rfl rfl 18 (by decide) (hts (.fieldLink RX10 44 "MixedWordsModel" "trans" "[I") (by decide +kernel)) (fun _ h9 => h9) rfl dX10_lay_68 ?_
  refine lv_iconst (v := nI 4) hx hb dX10_lay_71 (by decide) ?_
  refine lv_iload_n hx hb dX10_lay_72 rfl (lv_at hl 0 rfl) ?_
  refine lv_imul hx hb dX10_lay_73 ?_
  refine xt_i (y := nI 0) (by decide +kernel) ?_
  refine lv_iload_n hx hb dX10_lay_74 rfl (lv_at hl 1 rfl) ?_
  refine lv_iadd hx hb dX10_lay_75 ?_
  refine xt_i (y := nI 3) (by decide +kernel) ?_
  refine lv_iload_n hx hb dX10_lay_76 rfl (lv_at hl 0 rfl) ?_
  refine lv_iload_n hx hb dX10_lay_77 rfl (lv_at hl 1 rfl) ?_
  refine lv_icmp_ne (tgt := 85) hx hb dX10_lay_78 (by decide) (fun _ => ?_) (fun c9 => False.elim (by revert c9; decide +kernel))
  refine lv_iconst (v := nI 0) hx hb dX10_lay_85 (by decide) ?_
  refine xa_iastS hx hb hK hP hD hS 9 0 rfl rfl (by omega) (by decide) (by decide +kernel) dX10_lay_86 (fun H locs hP hD hS => ?_)
  refine lv_iinc (v := nI 1) (lv' := [(2, .int (nI 1)), (1, .int (nI 3)), (0, .ref (h 0))]) hx hb dX10_lay_87 hl (k := 0) rfl (by decide +kernel) (by decide) rfl (fun ls hl => ?_)
  refine lv_goto (tgt := 62) hx hb dX10_lay_90 (by decide) ?_
  refine lv_iload_n hx hb dX10_lay_62 rfl (lv_at hl 0 rfl) ?_
  refine lv_iconst (v := nI 4) hx hb dX10_lay_63 (by decide) ?_
  refine lv_icmp_ge (tgt := 93) hx hb dX10_lay_64 (by decide) (fun c9 => False.elim (by revert c9; decide +kernel)) (fun _ => ?_)
  refine lv_aload_n hx hb dX10_lay_67 rfl (lv_at hl 2 rfl) ?_
  refine va_get (D := (dC, dI)) (ci := 10) (v := .ref (h 18)) (C := RX10) (T := TX10) (N := 28) hx hb hts hinX10 hown hK hP 0 rfl rfl 18 (by decide) (hts (.fieldLink RX10 44 "MixedWordsModel" "trans" "[I") (by decide +kernel)) (fun _ h9 => h9) rfl dX10_lay_68 ?_
  refine lv_iconst (v := nI 4) hx hb dX10_lay_71 (by decide) ?_
  refine lv_iload_n hx hb dX10_lay_72 rfl (lv_at hl 0 rfl) ?_
  refine lv_imul hx hb dX10_lay_73 ?_
  refine xt_i (y := nI 4) (by decide +kernel) ?_
  refine lv_iload_n hx hb dX10_lay_74 rfl (lv_at hl 1 rfl) ?_
  refine lv_iadd hx hb dX10_lay_75 ?_
  refine xt_i (y := nI 7) (by decide +kernel) ?_
  refine lv_iload_n hx hb dX10_lay_76 rfl (lv_at hl 0 rfl) ?_
  refine lv_iload_n hx hb dX10_lay_77 rfl (lv_at hl 1 rfl) ?_
  refine lv_icmp_ne (tgt := 85) hx hb dX10_lay_78 (by decide) (fun _ => ?_) (fun c9 => False.elim (by revert c9; decide +kernel))
  refine lv_iconst (v := nI 0) hx hb dX10_lay_85 (by decide) ?_
  refine xa_iastS hx hb hK hP hD hS 9 0 rfl rfl (by omega) (by decide) (by decide +kernel) dX10_lay_86 (fun H locs hP hD hS => ?_)
  refine lv_iinc (v := nI 2) (lv' := [(2, .int (nI 2)), (1, .int (nI 3)), (0, .ref (h 0))]) hx hb dX10_lay_87 hl (k := 0) rfl (by decide +kernel) (by decide) rfl (fun ls hl => ?_)
  refine lv_goto (tgt := 62) hx hb dX10_lay_90 (by decide) ?_
  refine lv_iload_n hx hb dX10_lay_62 rfl (lv_at hl 0 rfl) ?_
  refine lv_iconst (v := nI 4) hx hb dX10_lay_63 (by decide) ?_
  refine lv_icmp_ge (tgt := 93) hx hb dX10_lay_64 (by decide) (fun c9 => False.elim (by revert c9; decide +kernel)) (fun _ => ?_)
  refine lv_aload_n hx hb dX10_lay_67 rfl (lv_at hl 2 rfl) ?_
  refine va_get (D := (dC, dI)) (ci := 10) (v := .ref (h 18)) (C := RX10) (T := TX10) (N := 28) hx hb hts hinX10 hown hK hP 0 rfl rfl 18 (by decide) (hts (.fieldLink RX10 44 "MixedWordsModel" "trans" "[I") (by decide +kernel)) (fun _ h9 => h9) rfl dX10_lay_68 ?_
  refine lv_iconst (v := nI 4) hx hb dX10_lay_71 (by decide) ?_
  refine lv_iload_n hx hb dX10_lay_72 rfl (lv_at hl 0 rfl) ?_
  refine lv_imul hx hb dX10_lay_73 ?_
  refine xt_i (y := nI 8) (by decide +kernel) ?_
  refine lv_iload_n hx hb dX10_lay_74 rfl (lv_at hl 1 rfl) ?_
  refine lv_iadd hx hb dX10_lay_75 ?_
  refine xt_i (y := nI 11) (by decide +kernel) ?_
  refine lv_iload_n hx hb dX10_lay_76 rfl (lv_at hl 0 rfl) ?_
  refine lv_iload_n hx hb dX10_lay_77 rfl (lv_at hl 1 rfl) ?_
  refine lv_icmp_ne (tgt := 85) hx hb dX10_lay_78 (by decide) (fun _ => ?_) (fun c9 => False.elim (by revert c9; decide +kernel))
  refine lv_iconst (v := nI 0) hx hb dX10_lay_85 (by decide) ?_
  refine xa_iastS hx hb hK hP hD hS 9 0 rfl rfl (by omega) (by decide) (by decide +kernel) dX10_lay_86 (fun H locs hP hD hS => ?_)
  refine lv_iinc (v := nI 3) (lv' := [(2, .int (nI 3)), (1, .int (nI 3)), (0, .ref (h 0))]) hx hb dX10_lay_87 hl (k := 0) rfl (by decide +kernel) (by decide) rfl (fun ls hl => ?_)
  refine lv_goto (tgt := 62) hx hb dX10_lay_90 (by decide) ?_
  refine lv_iload_n hx hb dX10_lay_62 rfl (lv_at hl 0 rfl) ?_
  refine lv_iconst (v := nI 4) hx hb dX10_lay_63 (by decide) ?_
  refine lv_icmp_ge (tgt := 93) hx hb dX10_lay_64 (by decide) (fun c9 => False.elim (by revert c9; decide +kernel)) (fun _ => ?_)
  refine lv_aload_n hx hb dX10_lay_67 rfl (lv_at hl 2 rfl) ?_
  refine va_get (D := (dC, dI)) (ci := 10) (v := .ref (h 18)) (C := RX10) (T := TX10) (N := 28) hx hb hts hinX10 hown hK hP 0 rfl rfl 18 (by decide) (hts (.fieldLink RX10 44 "MixedWordsModel" "trans" "[I") (by decide +kernel)) (fun _ h9 => h9) rfl dX10_lay_68 ?_
  refine lv_iconst (v := nI 4) hx hb dX10_lay_71 (by decide) ?_
  refine lv_iload_n hx hb dX10_lay_72 rfl (lv_at hl 0 rfl) ?_
  refine lv_imul hx hb dX10_lay_73 ?_
  refine xt_i (y := nI 12) (by decide +kernel) ?_
  refine lv_iload_n hx hb dX10_lay_74 rfl (lv_at hl 1 rfl) ?_
  refine lv_iadd hx hb dX10_lay_75 ?_
  refine xt_i (y := nI 15) (by decide +kernel) ?_
  refine lv_iload_n hx hb dX10_lay_76 rfl (lv_at hl 0 rfl) ?_
  refine lv_iload_n hx hb dX10_lay_77 rfl (lv_at hl 1 rfl) ?_
  refine lv_icmp_ne (tgt := 85) hx hb dX10_lay_78 (by decide) (fun c9 => False.elim (by revert c9; decide +kernel)) (fun _ => ?_)
  refine lv_iconst (v := nI 1) hx hb dX10_lay_81 (by decide) ?_
  refine lv_goto (tgt := 86) hx hb dX10_lay_82 (by decide) ?_
  refine xa_iast hx hb hK hP hD hS 9 0 rfl rfl (by omega) (by decide) dX10_lay_86 (fun H locs hP hD hS => ?_)
  have hP : va_P (dC, dI) vwCl (wD_177 h cs gI gL (va_up gA 18 (upd (upd (upd (upd (gA 18) 0 (nI 1)) 5 (nI 1)) 10 (nI 1)) 15 (nI 1))) gQ) H := hP
  have hD : va_D A0 (wD_177 h cs gI gL (va_up gA 18 (upd (upd (upd (upd (gA 18) 0 (nI 1)) 5 (nI 1)) 10 (nI 1)) 15 (nI 1))) gQ) := hD
  refine lv_iinc (v := nI 4) (lv' := [(2, .int (nI 4)), (1, .int (nI 3)), (0, .ref (h 0))]) hx hb dX10_lay_87 hl (k := 0) rfl (by decide +kernel) (by decide) rfl (fun ls hl => ?_)
  refine lv_goto (tgt := 62) hx hb dX10_lay_90 (by decide) ?_
  refine lv_iload_n hx hb dX10_lay_62 rfl (lv_at hl 0 rfl) ?_
  refine lv_iconst (v := nI 4) hx hb dX10_lay_63 (by decide) ?_
  refine lv_icmp_ge (tgt := 93) hx hb dX10_lay_64 (by decide) (fun _ => ?_) (fun c9 => False.elim (by revert c9; decide +kernel))
  refine lv_iinc (v := nI 4) (lv' := [(1, .int (nI 4)), (2, .int (nI 4)), (0, .ref (h 0))]) hx hb dX10_lay_93 hl (k := 1) rfl (by decide +kernel) (by decide) rfl (fun ls hl => ?_)
  refine lv_goto (tgt := 2) hx hb dX10_lay_96 (by decide) ?_
  refine lv_iload_n hx hb dX10_lay_2 rfl (lv_at hl 0 rfl) ?_
  refine lv_iconst (v := nI 4) hx hb dX10_lay_3 (by decide) ?_
  refine lv_icmp_ge (tgt := 99) hx hb dX10_lay_4 (by decide) (fun _ => ?_) (fun c9 => False.elim (by revert c9; decide +kernel))
  have hP : va_P (dC, dI) vwCl (wD_177 h cs gI gL qA_210 gQ) H := hP
  have hD : va_D A0 (wD_177 h cs gI gL qA_210 gQ) := hD
  exact xr_v hx hb hr hlocks hK hS dX10_lay_99 (gI, gL, qA_210, gQ) ⟨trivial, rfl⟩ hP hD
set_option maxHeartbeats 4000000 in
set_option maxRecDepth 100000 in
theorem a_X10_dot_212 (l : Launch) (dC : Nat → ClassId) (dI : Nat → Nat → Nat) (h : Nat → Nat) (cs : Nat → ClassId) (sz : Nat) (I : Nat → Int32) (L : Nat → Int64) (A : Nat → Nat → Int32) (Q : Nat → Nat → Int64) : Met l yX10_dot wsX10_dot ({ frames := 0, cells := 0, slots := 0, locals := 0 }) (va_Pc [.ref (h 0), .int (nI 0), .int (nI 0)] (xPre (dC, dI) (wD_177 h cs gI gL qA_210 gQ) (tysA cs) sz)) (va_Qi (fun (r : Int32) (u : RS) => (r = nI 0) ∧ u = (gI, gL, qA_210, gQ)) (xB (dC, dI) (tysA cs) (va_A (wD_177 h cs gI gL qA_210 gQ) sz) (fun u : RS => wD_177 h cs u.1 u.2.1 u.2.2.1 u.2.2.2)) (va_A (wD_177 h cs gI gL qA_210 gQ) sz)) 0 0 (va_A (wD_177 h cs gI gL qA_210 gQ) sz) := by
  refine Met.ofW (cc := cX10_dot) (maxL := 5) (ret := (some .int)) (by decide) rfl ?_
  intro p e s m args below meth c s₁ B hml hv
  obtain ⟨rfl, hsz, hP, hK, hD0, hN⟩ := hv
  have hx := B.exec
  have hb := B.bytes
  have hr := B.returns
  have hts := atoms_spec (ws := wsX10_dot) B.pre
  have hown : s.vm.findClass RX10 = some m.cls := findClass_of_methodNamed B.named
  have hlocks := B.notSynchronized
  subst hsz
  have hD := hD0.self (sz := s.heap.size)
  generalize hAe : va_A (wD_177 h cs gI gL qA_210 gQ) s.heap.size = A0 at hD ⊢
  have hA : ∀ q : Nat, s.heap.size ≤ q → A0 q := fun q h => by rw [← hAe]; exact Or.inr h
  have hl := lv_entry ([.ref (h 0), .int (nI 0), .int (nI 0)]) (n := 5) (Nat.le_of_ble_eq_true rfl)
  rw [lg_entry_eq]
  generalize (lg_sl ([.ref (h 0), .int (nI 0), .int (nI 0)]) ++ List.replicate (5 - (lg_sl ([.ref (h 0), .int (nI 0), .int (nI 0)])).length) Slot.unset).toArray = ls at hl ⊢
  have hl : lv_has ls 5 [(0, .ref (h 0)), (1, .int (nI 0)), (2, .int (nI 0))] := hl
  generalize hH : s.heap = H at hP ⊢
  have hS : va_S A0 s.heap H [] := by rw [← hH]; exact va_S.rf
  have hinX10 : ∀ w ∈ wsX100, w ∈ wsX10_dot := by decide +kernel
  refine lv_iconst (v := nI 0) hx hb dX10_dot_0 (by decide) ?_
  refine lv_istore_n (lv' := [(3, .int (nI 0)), (0, .ref (h 0)), (1, .int (nI 0)), (2, .int (nI 0))]) hx hb dX10_dot_1 rfl hl (by decide) rfl (fun ls hl => ?_)
  refine lv_iconst (v := nI 0) hx hb dX10_dot_2 (by decide) ?_
  refine lv_istore (lv' := [(4, .int (nI 0)), (3, .int (nI 0)), (0, .ref (h 0)), (1, .int (nI 0)), (2, .int (nI 0))]) hx hb dX10_dot_3 hl (by decide) rfl (fun ls hl => ?_)
  refine lv_iload hx hb dX10_dot_5 (lv_at hl 0 rfl) ?_
  refine lv_iconst (v := nI 5) hx hb dX10_dot_7 (by decide) ?_
  refine lv_icmp_ge (tgt := 43) hx hb dX10_dot_8 (by decide) (fun c9 => False.elim (by revert c9; decide +kernel)) (fun _ => ?_)
  refine lv_iload_n hx hb dX10_dot_11 rfl (lv_at hl 1 rfl) ?_
  refine lv_aload_n hx hb dX10_dot_12 rfl (lv_at hl 2 rfl) ?_
  refine va_get (D := (dC, dI)) (ci := 10) (v := .ref (h 17)) (C := RX10) (T := TX10) (N := 28) hx hb hts hinX10 hown hK hP 0 rfl rfl 17 (by decide) (hts (.fieldLink RX10 41 "MixedWordsModel" "cols" "[I") (by decide +kernel)) (fun _ h9 => h9) rfl dX10_dot_13 ?_
  refine lv_iconst (v := nI 5) hx hb dX10_dot_16 (by decide) ?_
  refine lv_iload_n hx hb dX10_dot_17 rfl (lv_at hl 3 rfl) ?_
  refine lv_imul hx hb dX10_dot_18 ?_
  refine xt_i (y := nI 0) (by decide +kernel) ?_
  refine lv_iload hx hb dX10_dot_19 (lv_at hl 0 rfl) ?_
  refine lv_iadd hx hb dX10_dot_21 ?_
  refine xt_i (y := nI 0) (by decide +kernel) ?_
  refine xa_iald hx hb hK hP 8 0 rfl rfl (by omega) (by decide) dX10_dot_22 ?_
  refine xt_i (y := nI 0) (by decide +kernel) ?_
  refine lv_aload_n hx hb dX10_dot_23 rfl (lv_at hl 2 rfl) ?_
  refine va_get (D := (dC, dI)) (ci := 10) (v := .ref (h 17)) (C := RX10) (T := TX10) (N := 28) hx hb hts hinX10 hown hK hP 0 rfl rfl 17 (by decide) (hts (.fieldLink RX10 41 "MixedWordsModel" "cols" "[I") (by decide +kernel)) (fun _ h9 => h9) rfl dX10_dot_24 ?_
  refine lv_iconst (v := nI 5) hx hb dX10_dot_27 (by decide) ?_
  refine lv_iload_n hx hb dX10_dot_28 rfl (lv_at hl 4 rfl) ?_
  refine lv_imul hx hb dX10_dot_29 ?_
  refine xt_i (y := nI 0) (by decide +kernel) ?_
  refine lv_iload hx hb dX10_dot_30 (lv_at hl 0 rfl) ?_
  refine lv_iadd hx hb dX10_dot_32 ?_
  refine xt_i (y := nI 0) (by decide +kernel) ?_
  refine xa_iald hx hb hK hP 8 0 rfl rfl (by omega) (by decide) dX10_dot_33 ?_
  refine xt_i (y := nI 0) (by decide +kernel) ?_
  refine lv_imul hx hb dX10_dot_34 ?_
  refine xt_i (y := nI 0) (by decide +kernel) ?_
  refine lv_iadd hx hb dX10_dot_35 ?_
  refine xt_i (y := nI 0) (by decide +kernel) ?_
  refine lv_istore_n (lv' := [(3, .int (nI 0)), (4, .int (nI 0)), (0, .ref (h 0)), (1, .int (nI 0)), (2, .int (nI 0))]) hx hb dX10_dot_36 rfl hl (by decide) rfl (fun ls hl => ?_)
  refine lv_iinc (v := nI 1) (lv' := [(4, .int (nI 1)), (3, .int (nI 0)), (0, .ref (h 0)), (1, .int (nI 0)), (2, .int (nI 0))]) hx hb dX10_dot_37 hl (k := 1) rfl (by decide +kernel) (by decide) rfl (fun ls hl => ?_)
  refine lv_goto (tgt := 5) hx hb dX10_dot_40 (by decide) ?_
  refine lv_iload hx hb dX10_dot_5 (lv_at hl 0 rfl) ?_
  refine lv_iconst (v := nI 5) hx hb dX10_dot_7 (by decide) ?_
  refine lv_icmp_ge (tgt := 43) hx hb dX10_dot_8 (by decide) (fun c9 => False.elim (by revert c9; decide +kernel)) (fun _ => ?_)
  refine lv_iload_n hx hb dX10_dot_11 rfl (lv_at hl 1 rfl) ?_
  refine lv_aload_n hx hb dX10_dot_12 rfl (lv_at hl 2 rfl) ?_
  refine va_get (D := (dC, dI)) (ci := 10) (v := .ref (h 17)) (C := RX10) (T := TX10) (N := 28) hx hb hts hinX10 hown hK hP 0 rfl rfl 17 (by decide) (hts (.fieldLink RX10 41 "MixedWordsModel" "cols" "[I") (by decide +kernel)) (fun _ h9 => h9) rfl dX10_dot_13 ?_
  refine lv_iconst (v := nI 5) hx hb dX10_dot_16 (by decide) ?_
  refine lv_iload_n hx hb dX10_dot_17 rfl (lv_at hl 3 rfl) ?_
  refine lv_imul hx hb dX10_dot_18 ?_
  refine xt_i (y := nI 0) (by decide +kernel) ?_
  refine lv_iload hx hb dX10_dot_19 (lv_at hl 0 rfl) ?_
  refine lv_iadd hx hb dX10_dot_21 ?_
  refine xt_i (y := nI 1) (by decide +kernel) ?_
  refine xa_iald hx hb hK hP 8 0 rfl rfl (by omega) (by decide) dX10_dot_22 ?_
  refine xt_i (y := nI 0) (by decide +kernel) ?_
  refine lv_aload_n hx hb dX10_dot_23 rfl (lv_at hl 2 rfl) ?_
  refine va_get (D := (dC, dI)) (ci := 10) (v := .ref (h 17)) (C := RX10) (T := TX10) (N := 28) hx hb hts hinX10 hown hK hP 0 rfl rfl 17 (by decide) (hts (.fieldLink RX10 41 "MixedWordsModel" "cols" "[I") (by decide +kernel)) (fun _ h9 => h9) rfl dX10_dot_24 ?_
  refine lv_iconst (v := nI 5) hx hb dX10_dot_27 (by decide) ?_
  refine lv_iload_n hx hb dX10_dot_28 rfl (lv_at hl 4 rfl) ?_
  refine lv_imul hx hb dX10_dot_29 ?_
  refine xt_i (y := nI 0) (by decide +kernel) ?_
  refine lv_iload hx hb dX10_dot_30 (lv_at hl 0 rfl) ?_
  refine lv_iadd hx hb dX10_dot_32 ?_
  refine xt_i (y := nI 1) (by decide +kernel) ?_
  refine xa_iald hx hb hK hP 8 0 rfl rfl (by omega) (by decide) dX10_dot_33 ?_
  refine xt_i (y := nI 0) (by decide +kernel) ?_
  refine lv_imul hx hb dX10_dot_34 ?_
  refine xt_i (y := nI 0) (by decide +kernel) ?_
  refine lv_iadd hx hb dX10_dot_35 ?_
  refine xt_i (y := nI 0) (by decide +kernel) ?_
  refine lv_istore_n (lv' := [(3, .int (nI 0)), (4, .int (nI 1)), (0, .ref (h 0)), (1, .int (nI 0)), (2, .int (nI 0))]) hx hb dX10_dot_36 rfl hl (by decide) rfl (fun ls hl => ?_)
  refine lv_iinc (v := nI 2) (lv' := [(4, .int (nI 2)), (3, .int (nI 0)), (0, .ref (h 0)), (1, .int (nI 0)), (2, .int (nI 0))]) hx hb dX10_dot_37 hl (k := 1) rfl (by decide +kernel) (by decide) rfl (fun ls hl => ?_)
  refine lv_goto (tgt := 5) hx hb dX10_dot_40 (by decide) ?_
  refine lv_iload hx hb dX10_dot_5 (lv_at hl 0 rfl) ?_
  refine lv_iconst (v := nI 5) hx hb dX10_dot_7 (by decide) ?_
  refine lv_icmp_ge (tgt := 43) hx hb dX10_dot_8 (by decide) (fun c9 => False.elim (by revert c9; decide +kernel)) (fun _ => ?_)
  refine lv_iload_n hx hb dX10_dot_11 rfl (lv_at hl 1 rfl) ?_
  refine lv_aload_n hx hb dX10_dot_12 rfl (lv_at hl 2 rfl) ?_
  refine va_get (D := (dC, dI)) (ci := 10) (v := .ref (h 17)) (C := RX10) (T := TX10) (N := 28) hx hb hts hinX10 hown hK hP 0 rfl rfl 17 (by decide) (hts (.fieldLink RX10 41 "MixedWordsModel" "cols" "[I") (by decide +kernel)) (fun _ h9 => h9) rfl dX10_dot_13 ?_
  refine lv_iconst (v := nI 5) hx hb dX10_dot_16 (by decide) ?_
  refine lv_iload_n hx hb dX10_dot_17 rfl (lv_at hl 3 rfl) ?_
  refine lv_imul hx hb dX10_dot_18 ?_
  refine xt_i (y := nI 0) (by decide +kernel) ?_
  refine lv_iload hx hb dX10_dot_19 (lv_at hl 0 rfl) ?_
  refine lv_iadd hx hb dX10_dot_21 ?_
  refine xt_i (y := nI 2) (by decide +kernel) ?_
  refine xa_iald hx hb hK hP 8 0 rfl rfl (by omega) (by decide) dX10_dot_22 ?_
  refine xt_i (y := nI 0) (by decide +kernel) ?_
  refine lv_aload_n hx hb dX10_dot_23 rfl (lv_at hl 2 rfl) ?_
  refine va_get (D := (dC, dI)) (ci := 10) (v := .ref (h 17)) (C := RX10) (T := TX10) (N := 28) hx hb hts hinX10 hown hK hP 0 rfl rfl 17 (by decide) (hts (.fieldLink RX10 41 "MixedWordsModel" "cols" "[I") (by decide +kernel)) (fun _ h9 => h9) rfl dX10_dot_24 ?_
  refine lv_iconst (v := nI 5) hx hb dX10_dot_27 (by decide) ?_
  refine lv_iload_n hx hb dX10_dot_28 rfl (lv_at hl 4 rfl) ?_
  refine lv_imul hx hb dX10_dot_29 ?_
  refine xt_i (y := nI 0) (by decide +kernel) ?_
  refine lv_iload hx hb dX10_dot_30 (lv_at hl 0 rfl) ?_
  refine lv_iadd hx hb dX10_dot_32 ?_
  refine xt_i (y := nI 2) (by decide +kernel) ?_
  refine xa_iald hx hb hK hP 8 0 rfl rfl (by omega) (by decide) dX10_dot_33 ?_
  refine xt_i (y := nI 0) (by decide +kernel) ?_
  refine lv_imul hx hb dX10_dot_34 ?_
  refine xt_i (y := nI 0) (by decide +kernel) ?_
  refine lv_iadd hx hb dX10_dot_35 ?_
  refine xt_i (y := nI 0) (by decide +kernel) ?_
  refine lv_istore_n (lv' := [(3, .int (nI 0)), (4, .int (nI 2)), (0, .ref (h 0)), (1, .int (nI 0)), (2, .int (nI 0))]) hx hb dX10_dot_36 rfl hl (by decide) rfl (fun ls hl => ?_)
  refine lv_iinc (v := nI 3) (lv' := [(4, .int (nI 3)), (3, .int (nI 0)), (0, .ref (h 0)), (1, .int (nI 0)), (2, .int (nI 0))]) hx hb dX10_dot_37 hl (k := 1) rfl (by decide +kernel) (by decide) rfl (fun ls hl => ?_)
  refine lv_goto (tgt := 5) hx hb dX10_dot_40 (by decide) ?_
  refine lv_iload hx hb dX10_dot_5 (lv_at hl 0 rfl) ?_
  refine lv_iconst (v := nI 5) hx hb dX10_dot_7 (by decide) ?_
  refine lv_icmp_ge (tgt := 43) hx hb dX10_dot_8 (by decide) (fun c9 => False.elim (by revert c9; decide +kernel)) (fun _ => ?_)
  refine lv_iload_n hx hb dX10_dot_11 rfl (lv_at hl 1 rfl) ?_
  refine lv_aload_n hx hb dX10_dot_12 rfl (lv_at hl 2 rfl) ?_
  refine va_get (D := (dC, dI)) (ci := 10) (v := .ref (h 17)) (C := RX10) (T := TX10) (N := 28) hx hb hts hinX10 hown hK hP 0 rfl rfl 17 (by decide) (hts (.fieldLink RX10 41 "MixedWordsModel" "cols" "[I") (by decide +kernel)) (fun _ h9 => h9) rfl dX10_dot_13 ?_
  refine lv_iconst (v := nI 5) hx hb dX10_dot_16 (by decide) ?_
  refine lv_iload_n hx hb dX10_dot_17 rfl (lv_at hl 3 rfl) ?_
  refine lv_imul hx hb dX10_dot_18 ?_
  refine xt_i (y := nI 0) (by decide +kernel) ?_
  refine lv_iload hx hb dX10_dot_19 (lv_at hl 0 rfl) ?_
  refine lv_iadd hx hb dX10_dot_21 ?_
  refine xt_i (y := nI 3) (by decide +kernel) ?_
  refine xa_iald hx hb hK hP 8 0 rfl rfl (by omega) (by decide) dX10_dot_22 ?_
  refine xt_i (y := nI 0) (by decide +kernel) ?_
  refine lv_aload_n hx hb dX10_dot_23 rfl (lv_at hl 2 rfl) ?_
  refine va_get (D := (dC, dI)) (ci := 10) (v := .ref (h 17)) (C := RX10) (T := TX10) (N := 28) hx hb hts hinX10 hown hK hP 0 rfl rfl 17 (by decide) (hts (.fieldLink RX10 41 "MixedWordsModel" "cols" "[I") (by decide +kernel)) (fun _ h9 => h9) rfl dX10_dot_24 ?_
  refine lv_iconst (v := nI 5) hx hb dX10_dot_27 (by decide) ?_
  refine lv_iload_n hx hb dX10_dot_28 rfl (lv_at hl 4 rfl) ?_
  refine lv_imul hx hb dX10_dot_29 ?_
  refine xt_i (y := nI 0) (by decide +kernel) ?_
  refine lv_iload hx hb dX10_dot_30 (lv_at hl 0 rfl) ?_
  refine lv_iadd hx hb dX10_dot_32 ?_
  refine xt_i (y := nI 3) (by decide +kernel) ?_
  refine xa_iald hx hb hK hP 8 0 rfl rfl (by omega) (by decide) dX10_dot_33 ?_
  refine xt_i (y := nI 0) (by decide +kernel) ?_
  refine lv_imul hx hb dX10_dot_34 ?_
  refine xt_i (y := nI 0) (by decide +kernel) ?_
  refine lv_iadd hx hb dX10_dot_35 ?_
  refine xt_i (y := nI 0) (by decide +kernel) ?_
  refine lv_istore_n (lv' := [(3, .int (nI 0)), (4, .int (nI 3)), (0, .ref (h 0)), (1, .int (nI 0)), (2, .int (nI 0))]) hx hb dX10_dot_36 rfl hl (by decide) rfl (fun ls hl => ?_)
  refine lv_iinc (v := nI 4) (lv' := [(4, .int (nI 4)), (3, .int (nI 0)), (0, .ref (h 0)), (1, .int (nI 0)), (2, .int (nI 0))]) hx hb dX10_dot_37 hl (k := 1) rfl (by decide +kernel) (by decide) rfl (fun ls hl => ?_)
  refine lv_goto (tgt := 5) hx hb dX10_dot_40 (by decide) ?_
  refine lv_iload hx hb dX10_dot_5 (lv_at hl 0 rfl) ?_
  refine lv_iconst (v := nI 5) hx hb dX10_dot_7 (by decide) ?_
  refine lv_icmp_ge (tgt := 43) hx hb dX10_dot_8 (by decide) (fun c9 => False.elim (by revert c9; decide +kernel)) (fun _ => ?_)
  refine lv_iload_n hx hb dX10_dot_11 rfl (lv_at hl 1 rfl) ?_
  refine lv_aload_n hx hb dX10_dot_12 rfl (lv_at hl 2 rfl) ?_
  refine va_get (D := (dC, dI)) (ci := 10) (v := .ref (h 17)) (C := RX10) (T := TX10) (N := 28) hx hb hts hinX10 hown hK hP 0 rfl rfl 17 (by decide) (hts (.fieldLink RX10 41 "MixedWordsModel" "cols" "[I") (by decide +kernel)) (fun _ h9 => h9) rfl dX10_dot_13 ?_
  refine lv_iconst (v := nI 5) hx hb dX10_dot_16 (by decide) ?_
  refine lv_iload_n hx hb dX10_dot_17 rfl (lv_at hl 3 rfl) ?_
  refine lv_imul hx hb dX10_dot_18 ?_
  refine xt_i (y := nI 0) (by decide +kernel) ?_
  refine lv_iload hx hb dX10_dot_19 (lv_at hl 0 rfl) ?_
  refine lv_iadd hx hb dX10_dot_21 ?_
  refine xt_i (y := nI 4) (by decide +kernel) ?_
  refine xa_iald hx hb hK hP 8 0 rfl rfl (by omega) (by decide) dX10_dot_22 ?_
  refine xt_i (y := nI 0) (by decide +kernel) ?_
  refine lv_aload_n hx hb dX10_dot_23 rfl (lv_at hl 2 rfl) ?_
  refine va_get (D := (dC, dI)) (ci := 10) (v := .ref (h 17)) (C := RX10) (T := TX10) (N := 28) hx hb hts hinX10 hown hK hP 0 rfl rfl 17 (by decide) (hts (.fieldLink RX10 41 "MixedWordsModel" "cols" "[I") (by decide +kernel)) (fun _ h9 => h9) rfl dX10_dot_24 ?_
  refine lv_iconst (v := nI 5) hx hb dX10_dot_27 (by decide) ?_
  refine lv_iload_n hx hb dX10_dot_28 rfl (lv_at hl 4 rfl) ?_
  refine lv_imul hx hb dX10_dot_29 ?_
  refine xt_i (y := nI 0) (by decide +kernel) ?_
  refine lv_iload hx hb dX10_dot_30 (lv_at hl 0 rfl) ?_
  refine lv_iadd hx hb dX10_dot_32 ?_
  refine xt_i (y := nI 4) (by decide +kernel) ?_
  refine xa_iald hx hb hK hP 8 0 rfl rfl (by omega) (by decide) dX10_dot_33 ?_
  refine xt_i (y := nI 0) (by decide +kernel) ?_
  refine lv_imul hx hb dX10_dot_34 ?_
  refine xt_i (y := nI 0) (by decide +kernel) ?_
  refine lv_iadd hx hb dX10_dot_35 ?_
  refine xt_i (y := nI 0) (by decide +kernel) ?_
  refine lv_istore_n (lv' := [(3, .int (nI 0)), (4, .int (nI 4)), (0, .ref (h 0)), (1, .int (nI 0)), (2, .int (nI 0))]) hx hb dX10_dot_36 rfl hl (by decide) rfl (fun ls hl => ?_)
  refine lv_iinc (v := nI 5) (lv' := [(4, .int (nI 5)), (3, .int (nI 0)), (0, .ref (h 0)), (1, .int (nI 0)), (2, .int (nI 0))]) hx hb dX10_dot_37 hl (k := 1) rfl (by decide +kernel) (by decide) rfl (fun ls hl => ?_)
  refine lv_goto (tgt := 5) hx hb dX10_dot_40 (by decide) ?_
  refine lv_iload hx hb dX10_dot_5 (lv_at hl 0 rfl) ?_
  refine lv_iconst (v := nI 5) hx hb dX10_dot_7 (by decide) ?_
  refine lv_icmp_ge (tgt := 43) hx hb dX10_dot_8 (by decide) (fun _ => ?_) (fun c9 => False.elim (by revert c9; decide +kernel))
  refine lv_iload_n hx hb dX10_dot_43 rfl (lv_at hl 1 rfl) ?_
  exact xr_i (v := (nI 0)) hx hb hr hlocks hK hS dX10_dot_44 (gI, gL, qA_210, gQ) ⟨rfl, rfl⟩ hP hD
set_option maxHeartbeats 4000000 in
set_option maxRecDepth 100000 in
theorem a_X10_determinant_213 (l : Launch) (dC : Nat → ClassId) (dI : Nat → Nat → Nat) (h : Nat → Nat) (cs : Nat → ClassId) (sz : Nat) (I : Nat → Int32) (L : Nat → Int64) (A : Nat → Nat → Int32) (Q : Nat → Nat → Int64) : Met l yX10_determinant wsX10_determinant ({ frames := 0, cells := 0, slots := 0, locals := 0 }) (va_Pc [.ref (h 0), .int (nI 1)] (xPre (dC, dI) (wD_177 h cs gI gL qA_210 gQ) (tysA cs) sz)) (va_Ql (fun (r : Int64) (u : RS) => (r = (0 : Int64)) ∧ u = (gI, gL, qA_210, gQ)) (xB (dC, dI) (tysA cs) (va_A (wD_177 h cs gI gL qA_210 gQ) sz) (fun u : RS => wD_177 h cs u.1 u.2.1 u.2.2.1 u.2.2.2)) (va_A (wD_177 h cs gI gL qA_210 gQ) sz)) 0 0 (va_A (wD_177 h cs gI gL qA_210 gQ) sz) := by
  refine Met.ofW (cc := cX10_determinant) (maxL := 11) (ret := (some .long)) (by decide) rfl ?_
  intro p e s m args below meth c s₁ B hml hv
  obtain ⟨rfl, hsz, hP, hK, hD0, hN⟩ := hv
  have hx := B.exec
  have hb := B.bytes
  have hr := B.returns
  have hts := atoms_spec (ws := wsX10_determinant) B.pre
  have hown : s.vm.findClass RX10 = some m.cls := findClass_of_methodNamed B.named
  have hlocks := B.notSynchronized
  subst hsz
  have hD := hD0.self (sz := s.heap.size)
  generalize hAe : va_A (wD_177 h cs gI gL qA_210 gQ) s.heap.size = A0 at hD ⊢
  have hA : ∀ q : Nat, s.heap.size ≤ q → A0 q := fun q h => by rw [← hAe]; exact Or.inr h
  have hl := lv_entry ([.ref (h 0), .int (nI 1)]) (n := 11) (Nat.le_of_ble_eq_true rfl)
  rw [lg_entry_eq]
  generalize (lg_sl ([.ref (h 0), .int (nI 1)]) ++ List.replicate (11 - (lg_sl ([.ref (h 0), .int (nI 1)])).length) Slot.unset).toArray = ls at hl ⊢
  have hl : lv_has ls 11 [(0, .ref (h 0)), (1, .int (nI 1))] := hl
  generalize hH : s.heap = H at hP ⊢
  have hS : va_S A0 s.heap H [] := by rw [← hH]; exact va_S.rf
  have hinX10 : ∀ w ∈ wsX100, w ∈ wsX10_determinant := by decide +kernel
  refine lv_lconst (v := 1) hx hb dX10_determinant_0 rfl ?_
  refine lv_lstore_n (lv' := [(2, .long (1 : Int64)), (0, .ref (h 0)), (1, .int (nI 1))]) hx hb dX10_determinant_1 rfl hl (by decide) rfl (fun ls hl => ?_)
  refine lv_lconst (v := 1) hx hb dX10_determinant_2 rfl ?_
  refine lv_lstore (lv' := [(4, .long (1 : Int64)), (2, .long (1 : Int64)), (0, .ref (h 0)), (1, .int (nI 1))]) hx hb dX10_determinant_3 hl (by decide) rfl (fun ls hl => ?_)
  refine lv_iconst (v := nI 0) hx hb dX10_determinant_5 (by decide) ?_
  refine lv_istore (lv' := [(6, .int (nI 0)), (4, .long (1 : Int64)), (2, .long (1 : Int64)), (0, .ref (h 0)), (1, .int (nI 1))]) hx hb dX10_determinant_6 hl (by decide) rfl (fun ls hl => ?_)
  refine lv_iload hx hb dX10_determinant_8 (lv_at hl 0 rfl) ?_
  refine lv_iload_n hx hb dX10_determinant_10 rfl (lv_at hl 4 rfl) ?_
  refine lv_icmp_ge (tgt := 260) hx hb dX10_determinant_11 (by decide) (fun c9 => False.elim (by revert c9; decide +kernel)) (fun _ => ?_)
  refine lv_iload hx hb dX10_determinant_14 (lv_at hl 0 rfl) ?_
  refine lv_istore (lv' := [(7, .int (nI 0)), (6, .int (nI 0)), (4, .long (1 : Int64)), (2, .long (1 : Int64)), (0, .ref (h 0)), (1, .int (nI 1))]) hx hb dX10_determinant_16 hl (by decide) rfl (fun ls hl => ?_)
  refine lv_iload hx hb dX10_determinant_18 (lv_at hl 0 rfl) ?_
  refine lv_iload_n hx hb dX10_determinant_20 rfl (lv_at hl 5 rfl) ?_
  refine lv_icmp_ge (tgt := 47) hx hb dX10_determinant_21 (by decide) (fun c9 => False.elim (by revert c9; decide +kernel)) (fun _ => ?_)
  refine lv_aload_n hx hb dX10_determinant_24 rfl (lv_at hl 4 rfl) ?_
  refine va_get (D := (dC, dI)) (ci := 10) (v := .ref (h 19)) (C := RX10) (T := TX10) (N := 28) hx hb hts hinX10 hown hK hP 0 rfl rfl 19 (by decide) (hts (.fieldLink RX10 47 "MixedWordsModel" "square" "[J") (by decide +kernel)) (fun _ h9 => h9) rfl dX10_determinant_25 ?_
  refine lv_iconst (v := nI 4) hx hb dX10_determinant_28 (by decide) ?_
  refine lv_iload hx hb dX10_determinant_29 (lv_at hl 0 rfl) ?_
  refine lv_imul hx hb dX10_determinant_31 ?_
  refine xt_i (y := nI 0) (by decide +kernel) ?_
  refine lv_iload hx hb dX10_determinant_32 (lv_at hl 1 rfl) ?_
  refine lv_iadd hx hb dX10_determinant_34 ?_
  refine xt_i (y := nI 0) (by decide +kernel) ?_
  refine xa_lald hx hb hK hP 10 1 rfl rfl (by omega) (by decide) dX10_determinant_35 ?_
  refine xt_l (y := (0 : Int64)) (by decide +kernel) ?_
  refine lv_lconst (v := 0) hx hb dX10_determinant_36 rfl ?_
  refine xl_ne (tgt := 47) hx hb dX10_determinant_37 dX10_determinant_38 (by decide) (fun c9 => False.elim (by revert c9; decide +kernel)) (fun _ => ?_)
  refine lv_iinc (v := nI 1) (lv' := [(7, .int (nI 1)), (6, .int (nI 0)), (4, .long (1 : Int64)), (2, .long (1 : Int64)), (0, .ref (h 0)), (1, .int (nI 1))]) hx hb dX10_determinant_41 hl (k := 0) rfl (by decide +kernel) (by decide) rfl (fun ls hl => ?_)
  refine lv_goto (tgt := 18) hx hb dX10_determinant_44 (by decide) ?_
  refine lv_iload hx hb dX10_determinant_18 (lv_at hl 0 rfl) ?_
  refine lv_iload_n hx hb dX10_determinant_20 rfl (lv_at hl 5 rfl) ?_
  refine lv_icmp_ge (tgt := 47) hx hb dX10_determinant_21 (by decide) (fun _ => ?_) (fun c9 => False.elim (by revert c9; decide +kernel))
  refine lv_iload hx hb dX10_determinant_47 (lv_at hl 0 rfl) ?_
  refine lv_iload_n hx hb dX10_determinant_49 rfl (lv_at hl 5 rfl) ?_
  refine lv_icmp_ne (tgt := 55) hx hb dX10_determinant_50 (by decide) (fun c9 => False.elim (by revert c9; decide +kernel)) (fun _ => ?_)
  refine lv_lconst (v := 0) hx hb dX10_determinant_53 rfl ?_
  exact xr_l (v := (0 : Int64)) hx hb hr hlocks hK hS dX10_determinant_54 (gI, gL, qA_210, gQ) ⟨rfl, rfl⟩ hP hD
set_option maxHeartbeats 4000000 in
set_option maxRecDepth 100000 in
theorem a_X10_worthOf_211 (l : Launch) (dC : Nat → ClassId) (dI : Nat → Nat → Nat) (h : Nat → Nat) (cs : Nat → ClassId) (sz : Nat) (I : Nat → Int32) (L : Nat → Int64) (A : Nat → Nat → Int32) (Q : Nat → Nat → Int64) : Met l yX10_worthOf wsX10_worthOf ({ frames := 1, cells := 0, slots := 0, locals := 30 }) (va_Pc [.ref (h 0), .int (nI 1)] (xPre (dC, dI) (wD_177 h cs gI gL qA_210 gQ) (tysA cs) sz)) (va_Ql (fun (r : Int64) (u : RS) => (r = (0 : Int64)) ∧ u = (gI, gL, qA_210, gQ)) (xB (dC, dI) (tysA cs) (va_A (wD_177 h cs gI gL qA_210 gQ) sz) (fun u : RS => wD_177 h cs u.1 u.2.1 u.2.2.1 u.2.2.2)) (va_A (wD_177 h cs gI gL qA_210 gQ) sz)) 0 0 (va_A (wD_177 h cs gI gL qA_210 gQ) sz) := by
  refine Met.ofW (cc := cX10_worthOf) (maxL := 6) (ret := (some .long)) (by decide) rfl ?_
  intro p e s m args below meth c s₁ B hml hv
  obtain ⟨rfl, hsz, hP, hK, hD0, hN⟩ := hv
  have hx := B.exec
  have hb := B.bytes
  have hr := B.returns
  have hts := atoms_spec (ws := wsX10_worthOf) B.pre
  have hown : s.vm.findClass RX10 = some m.cls := findClass_of_methodNamed B.named
  have hlocks := B.notSynchronized
  subst hsz
  have hD := hD0.self (sz := s.heap.size)
  generalize hAe : va_A (wD_177 h cs gI gL qA_210 gQ) s.heap.size = A0 at hD ⊢
  have hA : ∀ q : Nat, s.heap.size ≤ q → A0 q := fun q h => by rw [← hAe]; exact Or.inr h
  have hl := lv_entry ([.ref (h 0), .int (nI 1)]) (n := 6) (Nat.le_of_ble_eq_true rfl)
  rw [lg_entry_eq]
  generalize (lg_sl ([.ref (h 0), .int (nI 1)]) ++ List.replicate (6 - (lg_sl ([.ref (h 0), .int (nI 1)])).length) Slot.unset).toArray = ls at hl ⊢
  have hl : lv_has ls 6 [(0, .ref (h 0)), (1, .int (nI 1))] := hl
  generalize hH : s.heap = H at hP ⊢
  have hS : va_S A0 s.heap H [] := by rw [← hH]; exact va_S.rf
  have hinX10 : ∀ w ∈ wsX100, w ∈ wsX10_worthOf := by decide +kernel
  refine lv_iconst (v := nI 0) hx hb dX10_worthOf_0 (by decide) ?_
  refine lv_istore_n (lv' := [(2, .int (nI 0)), (0, .ref (h 0)), (1, .int (nI 1))]) hx hb dX10_worthOf_1 rfl hl (by decide) rfl (fun ls hl => ?_)
  refine lv_iconst (v := nI 0) hx hb dX10_worthOf_2 (by decide) ?_
  refine lv_istore_n (lv' := [(3, .int (nI 0)), (2, .int (nI 0)), (0, .ref (h 0)), (1, .int (nI 1))]) hx hb dX10_worthOf_3 rfl hl (by decide) rfl (fun ls hl => ?_)
  refine lv_iload_n hx hb dX10_worthOf_4 rfl (lv_at hl 0 rfl) ?_
  refine lv_aload_n hx hb dX10_worthOf_5 rfl (lv_at hl 2 rfl) ?_
  refine va_get (D := (dC, dI)) (ci := 10) (v := .int (gI 1)) (C := RX10) (T := TX10) (N := 28) hx hb hts hinX10 hown hK hP 0 rfl rfl 1 (by decide) (hts (.fieldLink RX10 13 "MixedWordsModel" "columns" "I") (by decide +kernel)) (fun _ h9 => h9) rfl dX10_worthOf_6 ?_
  refine xt_i (y := nI 2) (by decide +kernel) ?_
  refine lv_icmp_ge (tgt := 83) hx hb dX10_worthOf_9 (by decide) (fun c9 => False.elim (by revert c9; decide +kernel)) (fun _ => ?_)
  refine lv_iload_n hx hb dX10_worthOf_12 rfl (lv_at hl 3 rfl) ?_
  refine lv_iload_n hx hb dX10_worthOf_13 rfl (lv_at hl 0 rfl) ?_
  refine lv_ishr hx hb dX10_worthOf_14 ?_
  refine xt_i (y := nI 1) (by decide +kernel) ?_
  refine lv_iconst (v := nI 1) hx hb dX10_worthOf_15 (by decide) ?_
  refine lv_iand hx hb dX10_worthOf_16 ?_
  refine xt_i (y := nI 1) (by decide +kernel) ?_
  refine lv_iconst (v := nI 1) hx hb dX10_worthOf_17 (by decide) ?_
  refine lv_icmp_ne (tgt := 77) hx hb dX10_worthOf_18 (by decide) (fun c9 => False.elim (by revert c9; decide +kernel)) (fun _ => ?_)
  refine lv_iconst (v := nI 0) hx hb dX10_worthOf_21 (by decide) ?_
  refine lv_istore (lv' := [(4, .int (nI 0)), (3, .int (nI 0)), (2, .int (nI 0)), (0, .ref (h 0)), (1, .int (nI 1))]) hx hb dX10_worthOf_22 hl (by decide) rfl (fun ls hl => ?_)
  refine lv_iconst (v := nI 0) hx hb dX10_worthOf_24 (by decide) ?_
  refine lv_istore (lv' := [(5, .int (nI 0)), (4, .int (nI 0)), (3, .int (nI 0)), (2, .int (nI 0)), (0, .ref (h 0)), (1, .int (nI 1))]) hx hb dX10_worthOf_25 hl (by decide) rfl (fun ls hl => ?_)
  refine lv_iload hx hb dX10_worthOf_27 (lv_at hl 0 rfl) ?_
  refine lv_aload_n hx hb dX10_worthOf_29 rfl (lv_at hl 4 rfl) ?_
  refine va_get (D := (dC, dI)) (ci := 10) (v := .int (gI 1)) (C := RX10) (T := TX10) (N := 28) hx hb hts hinX10 hown hK hP 0 rfl rfl 1 (by decide) (hts (.fieldLink RX10 13 "MixedWordsModel" "columns" "I") (by decide +kernel)) (fun _ h9 => h9) rfl dX10_worthOf_30 ?_
  refine xt_i (y := nI 2) (by decide +kernel) ?_
  refine lv_icmp_ge (tgt := 74) hx hb dX10_worthOf_33 (by decide) (fun c9 => False.elim (by revert c9; decide +kernel)) (fun _ => ?_)
  refine lv_iload_n hx hb dX10_worthOf_36 rfl (lv_at hl 5 rfl) ?_
  refine lv_iload hx hb dX10_worthOf_37 (lv_at hl 0 rfl) ?_
  refine lv_ishr hx hb dX10_worthOf_39 ?_
  refine xt_i (y := nI 1) (by decide +kernel) ?_
  refine lv_iconst (v := nI 1) hx hb dX10_worthOf_40 (by decide) ?_
  refine lv_iand hx hb dX10_worthOf_41 ?_
  refine xt_i (y := nI 1) (by decide +kernel) ?_
  refine lv_iconst (v := nI 1) hx hb dX10_worthOf_42 (by decide) ?_
  refine lv_icmp_ne (tgt := 68) hx hb dX10_worthOf_43 (by decide) (fun c9 => False.elim (by revert c9; decide +kernel)) (fun _ => ?_)
  refine lv_aload_n hx hb dX10_worthOf_46 rfl (lv_at hl 4 rfl) ?_
  refine va_get (D := (dC, dI)) (ci := 10) (v := .ref (h 19)) (C := RX10) (T := TX10) (N := 28) hx hb hts hinX10 hown hK hP 0 rfl rfl 19 (by decide) (hts (.fieldLink RX10 47 "MixedWordsModel" "square" "[J") (by decide +kernel)) (fun _ h9 => h9) rfl dX10_worthOf_47 ?_
  refine lv_iconst (v := nI 4) hx hb dX10_worthOf_50 (by decide) ?_
  refine lv_iload_n hx hb dX10_worthOf_51 rfl (lv_at hl 3 rfl) ?_
  refine lv_imul hx hb dX10_worthOf_52 ?_
  refine xt_i (y := nI 0) (by decide +kernel) ?_
  refine lv_iload hx hb dX10_worthOf_53 (lv_at hl 1 rfl) ?_
  refine lv_iadd hx hb dX10_worthOf_55 ?_
  refine xt_i (y := nI 0) (by decide +kernel) ?_
  refine lv_aload_n hx hb dX10_worthOf_56 rfl (lv_at hl 4 rfl) ?_
  refine lv_iload_n hx hb dX10_worthOf_57 rfl (lv_at hl 2 rfl) ?_
  refine lv_iload hx hb dX10_worthOf_58 (lv_at hl 0 rfl) ?_
  refine xj_i (wc := (wD_177 h cs gI gL qA_210 gQ)) (wr := ([] : va_W)) hP hD hS hA [0, 1, 2, 3, 4, 5, 6, 7, 8, 9, 10, 11, 12, 13, 14, 15, 16] [] rfl rfl (by decide) (by decide) (va_runV (As := [.int (nI 0), .int (nI 0)]) (rest := [.int (nI 0), .ref (h 19)]) ⟨hx, hb, hml, hown, hts⟩ (a_X10_dot_212 l dC dI h cs H.size gI gL qA_210 gQ ) (cwV 2 hts gX10_worthOf_X10_dot rfl rfl rfl (by decide +kernel) ⟨Nat.le_of_ble_eq_true rfl, Nat.le_of_ble_eq_true rfl⟩) (xpV (wc := (wD_177 h cs gI gL qA_210 gQ)) hP hD hK hN [0, 1, 2, 3, 4, 5, 6, 7, 8, 9, 10, 11, 12, 13, 14, 15, 16] rfl (by decide) 0 (ci := 10) rfl rfl _) rfl rfl hl.1 rfl (lv_room (Nat.le_of_ble_eq_true rfl)) dX10_worthOf_60 ⟨Nat.zero_le _, Nat.zero_le _⟩) (fun r_2 u_1 H locs hw hP hD hS => ?_)
  obtain ⟨hf_3, rfl⟩ := hw
  have hP : va_P (dC, dI) vwCl (wD_177 h cs gI gL qA_210 gQ) H := hP
  have hD : va_D A0 (wD_177 h cs gI gL qA_210 gQ) := hD
  obtain rfl := hf_3
  refine lv_i2l (v := (0 : Int64)) hx hb dX10_worthOf_63 (by decide +kernel) ?_
  refine xa_lastS hx hb hK hP hD hS 10 1 rfl rfl (by omega) (by decide) (by decide +kernel) dX10_worthOf_64 (fun H locs hP hD hS => ?_)
  refine lv_iinc (v := nI 1) (lv' := [(4, .int (nI 1)), (5, .int (nI 0)), (3, .int (nI 0)), (2, .int (nI 0)), (0, .ref (h 0)), (1, .int (nI 1))]) hx hb dX10_worthOf_65 hl (k := 1) rfl (by decide +kernel) (by decide) rfl (fun ls hl => ?_)
  refine lv_iinc (v := nI 1) (lv' := [(5, .int (nI 1)), (4, .int (nI 1)), (3, .int (nI 0)), (2, .int (nI 0)), (0, .ref (h 0)), (1, .int (nI 1))]) hx hb dX10_worthOf_68 hl (k := 1) rfl (by decide +kernel) (by decide) rfl (fun ls hl => ?_)
  refine lv_goto (tgt := 27) hx hb dX10_worthOf_71 (by decide) ?_
  refine lv_iload hx hb dX10_worthOf_27 (lv_at hl 0 rfl) ?_
  refine lv_aload_n hx hb dX10_worthOf_29 rfl (lv_at hl 4 rfl) ?_
  refine va_get (D := (dC, dI)) (ci := 10) (v := .int (gI 1)) (C := RX10) (T := TX10) (N := 28) hx hb hts hinX10 hown hK hP 0 rfl rfl 1 (by decide) (hts (.fieldLink RX10 13 "MixedWordsModel" "columns" "I") (by decide +kernel)) (fun _ h9 => h9) rfl dX10_worthOf_30 ?_
  refine xt_i (y := nI 2) (by decide +kernel) ?_
  refine lv_icmp_ge (tgt := 74) hx hb dX10_worthOf_33 (by decide) (fun c9 => False.elim (by revert c9; decide +kernel)) (fun _ => ?_)
  refine lv_iload_n hx hb dX10_worthOf_36 rfl (lv_at hl 5 rfl) ?_
  refine lv_iload hx hb dX10_worthOf_37 (lv_at hl 0 rfl) ?_
  refine lv_ishr hx hb dX10_worthOf_39 ?_
  refine xt_i (y := nI 0) (by decide +kernel) ?_
  refine lv_iconst (v := nI 1) hx hb dX10_worthOf_40 (by decide) ?_
  refine lv_iand hx hb dX10_worthOf_41 ?_
  refine xt_i (y := nI 0) (by decide +kernel) ?_
  refine lv_iconst (v := nI 1) hx hb dX10_worthOf_42 (by decide) ?_
  refine lv_icmp_ne (tgt := 68) hx hb dX10_worthOf_43 (by decide) (fun _ => ?_) (fun c9 => False.elim (by revert c9; decide +kernel))
  refine lv_iinc (v := nI 2) (lv' := [(5, .int (nI 2)), (4, .int (nI 1)), (3, .int (nI 0)), (2, .int (nI 0)), (0, .ref (h 0)), (1, .int (nI 1))]) hx hb dX10_worthOf_68 hl (k := 0) rfl (by decide +kernel) (by decide) rfl (fun ls hl => ?_)
  refine lv_goto (tgt := 27) hx hb dX10_worthOf_71 (by decide) ?_
  refine lv_iload hx hb dX10_worthOf_27 (lv_at hl 0 rfl) ?_
  refine lv_aload_n hx hb dX10_worthOf_29 rfl (lv_at hl 4 rfl) ?_
  refine va_get (D := (dC, dI)) (ci := 10) (v := .int (gI 1)) (C := RX10) (T := TX10) (N := 28) hx hb hts hinX10 hown hK hP 0 rfl rfl 1 (by decide) (hts (.fieldLink RX10 13 "MixedWordsModel" "columns" "I") (by decide +kernel)) (fun _ h9 => h9) rfl dX10_worthOf_30 ?_
  refine xt_i (y := nI 2) (by decide +kernel) ?_
  refine lv_icmp_ge (tgt := 74) hx hb dX10_worthOf_33 (by decide) (fun _ => ?_) (fun c9 => False.elim (by revert c9; decide +kernel))
  refine lv_iinc (v := nI 1) (lv' := [(2, .int (nI 1)), (5, .int (nI 2)), (4, .int (nI 1)), (3, .int (nI 0)), (0, .ref (h 0)), (1, .int (nI 1))]) hx hb dX10_worthOf_74 hl (k := 3) rfl (by decide +kernel) (by decide) rfl (fun ls hl => ?_)
  refine lv_iinc (v := nI 1) (lv' := [(3, .int (nI 1)), (2, .int (nI 1)), (5, .int (nI 2)), (4, .int (nI 1)), (0, .ref (h 0)), (1, .int (nI 1))]) hx hb dX10_worthOf_77 hl (k := 3) rfl (by decide +kernel) (by decide) rfl (fun ls hl => ?_)
  refine lv_goto (tgt := 4) hx hb dX10_worthOf_80 (by decide) ?_
  refine lv_iload_n hx hb dX10_worthOf_4 rfl (lv_at hl 0 rfl) ?_
  refine lv_aload_n hx hb dX10_worthOf_5 rfl (lv_at hl 4 rfl) ?_
  refine va_get (D := (dC, dI)) (ci := 10) (v := .int (gI 1)) (C := RX10) (T := TX10) (N := 28) hx hb hts hinX10 hown hK hP 0 rfl rfl 1 (by decide) (hts (.fieldLink RX10 13 "MixedWordsModel" "columns" "I") (by decide +kernel)) (fun _ h9 => h9) rfl dX10_worthOf_6 ?_
  refine xt_i (y := nI 2) (by decide +kernel) ?_
  refine lv_icmp_ge (tgt := 83) hx hb dX10_worthOf_9 (by decide) (fun c9 => False.elim (by revert c9; decide +kernel)) (fun _ => ?_)
  refine lv_iload_n hx hb dX10_worthOf_12 rfl (lv_at hl 5 rfl) ?_
  refine lv_iload_n hx hb dX10_worthOf_13 rfl (lv_at hl 0 rfl) ?_
  refine lv_ishr hx hb dX10_worthOf_14 ?_
  refine xt_i (y := nI 0) (by decide +kernel) ?_
  refine lv_iconst (v := nI 1) hx hb dX10_worthOf_15 (by decide) ?_
  refine lv_iand hx hb dX10_worthOf_16 ?_
  refine xt_i (y := nI 0) (by decide +kernel) ?_
  refine lv_iconst (v := nI 1) hx hb dX10_worthOf_17 (by decide) ?_
  refine lv_icmp_ne (tgt := 77) hx hb dX10_worthOf_18 (by decide) (fun _ => ?_) (fun c9 => False.elim (by revert c9; decide +kernel))
  refine lv_iinc (v := nI 2) (lv' := [(3, .int (nI 2)), (2, .int (nI 1)), (5, .int (nI 2)), (4, .int (nI 1)), (0, .ref (h 0)), (1, .int (nI 1))]) hx hb dX10_worthOf_77 hl (k := 0) rfl (by decide +kernel) (by decide) rfl (fun ls hl => ?_)
  refine lv_goto (tgt := 4) hx hb dX10_worthOf_80 (by decide) ?_
  refine lv_iload_n hx hb dX10_worthOf_4 rfl (lv_at hl 0 rfl) ?_
  refine lv_aload_n hx hb dX10_worthOf_5 rfl (lv_at hl 4 rfl) ?_
  refine va_get (D := (dC, dI)) (ci := 10) (v := .int (gI 1)) (C := RX10) (T := TX10) (N := 28) hx hb hts hinX10 hown hK hP 0 rfl rfl 1 (by decide) (hts (.fieldLink RX10 13 "MixedWordsModel" "columns" "I") (by decide +kernel)) (fun _ h9 => h9) rfl dX10_worthOf_6 ?_
  refine xt_i (y := nI 2) (by decide +kernel) ?_
  refine lv_icmp_ge (tgt := 83) hx hb dX10_worthOf_9 (by decide) (fun _ => ?_) (fun c9 => False.elim (by revert c9; decide +kernel))
  refine lv_aload_n hx hb dX10_worthOf_83 rfl (lv_at hl 4 rfl) ?_
  refine lv_iload_n hx hb dX10_worthOf_84 rfl (lv_at hl 1 rfl) ?_
  refine xj_l (wc := (wD_177 h cs gI gL qA_210 gQ)) (wr := ([] : va_W)) hP hD hS hA [0, 1, 2, 3, 4, 5, 6, 7, 8, 9, 10, 11, 12, 13, 14, 15, 16] [] rfl rfl (by decide) (by decide) (va_runV (As := [.int (nI 1)]) (rest := []) ⟨hx, hb, hml, hown, hts⟩ (a_X10_determinant_213 l dC dI h cs H.size gI gL qA_210 gQ ) (cwV 1 hts gX10_worthOf_X10_determinant rfl rfl rfl (by decide +kernel) ⟨Nat.le_of_ble_eq_true rfl, Nat.le_of_ble_eq_true rfl⟩) (xpV (wc := (wD_177 h cs gI gL qA_210 gQ)) hP hD hK hN [0, 1, 2, 3, 4, 5, 6, 7, 8, 9, 10, 11, 12, 13, 14, 15, 16] rfl (by decide) 0 (ci := 10) rfl rfl _) rfl rfl hl.1 rfl (lv_room (Nat.le_of_ble_eq_true rfl)) dX10_worthOf_85 ⟨Nat.zero_le _, Nat.zero_le _⟩) (fun r_5 u_4 H locs hw hP hD hS => ?_)
  obtain ⟨hf_6, rfl⟩ := hw
  have hP : va_P (dC, dI) vwCl (wD_177 h cs gI gL qA_210 gQ) H := hP
  have hD : va_D A0 (wD_177 h cs gI gL qA_210 gQ) := hD
  obtain rfl := hf_6
  exact xr_l (v := (0 : Int64)) hx hb hr hlocks hK hS dX10_worthOf_88 (gI, gL, qA_210, gQ) ⟨rfl, rfl⟩ hP hD
set_option maxHeartbeats 4000000 in
set_option maxRecDepth 100000 in
theorem a_X10_in_214 (l : Launch) (dC : Nat → ClassId) (dI : Nat → Nat → Nat) (h : Nat → Nat) (cs : Nat → ClassId) (sz : Nat) (I : Nat → Int32) (L : Nat → Int64) (A : Nat → Nat → Int32) (Q : Nat → Nat → Int64) : Met l yX10_in wsX10_in ({ frames := 0, cells := 0, slots := 0, locals := 0 }) (va_Pc [.long (2 : Int64), .long (1 : Int64), .long (3 : Int64)] (xPre (dC, dI) ([] : va_W) (tysA cs) sz)) (va_Qi (fun (r : Int32) (u : RS) => (r = nI 1) ∧ u = (I, L, A, Q)) (xB (dC, dI) (tysA cs) (va_A ([] : va_W) sz) (fun _ : RS => ([] : va_W))) (va_A ([] : va_W) sz)) 0 0 (va_A ([] : va_W) sz) := by
  refine Met.ofW (cc := cX10_in) (maxL := 6) (ret := (some .boolean)) (by decide) rfl ?_
  intro p e s m args below meth c s₁ B hml hv
  obtain ⟨rfl, hsz, hP, hK, hD0, hN⟩ := hv
  have hx := B.exec
  have hb := B.bytes
  have hr := B.returns
  have hts := atoms_spec (ws := wsX10_in) B.pre
  have hown : s.vm.findClass RX10 = some m.cls := findClass_of_methodNamed B.named
  have hlocks := B.notSynchronized
  subst hsz
  have hD := hD0.self (sz := s.heap.size)
  generalize hAe : va_A ([] : va_W) s.heap.size = A0 at hD ⊢
  have hA : ∀ q : Nat, s.heap.size ≤ q → A0 q := fun q h => by rw [← hAe]; exact Or.inr h
  have hl := lv_entry ([.long (2 : Int64), .long (1 : Int64), .long (3 : Int64)]) (n := 6) (Nat.le_of_ble_eq_true rfl)
  rw [lg_entry_eq]
  generalize (lg_sl ([.long (2 : Int64), .long (1 : Int64), .long (3 : Int64)]) ++ List.replicate (6 - (lg_sl ([.long (2 : Int64), .long (1 : Int64), .long (3 : Int64)])).length) Slot.unset).toArray = ls at hl ⊢
  have hl : lv_has ls 6 [(0, .long (2 : Int64)), (2, .long (1 : Int64)), (4, .long (3 : Int64))] := hl
  generalize hH : s.heap = H at hP ⊢
  have hS : va_S A0 s.heap H [] := by rw [← hH]; exact va_S.rf
  refine lv_lload_n hx hb dX10_in_0 rfl (lv_at hl 0 rfl) ?_
  refine lv_lload_n hx hb dX10_in_1 rfl (lv_at hl 1 rfl) ?_
  refine xl_lt (tgt := 17) hx hb dX10_in_2 dX10_in_3 (by decide) (fun c9 => False.elim (by revert c9; decide +kernel)) (fun _ => ?_)
  refine lv_lload_n hx hb dX10_in_6 rfl (lv_at hl 0 rfl) ?_
  refine lv_lload hx hb dX10_in_7 (lv_at hl 2 rfl) ?_
  refine xl_gt (tgt := 17) hx hb dX10_in_9 dX10_in_10 (by decide) (fun c9 => False.elim (by revert c9; decide +kernel)) (fun _ => ?_)
  refine lv_iconst (v := nI 1) hx hb dX10_in_13 (by decide) ?_
  refine lv_goto (tgt := 18) hx hb dX10_in_14 (by decide) ?_
  exact xr_z (v := (nI 1)) hx hb hr hlocks hK hS dX10_in_18 (rfl) (I, L, A, Q) ⟨rfl, rfl⟩ hP hD
set_option maxHeartbeats 4000000 in
set_option maxRecDepth 100000 in
theorem a_X10_dot_216 (l : Launch) (dC : Nat → ClassId) (dI : Nat → Nat → Nat) (h : Nat → Nat) (cs : Nat → ClassId) (sz : Nat) (I : Nat → Int32) (L : Nat → Int64) (A : Nat → Nat → Int32) (Q : Nat → Nat → Int64) : Met l yX10_dot wsX10_dot ({ frames := 0, cells := 0, slots := 0, locals := 0 }) (va_Pc [.ref (h 0), .int (nI 1), .int (nI 1)] (xPre (dC, dI) (wD_177 h cs gI gL qA_210 gQ) (tysA cs) sz)) (va_Qi (fun (r : Int32) (u : RS) => (r = nI 0) ∧ u = (gI, gL, qA_210, gQ)) (xB (dC, dI) (tysA cs) (va_A (wD_177 h cs gI gL qA_210 gQ) sz) (fun u : RS => wD_177 h cs u.1 u.2.1 u.2.2.1 u.2.2.2)) (va_A (wD_177 h cs gI gL qA_210 gQ) sz)) 0 0 (va_A (wD_177 h cs gI gL qA_210 gQ) sz) := by
  refine Met.ofW (cc := cX10_dot) (maxL := 5) (ret := (some .int)) (by decide) rfl ?_
  intro p e s m args below meth c s₁ B hml hv
  obtain ⟨rfl, hsz, hP, hK, hD0, hN⟩ := hv
  have hx := B.exec
  have hb := B.bytes
  have hr := B.returns
  have hts := atoms_spec (ws := wsX10_dot) B.pre
  have hown : s.vm.findClass RX10 = some m.cls := findClass_of_methodNamed B.named
  have hlocks := B.notSynchronized
  subst hsz
  have hD := hD0.self (sz := s.heap.size)
  generalize hAe : va_A (wD_177 h cs gI gL qA_210 gQ) s.heap.size = A0 at hD ⊢
  have hA : ∀ q : Nat, s.heap.size ≤ q → A0 q := fun q h => by rw [← hAe]; exact Or.inr h
  have hl := lv_entry ([.ref (h 0), .int (nI 1), .int (nI 1)]) (n := 5) (Nat.le_of_ble_eq_true rfl)
  rw [lg_entry_eq]
  generalize (lg_sl ([.ref (h 0), .int (nI 1), .int (nI 1)]) ++ List.replicate (5 - (lg_sl ([.ref (h 0), .int (nI 1), .int (nI 1)])).length) Slot.unset).toArray = ls at hl ⊢
  have hl : lv_has ls 5 [(0, .ref (h 0)), (1, .int (nI 1)), (2, .int (nI 1))] := hl
  generalize hH : s.heap = H at hP ⊢
  have hS : va_S A0 s.heap H [] := by rw [← hH]; exact va_S.rf
  have hinX10 : ∀ w ∈ wsX100, w ∈ wsX10_dot := by decide +kernel
  refine lv_iconst (v := nI 0) hx hb dX10_dot_0 (by decide) ?_
  refine lv_istore_n (lv' := [(3, .int (nI 0)), (0, .ref (h 0)), (1, .int (nI 1)), (2, .int (nI 1))]) hx hb dX10_dot_1 rfl hl (by decide) rfl (fun ls hl => ?_)
  refine lv_iconst (v := nI 0) hx hb dX10_dot_2 (by decide) ?_
  refine lv_istore (lv' := [(4, .int (nI 0)), (3, .int (nI 0)), (0, .ref (h 0)), (1, .int (nI 1)), (2, .int (nI 1))]) hx hb dX10_dot_3 hl (by decide) rfl (fun ls hl => ?_)
  refine lv_iload hx hb dX10_dot_5 (lv_at hl 0 rfl) ?_
  refine lv_iconst (v := nI 5) hx hb dX10_dot_7 (by decide) ?_
  refine lv_icmp_ge (tgt := 43) hx hb dX10_dot_8 (by decide) (fun c9 => False.elim (by revert c9; decide +kernel)) (fun _ => ?_)
  refine lv_iload_n hx hb dX10_dot_11 rfl (lv_at hl 1 rfl) ?_
  refine lv_aload_n hx hb dX10_dot_12 rfl (lv_at hl 2 rfl) ?_
  refine va_get (D := (dC, dI)) (ci := 10) (v := .ref (h 17)) (C := RX10) (T := TX10) (N := 28) hx hb hts hinX10 hown hK hP 0 rfl rfl 17 (by decide) (hts (.fieldLink RX10 41 "MixedWordsModel" "cols" "[I") (by decide +kernel)) (fun _ h9 => h9) rfl dX10_dot_13 ?_
  refine lv_iconst (v := nI 5) hx hb dX10_dot_16 (by decide) ?_
  refine lv_iload_n hx hb dX10_dot_17 rfl (lv_at hl 3 rfl) ?_
  refine lv_imul hx hb dX10_dot_18 ?_
  refine xt_i (y := nI 5) (by decide +kernel) ?_
  refine lv_iload hx hb dX10_dot_19 (lv_at hl 0 rfl) ?_
  refine lv_iadd hx hb dX10_dot_21 ?_
  refine xt_i (y := nI 5) (by decide +kernel) ?_
  refine xa_iald hx hb hK hP 8 0 rfl rfl (by omega) (by decide) dX10_dot_22 ?_
  refine xt_i (y := nI 0) (by decide +kernel) ?_
  refine lv_aload_n hx hb dX10_dot_23 rfl (lv_at hl 2 rfl) ?_
  refine va_get (D := (dC, dI)) (ci := 10) (v := .ref (h 17)) (C := RX10) (T := TX10) (N := 28) hx hb hts hinX10 hown hK hP 0 rfl rfl 17 (by decide) (hts (.fieldLink RX10 41 "MixedWordsModel" "cols" "[I") (by decide +kernel)) (fun _ h9 => h9) rfl dX10_dot_24 ?_
  refine lv_iconst (v := nI 5) hx hb dX10_dot_27 (by decide) ?_
  refine lv_iload_n hx hb dX10_dot_28 rfl (lv_at hl 4 rfl) ?_
  refine lv_imul hx hb dX10_dot_29 ?_
  refine xt_i (y := nI 5) (by decide +kernel) ?_
  refine lv_iload hx hb dX10_dot_30 (lv_at hl 0 rfl) ?_
  refine lv_iadd hx hb dX10_dot_32 ?_
  refine xt_i (y := nI 5) (by decide +kernel) ?_
  refine xa_iald hx hb hK hP 8 0 rfl rfl (by omega) (by decide) dX10_dot_33 ?_
  refine xt_i (y := nI 0) (by decide +kernel) ?_
  refine lv_imul hx hb dX10_dot_34 ?_
  refine xt_i (y := nI 0) (by decide +kernel) ?_
  refine lv_iadd hx hb dX10_dot_35 ?_
  refine xt_i (y := nI 0) (by decide +kernel) ?_
  refine lv_istore_n (lv' := [(3, .int (nI 0)), (4, .int (nI 0)), (0, .ref (h 0)), (1, .int (nI 1)), (2, .int (nI 1))]) hx hb dX10_dot_36 rfl hl (by decide) rfl (fun ls hl => ?_)
  refine lv_iinc (v := nI 1) (lv' := [(4, .int (nI 1)), (3, .int (nI 0)), (0, .ref (h 0)), (1, .int (nI 1)), (2, .int (nI 1))]) hx hb dX10_dot_37 hl (k := 1) rfl (by decide +kernel) (by decide) rfl (fun ls hl => ?_)
  refine lv_goto (tgt := 5) hx hb dX10_dot_40 (by decide) ?_
  refine lv_iload hx hb dX10_dot_5 (lv_at hl 0 rfl) ?_
  refine lv_iconst (v := nI 5) hx hb dX10_dot_7 (by decide) ?_
  refine lv_icmp_ge (tgt := 43) hx hb dX10_dot_8 (by decide) (fun c9 => False.elim (by revert c9; decide +kernel)) (fun _ => ?_)
  refine lv_iload_n hx hb dX10_dot_11 rfl (lv_at hl 1 rfl) ?_
  refine lv_aload_n hx hb dX10_dot_12 rfl (lv_at hl 2 rfl) ?_
  refine va_get (D := (dC, dI)) (ci := 10) (v := .ref (h 17)) (C := RX10) (T := TX10) (N := 28) hx hb hts hinX10 hown hK hP 0 rfl rfl 17 (by decide) (hts (.fieldLink RX10 41 "MixedWordsModel" "cols" "[I") (by decide +kernel)) (fun _ h9 => h9) rfl dX10_dot_13 ?_
  refine lv_iconst (v := nI 5) hx hb dX10_dot_16 (by decide) ?_
  refine lv_iload_n hx hb dX10_dot_17 rfl (lv_at hl 3 rfl) ?_
  refine lv_imul hx hb dX10_dot_18 ?_
  refine xt_i (y := nI 5) (by decide +kernel) ?_
  refine lv_iload hx hb dX10_dot_19 (lv_at hl 0 rfl) ?_
  refine lv_iadd hx hb dX10_dot_21 ?_
  refine xt_i (y := nI 6) (by decide +kernel) ?_
  refine xa_iald hx hb hK hP 8 0 rfl rfl (by omega) (by decide) dX10_dot_22 ?_
  refine xt_i (y := nI 0) (by decide +kernel) ?_
  refine lv_aload_n hx hb dX10_dot_23 rfl (lv_at hl 2 rfl) ?_
  refine va_get (D := (dC, dI)) (ci := 10) (v := .ref (h 17)) (C := RX10) (T := TX10) (N := 28) hx hb hts hinX10 hown hK hP 0 rfl rfl 17 (by decide) (hts (.fieldLink RX10 41 "MixedWordsModel" "cols" "[I") (by decide +kernel)) (fun _ h9 => h9) rfl dX10_dot_24 ?_
  refine lv_iconst (v := nI 5) hx hb dX10_dot_27 (by decide) ?_
  refine lv_iload_n hx hb dX10_dot_28 rfl (lv_at hl 4 rfl) ?_
  refine lv_imul hx hb dX10_dot_29 ?_
  refine xt_i (y := nI 5) (by decide +kernel) ?_
  refine lv_iload hx hb dX10_dot_30 (lv_at hl 0 rfl) ?_
  refine lv_iadd hx hb dX10_dot_32 ?_
  refine xt_i (y := nI 6) (by decide +kernel) ?_
  refine xa_iald hx hb hK hP 8 0 rfl rfl (by omega) (by decide) dX10_dot_33 ?_
  refine xt_i (y := nI 0) (by decide +kernel) ?_
  refine lv_imul hx hb dX10_dot_34 ?_
  refine xt_i (y := nI 0) (by decide +kernel) ?_
  refine lv_iadd hx hb dX10_dot_35 ?_
  refine xt_i (y := nI 0) (by decide +kernel) ?_
  refine lv_istore_n (lv' := [(3, .int (nI 0)), (4, .int (nI 1)), (0, .ref (h 0)), (1, .int (nI 1)), (2, .int (nI 1))]) hx hb dX10_dot_36 rfl hl (by decide) rfl (fun ls hl => ?_)
  refine lv_iinc (v := nI 2) (lv' := [(4, .int (nI 2)), (3, .int (nI 0)), (0, .ref (h 0)), (1, .int (nI 1)), (2, .int (nI 1))]) hx hb dX10_dot_37 hl (k := 1) rfl (by decide +kernel) (by decide) rfl (fun ls hl => ?_)
  refine lv_goto (tgt := 5) hx hb dX10_dot_40 (by decide) ?_
  refine lv_iload hx hb dX10_dot_5 (lv_at hl 0 rfl) ?_
  refine lv_iconst (v := nI 5) hx hb dX10_dot_7 (by decide) ?_
  refine lv_icmp_ge (tgt := 43) hx hb dX10_dot_8 (by decide) (fun c9 => False.elim (by revert c9; decide +kernel)) (fun _ => ?_)
  refine lv_iload_n hx hb dX10_dot_11 rfl (lv_at hl 1 rfl) ?_
  refine lv_aload_n hx hb dX10_dot_12 rfl (lv_at hl 2 rfl) ?_
  refine va_get (D := (dC, dI)) (ci := 10) (v := .ref (h 17)) (C := RX10) (T := TX10) (N := 28) hx hb hts hinX10 hown hK hP 0 rfl rfl 17 (by decide) (hts (.fieldLink RX10 41 "MixedWordsModel" "cols" "[I") (by decide +kernel)) (fun _ h9 => h9) rfl dX10_dot_13 ?_
  refine lv_iconst (v := nI 5) hx hb dX10_dot_16 (by decide) ?_
  refine lv_iload_n hx hb dX10_dot_17 rfl (lv_at hl 3 rfl) ?_
  refine lv_imul hx hb dX10_dot_18 ?_
  refine xt_i (y := nI 5) (by decide +kernel) ?_
  refine lv_iload hx hb dX10_dot_19 (lv_at hl 0 rfl) ?_
  refine lv_iadd hx hb dX10_dot_21 ?_
  refine xt_i (y := nI 7) (by decide +kernel) ?_
  refine xa_iald hx hb hK hP 8 0 rfl rfl (by omega) (by decide) dX10_dot_22 ?_
  refine xt_i (y := nI 0) (by decide +kernel) ?_
  refine lv_aload_n hx hb dX10_dot_23 rfl (lv_at hl 2 rfl) ?_
  refine va_get (D := (dC, dI)) (ci := 10) (v := .ref (h 17)) (C := RX10) (T := TX10) (N := 28) hx hb hts hinX10 hown hK hP 0 rfl rfl 17 (by decide) (hts (.fieldLink RX10 41 "MixedWordsModel" "cols" "[I") (by decide +kernel)) (fun _ h9 => h9) rfl dX10_dot_24 ?_
  refine lv_iconst (v := nI 5) hx hb dX10_dot_27 (by decide) ?_
  refine lv_iload_n hx hb dX10_dot_28 rfl (lv_at hl 4 rfl) ?_
  refine lv_imul hx hb dX10_dot_29 ?_
  refine xt_i (y := nI 5) (by decide +kernel) ?_
  refine lv_iload hx hb dX10_dot_30 (lv_at hl 0 rfl) ?_
  refine lv_iadd hx hb dX10_dot_32 ?_
  refine xt_i (y := nI 7) (by decide +kernel) ?_
  refine xa_iald hx hb hK hP 8 0 rfl rfl (by omega) (by decide) dX10_dot_33 ?_
  refine xt_i (y := nI 0) (by decide +kernel) ?_
  refine lv_imul hx hb dX10_dot_34 ?_
  refine xt_i (y := nI 0) (by decide +kernel) ?_
  refine lv_iadd hx hb dX10_dot_35 ?_
  refine xt_i (y := nI 0) (by decide +kernel) ?_
  refine lv_istore_n (lv' := [(3, .int (nI 0)), (4, .int (nI 2)), (0, .ref (h 0)), (1, .int (nI 1)), (2, .int (nI 1))]) hx hb dX10_dot_36 rfl hl (by decide) rfl (fun ls hl => ?_)
  refine lv_iinc (v := nI 3) (lv' := [(4, .int (nI 3)), (3, .int (nI 0)), (0, .ref (h 0)), (1, .int (nI 1)), (2, .int (nI 1))]) hx hb dX10_dot_37 hl (k := 1) rfl (by decide +kernel) (by decide) rfl (fun ls hl => ?_)
  refine lv_goto (tgt := 5) hx hb dX10_dot_40 (by decide) ?_
  refine lv_iload hx hb dX10_dot_5 (lv_at hl 0 rfl) ?_
  refine lv_iconst (v := nI 5) hx hb dX10_dot_7 (by decide) ?_
  refine lv_icmp_ge (tgt := 43) hx hb dX10_dot_8 (by decide) (fun c9 => False.elim (by revert c9; decide +kernel)) (fun _ => ?_)
  refine lv_iload_n hx hb dX10_dot_11 rfl (lv_at hl 1 rfl) ?_
  refine lv_aload_n hx hb dX10_dot_12 rfl (lv_at hl 2 rfl) ?_
  refine va_get (D := (dC, dI)) (ci := 10) (v := .ref (h 17)) (C := RX10) (T := TX10) (N := 28) hx hb hts hinX10 hown hK hP 0 rfl rfl 17 (by decide) (hts (.fieldLink RX10 41 "MixedWordsModel" "cols" "[I") (by decide +kernel)) (fun _ h9 => h9) rfl dX10_dot_13 ?_
  refine lv_iconst (v := nI 5) hx hb dX10_dot_16 (by decide) ?_
  refine lv_iload_n hx hb dX10_dot_17 rfl (lv_at hl 3 rfl) ?_
  refine lv_imul hx hb dX10_dot_18 ?_
  refine xt_i (y := nI 5) (by decide +kernel) ?_
  refine lv_iload hx hb dX10_dot_19 (lv_at hl 0 rfl) ?_
  refine lv_iadd hx hb dX10_dot_21 ?_
  refine xt_i (y := nI 8) (by decide +kernel) ?_
  refine xa_iald hx hb hK hP 8 0 rfl rfl (by omega) (by decide) dX10_dot_22 ?_
  refine xt_i (y := nI 0) (by decide +kernel) ?_
  refine lv_aload_n hx hb dX10_dot_23 rfl (lv_at hl 2 rfl) ?_
  refine va_get (D := (dC, dI)) (ci := 10) (v := .ref (h 17)) (C := RX10) (T := TX10) (N := 28) hx hb hts hinX10 hown hK hP 0 rfl rfl 17 (by decide) (hts (.fieldLink RX10 41 "MixedWordsModel" "cols" "[I") (by decide +kernel)) (fun _ h9 => h9) rfl dX10_dot_24 ?_
  refine lv_iconst (v := nI 5) hx hb dX10_dot_27 (by decide) ?_
  refine lv_iload_n hx hb dX10_dot_28 rfl (lv_at hl 4 rfl) ?_
  refine lv_imul hx hb dX10_dot_29 ?_
  refine xt_i (y := nI 5) (by decide +kernel) ?_
  refine lv_iload hx hb dX10_dot_30 (lv_at hl 0 rfl) ?_
  refine lv_iadd hx hb dX10_dot_32 ?_
  refine xt_i (y := nI 8) (by decide +kernel) ?_
  refine xa_iald hx hb hK hP 8 0 rfl rfl (by omega) (by decide) dX10_dot_33 ?_
  refine xt_i (y := nI 0) (by decide +kernel) ?_
  refine lv_imul hx hb dX10_dot_34 ?_
  refine xt_i (y := nI 0) (by decide +kernel) ?_
  refine lv_iadd hx hb dX10_dot_35 ?_
  refine xt_i (y := nI 0) (by decide +kernel) ?_
  refine lv_istore_n (lv' := [(3, .int (nI 0)), (4, .int (nI 3)), (0, .ref (h 0)), (1, .int (nI 1)), (2, .int (nI 1))]) hx hb dX10_dot_36 rfl hl (by decide) rfl (fun ls hl => ?_)
  refine lv_iinc (v := nI 4) (lv' := [(4, .int (nI 4)), (3, .int (nI 0)), (0, .ref (h 0)), (1, .int (nI 1)), (2, .int (nI 1))]) hx hb dX10_dot_37 hl (k := 1) rfl (by decide +kernel) (by decide) rfl (fun ls hl => ?_)
  refine lv_goto (tgt := 5) hx hb dX10_dot_40 (by decide) ?_
  refine lv_iload hx hb dX10_dot_5 (lv_at hl 0 rfl) ?_
  refine lv_iconst (v := nI 5) hx hb dX10_dot_7 (by decide) ?_
  refine lv_icmp_ge (tgt := 43) hx hb dX10_dot_8 (by decide) (fun c9 => False.elim (by revert c9; decide +kernel)) (fun _ => ?_)
  refine lv_iload_n hx hb dX10_dot_11 rfl (lv_at hl 1 rfl) ?_
  refine lv_aload_n hx hb dX10_dot_12 rfl (lv_at hl 2 rfl) ?_
  refine va_get (D := (dC, dI)) (ci := 10) (v := .ref (h 17)) (C := RX10) (T := TX10) (N := 28) hx hb hts hinX10 hown hK hP 0 rfl rfl 17 (by decide) (hts (.fieldLink RX10 41 "MixedWordsModel" "cols" "[I") (by decide +kernel)) (fun _ h9 => h9) rfl dX10_dot_13 ?_
  refine lv_iconst (v := nI 5) hx hb dX10_dot_16 (by decide) ?_
  refine lv_iload_n hx hb dX10_dot_17 rfl (lv_at hl 3 rfl) ?_
  refine lv_imul hx hb dX10_dot_18 ?_
  refine xt_i (y := nI 5) (by decide +kernel) ?_
  refine lv_iload hx hb dX10_dot_19 (lv_at hl 0 rfl) ?_
  refine lv_iadd hx hb dX10_dot_21 ?_
  refine xt_i (y := nI 9) (by decide +kernel) ?_
  refine xa_iald hx hb hK hP 8 0 rfl rfl (by omega) (by decide) dX10_dot_22 ?_
  refine xt_i (y := nI 0) (by decide +kernel) ?_
  refine lv_aload_n hx hb dX10_dot_23 rfl (lv_at hl 2 rfl) ?_
  refine va_get (D := (dC, dI)) (ci := 10) (v := .ref (h 17)) (C := RX10) (T := TX10) (N := 28) hx hb hts hinX10 hown hK hP 0 rfl rfl 17 (by decide) (hts (.fieldLink RX10 41 "MixedWordsModel" "cols" "[I") (by decide +kernel)) (fun _ h9 => h9) rfl dX10_dot_24 ?_
  refine lv_iconst (v := nI 5) hx hb dX10_dot_27 (by decide) ?_
  refine lv_iload_n hx hb dX10_dot_28 rfl (lv_at hl 4 rfl) ?_
  refine lv_imul hx hb dX10_dot_29 ?_
  refine xt_i (y := nI 5) (by decide +kernel) ?_
  refine lv_iload hx hb dX10_dot_30 (lv_at hl 0 rfl) ?_
  refine lv_iadd hx hb dX10_dot_32 ?_
  refine xt_i (y := nI 9) (by decide +kernel) ?_
  refine xa_iald hx hb hK hP 8 0 rfl rfl (by omega) (by decide) dX10_dot_33 ?_
  refine xt_i (y := nI 0) (by decide +kernel) ?_
  refine lv_imul hx hb dX10_dot_34 ?_
  refine xt_i (y := nI 0) (by decide +kernel) ?_
  refine lv_iadd hx hb dX10_dot_35 ?_
  refine xt_i (y := nI 0) (by decide +kernel) ?_
  refine lv_istore_n (lv' := [(3, .int (nI 0)), (4, .int (nI 4)), (0, .ref (h 0)), (1, .int (nI 1)), (2, .int (nI 1))]) hx hb dX10_dot_36 rfl hl (by decide) rfl (fun ls hl => ?_)
  refine lv_iinc (v := nI 5) (lv' := [(4, .int (nI 5)), (3, .int (nI 0)), (0, .ref (h 0)), (1, .int (nI 1)), (2, .int (nI 1))]) hx hb dX10_dot_37 hl (k := 1) rfl (by decide +kernel) (by decide) rfl (fun ls hl => ?_)
  refine lv_goto (tgt := 5) hx hb dX10_dot_40 (by decide) ?_
  refine lv_iload hx hb dX10_dot_5 (lv_at hl 0 rfl) ?_
  refine lv_iconst (v := nI 5) hx hb dX10_dot_7 (by decide) ?_
  refine lv_icmp_ge (tgt := 43) hx hb dX10_dot_8 (by decide) (fun _ => ?_) (fun c9 => False.elim (by revert c9; decide +kernel))
  refine lv_iload_n hx hb dX10_dot_43 rfl (lv_at hl 1 rfl) ?_
  exact xr_i (v := (nI 0)) hx hb hr hlocks hK hS dX10_dot_44 (gI, gL, qA_210, gQ) ⟨rfl, rfl⟩ hP hD
set_option maxHeartbeats 4000000 in
set_option maxRecDepth 100000 in
theorem a_X10_worthOf_215 (l : Launch) (dC : Nat → ClassId) (dI : Nat → Nat → Nat) (h : Nat → Nat) (cs : Nat → ClassId) (sz : Nat) (I : Nat → Int32) (L : Nat → Int64) (A : Nat → Nat → Int32) (Q : Nat → Nat → Int64) : Met l yX10_worthOf wsX10_worthOf ({ frames := 1, cells := 0, slots := 0, locals := 30 }) (va_Pc [.ref (h 0), .int (nI 2)] (xPre (dC, dI) (wD_177 h cs gI gL qA_210 gQ) (tysA cs) sz)) (va_Ql (fun (r : Int64) (u : RS) => (r = (0 : Int64)) ∧ u = (gI, gL, qA_210, gQ)) (xB (dC, dI) (tysA cs) (va_A (wD_177 h cs gI gL qA_210 gQ) sz) (fun u : RS => wD_177 h cs u.1 u.2.1 u.2.2.1 u.2.2.2)) (va_A (wD_177 h cs gI gL qA_210 gQ) sz)) 0 0 (va_A (wD_177 h cs gI gL qA_210 gQ) sz) := by
  refine Met.ofW (cc := cX10_worthOf) (maxL := 6) (ret := (some .long)) (by decide) rfl ?_
  intro p e s m args below meth c s₁ B hml hv
  obtain ⟨rfl, hsz, hP, hK, hD0, hN⟩ := hv
  have hx := B.exec
  have hb := B.bytes
  have hr := B.returns
  have hts := atoms_spec (ws := wsX10_worthOf) B.pre
  have hown : s.vm.findClass RX10 = some m.cls := findClass_of_methodNamed B.named
  have hlocks := B.notSynchronized
  subst hsz
  have hD := hD0.self (sz := s.heap.size)
  generalize hAe : va_A (wD_177 h cs gI gL qA_210 gQ) s.heap.size = A0 at hD ⊢
  have hA : ∀ q : Nat, s.heap.size ≤ q → A0 q := fun q h => by rw [← hAe]; exact Or.inr h
  have hl := lv_entry ([.ref (h 0), .int (nI 2)]) (n := 6) (Nat.le_of_ble_eq_true rfl)
  rw [lg_entry_eq]
  generalize (lg_sl ([.ref (h 0), .int (nI 2)]) ++ List.replicate (6 - (lg_sl ([.ref (h 0), .int (nI 2)])).length) Slot.unset).toArray = ls at hl ⊢
  have hl : lv_has ls 6 [(0, .ref (h 0)), (1, .int (nI 2))] := hl
  generalize hH : s.heap = H at hP ⊢
  have hS : va_S A0 s.heap H [] := by rw [← hH]; exact va_S.rf
  have hinX10 : ∀ w ∈ wsX100, w ∈ wsX10_worthOf := by decide +kernel
  refine lv_iconst (v := nI 0) hx hb dX10_worthOf_0 (by decide) ?_
  refine lv_istore_n (lv' := [(2, .int (nI 0)), (0, .ref (h 0)), (1, .int (nI 2))]) hx hb dX10_worthOf_1 rfl hl (by decide) rfl (fun ls hl => ?_)
  refine lv_iconst (v := nI 0) hx hb dX10_worthOf_2 (by decide) ?_
  refine lv_istore_n (lv' := [(3, .int (nI 0)), (2, .int (nI 0)), (0, .ref (h 0)), (1, .int (nI 2))]) hx hb dX10_worthOf_3 rfl hl (by decide) rfl (fun ls hl => ?_)
  refine lv_iload_n hx hb dX10_worthOf_4 rfl (lv_at hl 0 rfl) ?_
  refine lv_aload_n hx hb dX10_worthOf_5 rfl (lv_at hl 2 rfl) ?_
  refine va_get (D := (dC, dI)) (ci := 10) (v := .int (gI 1)) (C := RX10) (T := TX10) (N := 28) hx hb hts hinX10 hown hK hP 0 rfl rfl 1 (by decide) (hts (.fieldLink RX10 13 "MixedWordsModel" "columns" "I") (by decide +kernel)) (fun _ h9 => h9) rfl dX10_worthOf_6 ?_
  refine xt_i (y := nI 2) (by decide +kernel) ?_
  refine lv_icmp_ge (tgt := 83) hx hb dX10_worthOf_9 (by decide) (fun c9 => False.elim (by revert c9; decide +kernel)) (fun _ => ?_)
  refine lv_iload_n hx hb dX10_worthOf_12 rfl (lv_at hl 3 rfl) ?_
  refine lv_iload_n hx hb dX10_worthOf_13 rfl (lv_at hl 0 rfl) ?_
  refine lv_ishr hx hb dX10_worthOf_14 ?_
  refine xt_i (y := nI 2) (by decide +kernel) ?_
  refine lv_iconst (v := nI 1) hx hb dX10_worthOf_15 (by decide) ?_
  refine lv_iand hx hb dX10_worthOf_16 ?_
  refine xt_i (y := nI 0) (by decide +kernel) ?_
  refine lv_iconst (v := nI 1) hx hb dX10_worthOf_17 (by decide) ?_
  refine lv_icmp_ne (tgt := 77) hx hb dX10_worthOf_18 (by decide) (fun _ => ?_) (fun c9 => False.elim (by revert c9; decide +kernel))
  refine lv_iinc (v := nI 1) (lv' := [(3, .int (nI 1)), (2, .int (nI 0)), (0, .ref (h 0)), (1, .int (nI 2))]) hx hb dX10_worthOf_77 hl (k := 0) rfl (by decide +kernel) (by decide) rfl (fun ls hl => ?_)
  refine lv_goto (tgt := 4) hx hb dX10_worthOf_80 (by decide) ?_
  refine lv_iload_n hx hb dX10_worthOf_4 rfl (lv_at hl 0 rfl) ?_
  refine lv_aload_n hx hb dX10_worthOf_5 rfl (lv_at hl 2 rfl) ?_
  refine va_get (D := (dC, dI)) (ci := 10) (v := .int (gI 1)) (C := RX10) (T := TX10) (N := 28) hx hb hts hinX10 hown hK hP 0 rfl rfl 1 (by decide) (hts (.fieldLink RX10 13 "MixedWordsModel" "columns" "I") (by decide +kernel)) (fun _ h9 => h9) rfl dX10_worthOf_6 ?_
  refine xt_i (y := nI 2) (by decide +kernel) ?_
  refine lv_icmp_ge (tgt := 83) hx hb dX10_worthOf_9 (by decide) (fun c9 => False.elim (by revert c9; decide +kernel)) (fun _ => ?_)
  refine lv_iload_n hx hb dX10_worthOf_12 rfl (lv_at hl 3 rfl) ?_
  refine lv_iload_n hx hb dX10_worthOf_13 rfl (lv_at hl 0 rfl) ?_
  refine lv_ishr hx hb dX10_worthOf_14 ?_
  refine xt_i (y := nI 1) (by decide +kernel) ?_
  refine lv_iconst (v := nI 1) hx hb dX10_worthOf_15 (by decide) ?_
  refine lv_iand hx hb dX10_worthOf_16 ?_
  refine xt_i (y := nI 1) (by decide +kernel) ?_
  refine lv_iconst (v := nI 1) hx hb dX10_worthOf_17 (by decide) ?_
  refine lv_icmp_ne (tgt := 77) hx hb dX10_worthOf_18 (by decide) (fun c9 => False.elim (by revert c9; decide +kernel)) (fun _ => ?_)
  refine lv_iconst (v := nI 0) hx hb dX10_worthOf_21 (by decide) ?_
  refine lv_istore (lv' := [(4, .int (nI 0)), (3, .int (nI 1)), (2, .int (nI 0)), (0, .ref (h 0)), (1, .int (nI 2))]) hx hb dX10_worthOf_22 hl (by decide) rfl (fun ls hl => ?_)
  refine lv_iconst (v := nI 0) hx hb dX10_worthOf_24 (by decide) ?_
  refine lv_istore (lv' := [(5, .int (nI 0)), (4, .int (nI 0)), (3, .int (nI 1)), (2, .int (nI 0)), (0, .ref (h 0)), (1, .int (nI 2))]) hx hb dX10_worthOf_25 hl (by decide) rfl (fun ls hl => ?_)
  refine lv_iload hx hb dX10_worthOf_27 (lv_at hl 0 rfl) ?_
  refine lv_aload_n hx hb dX10_worthOf_29 rfl (lv_at hl 4 rfl) ?_
  refine va_get (D := (dC, dI)) (ci := 10) (v := .int (gI 1)) (C := RX10) (T := TX10) (N := 28) hx hb hts hinX10 hown hK hP 0 rfl rfl 1 (by decide) (hts (.fieldLink RX10 13 "MixedWordsModel" "columns" "I") (by decide +kernel)) (fun _ h9 => h9) rfl dX10_worthOf_30 ?_
  refine xt_i (y := nI 2) (by decide +kernel) ?_
  refine lv_icmp_ge (tgt := 74) hx hb dX10_worthOf_33 (by decide) (fun c9 => False.elim (by revert c9; decide +kernel)) (fun _ => ?_)
  refine lv_iload_n hx hb dX10_worthOf_36 rfl (lv_at hl 5 rfl) ?_
  refine lv_iload hx hb dX10_worthOf_37 (lv_at hl 0 rfl) ?_
  refine lv_ishr hx hb dX10_worthOf_39 ?_
  refine xt_i (y := nI 2) (by decide +kernel) ?_
  refine lv_iconst (v := nI 1) hx hb dX10_worthOf_40 (by decide) ?_
  refine lv_iand hx hb dX10_worthOf_41 ?_
  refine xt_i (y := nI 0) (by decide +kernel) ?_
  refine lv_iconst (v := nI 1) hx hb dX10_worthOf_42 (by decide) ?_
  refine lv_icmp_ne (tgt := 68) hx hb dX10_worthOf_43 (by decide) (fun _ => ?_) (fun c9 => False.elim (by revert c9; decide +kernel))
  refine lv_iinc (v := nI 1) (lv' := [(5, .int (nI 1)), (4, .int (nI 0)), (3, .int (nI 1)), (2, .int (nI 0)), (0, .ref (h 0)), (1, .int (nI 2))]) hx hb dX10_worthOf_68 hl (k := 0) rfl (by decide +kernel) (by decide) rfl (fun ls hl => ?_)
  refine lv_goto (tgt := 27) hx hb dX10_worthOf_71 (by decide) ?_
  refine lv_iload hx hb dX10_worthOf_27 (lv_at hl 0 rfl) ?_
  refine lv_aload_n hx hb dX10_worthOf_29 rfl (lv_at hl 4 rfl) ?_
  refine va_get (D := (dC, dI)) (ci := 10) (v := .int (gI 1)) (C := RX10) (T := TX10) (N := 28) hx hb hts hinX10 hown hK hP 0 rfl rfl 1 (by decide) (hts (.fieldLink RX10 13 "MixedWordsModel" "columns" "I") (by decide +kernel)) (fun _ h9 => h9) rfl dX10_worthOf_30 ?_
  refine xt_i (y := nI 2) (by decide +kernel) ?_
  refine lv_icmp_ge (tgt := 74) hx hb dX10_worthOf_33 (by decide) (fun c9 => False.elim (by revert c9; decide +kernel)) (fun _ => ?_)
  refine lv_iload_n hx hb dX10_worthOf_36 rfl (lv_at hl 5 rfl) ?_
  refine lv_iload hx hb dX10_worthOf_37 (lv_at hl 0 rfl) ?_
  refine lv_ishr hx hb dX10_worthOf_39 ?_
  refine xt_i (y := nI 1) (by decide +kernel) ?_
  refine lv_iconst (v := nI 1) hx hb dX10_worthOf_40 (by decide) ?_
  refine lv_iand hx hb dX10_worthOf_41 ?_
  refine xt_i (y := nI 1) (by decide +kernel) ?_
  refine lv_iconst (v := nI 1) hx hb dX10_worthOf_42 (by decide) ?_
  refine lv_icmp_ne (tgt := 68) hx hb dX10_worthOf_43 (by decide) (fun c9 => False.elim (by revert c9; decide +kernel)) (fun _ => ?_)
  refine lv_aload_n hx hb dX10_worthOf_46 rfl (lv_at hl 4 rfl) ?_
  refine va_get (D := (dC, dI)) (ci := 10) (v := .ref (h 19)) (C := RX10) (T := TX10) (N := 28) hx hb hts hinX10 hown hK hP 0 rfl rfl 19 (by decide) (hts (.fieldLink RX10 47 "MixedWordsModel" "square" "[J") (by decide +kernel)) (fun _ h9 => h9) rfl dX10_worthOf_47 ?_
  refine lv_iconst (v := nI 4) hx hb dX10_worthOf_50 (by decide) ?_
  refine lv_iload_n hx hb dX10_worthOf_51 rfl (lv_at hl 3 rfl) ?_
  refine lv_imul hx hb dX10_worthOf_52 ?_
  refine xt_i (y := nI 0) (by decide +kernel) ?_
  refine lv_iload hx hb dX10_worthOf_53 (lv_at hl 1 rfl) ?_
  refine lv_iadd hx hb dX10_worthOf_55 ?_
  refine xt_i (y := nI 0) (by decide +kernel) ?_
  refine lv_aload_n hx hb dX10_worthOf_56 rfl (lv_at hl 4 rfl) ?_
  refine lv_iload_n hx hb dX10_worthOf_57 rfl (lv_at hl 2 rfl) ?_
  refine lv_iload hx hb dX10_worthOf_58 (lv_at hl 0 rfl) ?_
  refine xj_i (wc := (wD_177 h cs gI gL qA_210 gQ)) (wr := ([] : va_W)) hP hD hS hA [0, 1, 2, 3, 4, 5, 6, 7, 8, 9, 10, 11, 12, 13, 14, 15, 16] [] rfl rfl (by decide) (by decide) (va_runV (As := [.int (nI 1), .int (nI 1)]) (rest := [.int (nI 0), .ref (h 19)]) ⟨hx, hb, hml, hown, hts⟩ (a_X10_dot_216 l dC dI h cs H.size gI gL qA_210 gQ ) (cwV 2 hts gX10_worthOf_X10_dot rfl rfl rfl (by decide +kernel) ⟨Nat.le_of_ble_eq_true rfl, Nat.le_of_ble_eq_true rfl⟩) (xpV (wc := (wD_177 h cs gI gL qA_210 gQ)) hP hD hK hN [0, 1, 2, 3, 4, 5, 6, 7, 8, 9, 10, 11, 12, 13, 14, 15, 16] rfl (by decide) 0 (ci := 10) rfl rfl _) rfl rfl hl.1 rfl (lv_room (Nat.le_of_ble_eq_true rfl)) dX10_worthOf_60 ⟨Nat.zero_le _, Nat.zero_le _⟩) (fun r_2 u_1 H locs hw hP hD hS => ?_)
  obtain ⟨hf_3, rfl⟩ := hw
  have hP : va_P (dC, dI) vwCl (wD_177 h cs gI gL qA_210 gQ) H := hP
  have hD : va_D A0 (wD_177 h cs gI gL qA_210 gQ) := hD
  obtain rfl := hf_3
  refine lv_i2l (v := (0 : Int64)) hx hb dX10_worthOf_63 (by decide +kernel) ?_
  refine xa_lastS hx hb hK hP hD hS 10 1 rfl rfl (by omega) (by decide) (by decide +kernel) dX10_worthOf_64 (fun H locs hP hD hS => ?_)
  refine lv_iinc (v := nI 1) (lv' := [(4, .int (nI 1)), (5, .int (nI 1)), (3, .int (nI 1)), (2, .int (nI 0)), (0, .ref (h 0)), (1, .int (nI 2))]) hx hb dX10_worthOf_65 hl (k := 1) rfl (by decide +kernel) (by decide) rfl (fun ls hl => ?_)
  refine lv_iinc (v := nI 2) (lv' := [(5, .int (nI 2)), (4, .int (nI 1)), (3, .int (nI 1)), (2, .int (nI 0)), (0, .ref (h 0)), (1, .int (nI 2))]) hx hb dX10_worthOf_68 hl (k := 1) rfl (by decide +kernel) (by decide) rfl (fun ls hl => ?_)
  refine lv_goto (tgt := 27) hx hb dX10_worthOf_71 (by decide) ?_
  refine lv_iload hx hb dX10_worthOf_27 (lv_at hl 0 rfl) ?_
  refine lv_aload_n hx hb dX10_worthOf_29 rfl (lv_at hl 4 rfl) ?_
  refine va_get (D := (dC, dI)) (ci := 10) (v := .int (gI 1)) (C := RX10) (T := TX10) (N := 28) hx hb hts hinX10 hown hK hP 0 rfl rfl 1 (by decide) (hts (.fieldLink RX10 13 "MixedWordsModel" "columns" "I") (by decide +kernel)) (fun _ h9 => h9) rfl dX10_worthOf_30 ?_
  refine xt_i (y := nI 2) (by decide +kernel) ?_
  refine lv_icmp_ge (tgt := 74) hx hb dX10_worthOf_33 (by decide) (fun _ => ?_) (fun c9 => False.elim (by revert c9; decide +kernel))
  refine lv_iinc (v := nI 1) (lv' := [(2, .int (nI 1)), (5, .int (nI 2)), (4, .int (nI 1)), (3, .int (nI 1)), (0, .ref (h 0)), (1, .int (nI 2))]) hx hb dX10_worthOf_74 hl (k := 3) rfl (by decide +kernel) (by decide) rfl (fun ls hl => ?_)
  refine lv_iinc (v := nI 2) (lv' := [(3, .int (nI 2)), (2, .int (nI 1)), (5, .int (nI 2)), (4, .int (nI 1)), (0, .ref (h 0)), (1, .int (nI 2))]) hx hb dX10_worthOf_77 hl (k := 3) rfl (by decide +kernel) (by decide) rfl (fun ls hl => ?_)
  refine lv_goto (tgt := 4) hx hb dX10_worthOf_80 (by decide) ?_
  refine lv_iload_n hx hb dX10_worthOf_4 rfl (lv_at hl 0 rfl) ?_
  refine lv_aload_n hx hb dX10_worthOf_5 rfl (lv_at hl 4 rfl) ?_
  refine va_get (D := (dC, dI)) (ci := 10) (v := .int (gI 1)) (C := RX10) (T := TX10) (N := 28) hx hb hts hinX10 hown hK hP 0 rfl rfl 1 (by decide) (hts (.fieldLink RX10 13 "MixedWordsModel" "columns" "I") (by decide +kernel)) (fun _ h9 => h9) rfl dX10_worthOf_6 ?_
  refine xt_i (y := nI 2) (by decide +kernel) ?_
  refine lv_icmp_ge (tgt := 83) hx hb dX10_worthOf_9 (by decide) (fun _ => ?_) (fun c9 => False.elim (by revert c9; decide +kernel))
  refine lv_aload_n hx hb dX10_worthOf_83 rfl (lv_at hl 4 rfl) ?_
  refine lv_iload_n hx hb dX10_worthOf_84 rfl (lv_at hl 1 rfl) ?_
  refine xj_l (wc := (wD_177 h cs gI gL qA_210 gQ)) (wr := ([] : va_W)) hP hD hS hA [0, 1, 2, 3, 4, 5, 6, 7, 8, 9, 10, 11, 12, 13, 14, 15, 16] [] rfl rfl (by decide) (by decide) (va_runV (As := [.int (nI 1)]) (rest := []) ⟨hx, hb, hml, hown, hts⟩ (a_X10_determinant_213 l dC dI h cs H.size gI gL qA_210 gQ ) (cwV 1 hts gX10_worthOf_X10_determinant rfl rfl rfl (by decide +kernel) ⟨Nat.le_of_ble_eq_true rfl, Nat.le_of_ble_eq_true rfl⟩) (xpV (wc := (wD_177 h cs gI gL qA_210 gQ)) hP hD hK hN [0, 1, 2, 3, 4, 5, 6, 7, 8, 9, 10, 11, 12, 13, 14, 15, 16] rfl (by decide) 0 (ci := 10) rfl rfl _) rfl rfl hl.1 rfl (lv_room (Nat.le_of_ble_eq_true rfl)) dX10_worthOf_85 ⟨Nat.zero_le _, Nat.zero_le _⟩) (fun r_5 u_4 H locs hw hP hD hS => ?_)
  obtain ⟨hf_6, rfl⟩ := hw
  have hP : va_P (dC, dI) vwCl (wD_177 h cs gI gL qA_210 gQ) H := hP
  have hD : va_D A0 (wD_177 h cs gI gL qA_210 gQ) := hD
  obtain rfl := hf_6
  exact xr_l (v := (0 : Int64)) hx hb hr hlocks hK hS dX10_worthOf_88 (gI, gL, qA_210, gQ) ⟨rfl, rfl⟩ hP hD
set_option maxHeartbeats 4000000 in
set_option maxRecDepth 100000 in
theorem a_X10_in_217 (l : Launch) (dC : Nat → ClassId) (dI : Nat → Nat → Nat) (h : Nat → Nat) (cs : Nat → ClassId) (sz : Nat) (I : Nat → Int32) (L : Nat → Int64) (A : Nat → Nat → Int32) (Q : Nat → Nat → Int64) : Met l yX10_in wsX10_in ({ frames := 0, cells := 0, slots := 0, locals := 0 }) (va_Pc [.long (3 : Int64), .long (1 : Int64), .long (3 : Int64)] (xPre (dC, dI) ([] : va_W) (tysA cs) sz)) (va_Qi (fun (r : Int32) (u : RS) => (r = nI 1) ∧ u = (I, L, A, Q)) (xB (dC, dI) (tysA cs) (va_A ([] : va_W) sz) (fun _ : RS => ([] : va_W))) (va_A ([] : va_W) sz)) 0 0 (va_A ([] : va_W) sz) := by
  refine Met.ofW (cc := cX10_in) (maxL := 6) (ret := (some .boolean)) (by decide) rfl ?_
  intro p e s m args below meth c s₁ B hml hv
  obtain ⟨rfl, hsz, hP, hK, hD0, hN⟩ := hv
  have hx := B.exec
  have hb := B.bytes
  have hr := B.returns
  have hts := atoms_spec (ws := wsX10_in) B.pre
  have hown : s.vm.findClass RX10 = some m.cls := findClass_of_methodNamed B.named
  have hlocks := B.notSynchronized
  subst hsz
  have hD := hD0.self (sz := s.heap.size)
  generalize hAe : va_A ([] : va_W) s.heap.size = A0 at hD ⊢
  have hA : ∀ q : Nat, s.heap.size ≤ q → A0 q := fun q h => by rw [← hAe]; exact Or.inr h
  have hl := lv_entry ([.long (3 : Int64), .long (1 : Int64), .long (3 : Int64)]) (n := 6) (Nat.le_of_ble_eq_true rfl)
  rw [lg_entry_eq]
  generalize (lg_sl ([.long (3 : Int64), .long (1 : Int64), .long (3 : Int64)]) ++ List.replicate (6 - (lg_sl ([.long (3 : Int64), .long (1 : Int64), .long (3 : Int64)])).length) Slot.unset).toArray = ls at hl ⊢
  have hl : lv_has ls 6 [(0, .long (3 : Int64)), (2, .long (1 : Int64)), (4, .long (3 : Int64))] := hl
  generalize hH : s.heap = H at hP ⊢
  have hS : va_S A0 s.heap H [] := by rw [← hH]; exact va_S.rf
  refine lv_lload_n hx hb dX10_in_0 rfl (lv_at hl 0 rfl) ?_
  refine lv_lload_n hx hb dX10_in_1 rfl (lv_at hl 1 rfl) ?_
  refine xl_lt (tgt := 17) hx hb dX10_in_2 dX10_in_3 (by decide) (fun c9 => False.elim (by revert c9; decide +kernel)) (fun _ => ?_)
  refine lv_lload_n hx hb dX10_in_6 rfl (lv_at hl 0 rfl) ?_
  refine lv_lload hx hb dX10_in_7 (lv_at hl 2 rfl) ?_
  refine xl_gt (tgt := 17) hx hb dX10_in_9 dX10_in_10 (by decide) (fun c9 => False.elim (by revert c9; decide +kernel)) (fun _ => ?_)
  refine lv_iconst (v := nI 1) hx hb dX10_in_13 (by decide) ?_
  refine lv_goto (tgt := 18) hx hb dX10_in_14 (by decide) ?_
  exact xr_z (v := (nI 1)) hx hb hr hlocks hK hS dX10_in_18 (rfl) (I, L, A, Q) ⟨rfl, rfl⟩ hP hD
set_option maxHeartbeats 4000000 in
set_option maxRecDepth 100000 in
theorem a_X10_dot_219 (l : Launch) (dC : Nat → ClassId) (dI : Nat → Nat → Nat) (h : Nat → Nat) (cs : Nat → ClassId) (sz : Nat) (I : Nat → Int32) (L : Nat → Int64) (A : Nat → Nat → Int32) (Q : Nat → Nat → Int64) : Met l yX10_dot wsX10_dot ({ frames := 0, cells := 0, slots := 0, locals := 0 }) (va_Pc [.ref (h 0), .int (nI 0), .int (nI 1)] (xPre (dC, dI) (wD_177 h cs gI gL qA_210 gQ) (tysA cs) sz)) (va_Qi (fun (r : Int32) (u : RS) => (r = nI 0) ∧ u = (gI, gL, qA_210, gQ)) (xB (dC, dI) (tysA cs) (va_A (wD_177 h cs gI gL qA_210 gQ) sz) (fun u : RS => wD_177 h cs u.1 u.2.1 u.2.2.1 u.2.2.2)) (va_A (wD_177 h cs gI gL qA_210 gQ) sz)) 0 0 (va_A (wD_177 h cs gI gL qA_210 gQ) sz) := by
  refine Met.ofW (cc := cX10_dot) (maxL := 5) (ret := (some .int)) (by decide) rfl ?_
  intro p e s m args below meth c s₁ B hml hv
  obtain ⟨rfl, hsz, hP, hK, hD0, hN⟩ := hv
  have hx := B.exec
  have hb := B.bytes
  have hr := B.returns
  have hts := atoms_spec (ws := wsX10_dot) B.pre
  have hown : s.vm.findClass RX10 = some m.cls := findClass_of_methodNamed B.named
  have hlocks := B.notSynchronized
  subst hsz
  have hD := hD0.self (sz := s.heap.size)
  generalize hAe : va_A (wD_177 h cs gI gL qA_210 gQ) s.heap.size = A0 at hD ⊢
  have hA : ∀ q : Nat, s.heap.size ≤ q → A0 q := fun q h => by rw [← hAe]; exact Or.inr h
  have hl := lv_entry ([.ref (h 0), .int (nI 0), .int (nI 1)]) (n := 5) (Nat.le_of_ble_eq_true rfl)
  rw [lg_entry_eq]
  generalize (lg_sl ([.ref (h 0), .int (nI 0), .int (nI 1)]) ++ List.replicate (5 - (lg_sl ([.ref (h 0), .int (nI 0), .int (nI 1)])).length) Slot.unset).toArray = ls at hl ⊢
  have hl : lv_has ls 5 [(0, .ref (h 0)), (1, .int (nI 0)), (2, .int (nI 1))] := hl
  generalize hH : s.heap = H at hP ⊢
  have hS : va_S A0 s.heap H [] := by rw [← hH]; exact va_S.rf
  have hinX10 : ∀ w ∈ wsX100, w ∈ wsX10_dot := by decide +kernel
  refine lv_iconst (v := nI 0) hx hb dX10_dot_0 (by decide) ?_
  refine lv_istore_n (lv' := [(3, .int (nI 0)), (0, .ref (h 0)), (1, .int (nI 0)), (2, .int (nI 1))]) hx hb dX10_dot_1 rfl hl (by decide) rfl (fun ls hl => ?_)
  refine lv_iconst (v := nI 0) hx hb dX10_dot_2 (by decide) ?_
  refine lv_istore (lv' := [(4, .int (nI 0)), (3, .int (nI 0)), (0, .ref (h 0)), (1, .int (nI 0)), (2, .int (nI 1))]) hx hb dX10_dot_3 hl (by decide) rfl (fun ls hl => ?_)
  refine lv_iload hx hb dX10_dot_5 (lv_at hl 0 rfl) ?_
  refine lv_iconst (v := nI 5) hx hb dX10_dot_7 (by decide) ?_
  refine lv_icmp_ge (tgt := 43) hx hb dX10_dot_8 (by decide) (fun c9 => False.elim (by revert c9; decide +kernel)) (fun _ => ?_)
  refine lv_iload_n hx hb dX10_dot_11 rfl (lv_at hl 1 rfl) ?_
  refine lv_aload_n hx hb dX10_dot_12 rfl (lv_at hl 2 rfl) ?_
  refine va_get (D := (dC, dI)) (ci := 10) (v := .ref (h 17)) (C := RX10) (T := TX10) (N := 28) hx hb hts hinX10 hown hK hP 0 rfl rfl 17 (by decide) (hts (.fieldLink RX10 41 "MixedWordsModel" "cols" "[I") (by decide +kernel)) (fun _ h9 => h9) rfl dX10_dot_13 ?_
  refine lv_iconst (v := nI 5) hx hb dX10_dot_16 (by decide) ?_
  refine lv_iload_n hx hb dX10_dot_17 rfl (lv_at hl 3 rfl) ?_
  refine lv_imul hx hb dX10_dot_18 ?_
  refine xt_i (y := nI 0) (by decide +kernel) ?_
  refine lv_iload hx hb dX10_dot_19 (lv_at hl 0 rfl) ?_
  refine lv_iadd hx hb dX10_dot_21 ?_
  refine xt_i (y := nI 0) (by decide +kernel) ?_
  refine xa_iald hx hb hK hP 8 0 rfl rfl (by omega) (by decide) dX10_dot_22 ?_
  refine xt_i (y := nI 0) (by decide +kernel) ?_
  refine lv_aload_n hx hb dX10_dot_23 rfl (lv_at hl 2 rfl) ?_
  refine va_get (D := (dC, dI)) (ci := 10) (v := .ref (h 17)) (C := RX10) (T := TX10) (N := 28) hx hb hts hinX10 hown hK hP 0 rfl rfl 17 (by decide) (hts (.fieldLink RX10 41 "MixedWordsModel" "cols" "[I") (by decide +kernel)) (fun _ h9 => h9) rfl dX10_dot_24 ?_
  refine lv_iconst (v := nI 5) hx hb dX10_dot_27 (by decide) ?_
  refine lv_iload_n hx hb dX10_dot_28 rfl (lv_at hl 4 rfl) ?_
  refine lv_imul hx hb dX10_dot_29 ?_
  refine xt_i (y := nI 5) (by decide +kernel) ?_
  refine lv_iload hx hb dX10_dot_30 (lv_at hl 0 rfl) ?_
  refine lv_iadd hx hb dX10_dot_32 ?_
  refine xt_i (y := nI 5) (by decide +kernel) ?_
  refine xa_iald hx hb hK hP 8 0 rfl rfl (by omega) (by decide) dX10_dot_33 ?_
  refine xt_i (y := nI 0) (by decide +kernel) ?_
  refine lv_imul hx hb dX10_dot_34 ?_
  refine xt_i (y := nI 0) (by decide +kernel) ?_
  refine lv_iadd hx hb dX10_dot_35 ?_
  refine xt_i (y := nI 0) (by decide +kernel) ?_
  refine lv_istore_n (lv' := [(3, .int (nI 0)), (4, .int (nI 0)), (0, .ref (h 0)), (1, .int (nI 0)), (2, .int (nI 1))]) hx hb dX10_dot_36 rfl hl (by decide) rfl (fun ls hl => ?_)
  refine lv_iinc (v := nI 1) (lv' := [(4, .int (nI 1)), (3, .int (nI 0)), (0, .ref (h 0)), (1, .int (nI 0)), (2, .int (nI 1))]) hx hb dX10_dot_37 hl (k := 1) rfl (by decide +kernel) (by decide) rfl (fun ls hl => ?_)
  refine lv_goto (tgt := 5) hx hb dX10_dot_40 (by decide) ?_
  refine lv_iload hx hb dX10_dot_5 (lv_at hl 0 rfl) ?_
  refine lv_iconst (v := nI 5) hx hb dX10_dot_7 (by decide) ?_
  refine lv_icmp_ge (tgt := 43) hx hb dX10_dot_8 (by decide) (fun c9 => False.elim (by revert c9; decide +kernel)) (fun _ => ?_)
  refine lv_iload_n hx hb dX10_dot_11 rfl (lv_at hl 1 rfl) ?_
  refine lv_aload_n hx hb dX10_dot_12 rfl (lv_at hl 2 rfl) ?_
  refine va_get (D := (dC, dI)) (ci := 10) (v := .ref (h 17)) (C := RX10) (T := TX10) (N := 28) hx hb hts hinX10 hown hK hP 0 rfl rfl 17 (by decide) (hts (.fieldLink RX10 41 "MixedWordsModel" "cols" "[I") (by decide +kernel)) (fun _ h9 => h9) rfl dX10_dot_13 ?_
  refine lv_iconst (v := nI 5) hx hb dX10_dot_16 (by decide) ?_
  refine lv_iload_n hx hb dX10_dot_17 rfl (lv_at hl 3 rfl) ?_
  refine lv_imul hx hb dX10_dot_18 ?_
  refine xt_i (y := nI 0) (by decide +kernel) ?_
  refine lv_iload hx hb dX10_dot_19 (lv_at hl 0 rfl) ?_
  refine lv_iadd hx hb dX10_dot_21 ?_
  refine xt_i (y := nI 1) (by decide +kernel) ?_
  refine xa_iald hx hb hK hP 8 0 rfl rfl (by omega) (by decide) dX10_dot_22 ?_
  refine xt_i (y := nI 0) (by decide +kernel) ?_
  refine lv_aload_n hx hb dX10_dot_23 rfl (lv_at hl 2 rfl) ?_
  refine va_get (D := (dC, dI)) (ci := 10) (v := .ref (h 17)) (C := RX10) (T := TX10) (N := 28) hx hb hts hinX10 hown hK hP 0 rfl rfl 17 (by decide) (hts (.fieldLink RX10 41 "MixedWordsModel" "cols" "[I") (by decide +kernel)) (fun _ h9 => h9) rfl dX10_dot_24 ?_
  refine lv_iconst (v := nI 5) hx hb dX10_dot_27 (by decide) ?_
  refine lv_iload_n hx hb dX10_dot_28 rfl (lv_at hl 4 rfl) ?_
  refine lv_imul hx hb dX10_dot_29 ?_
  refine xt_i (y := nI 5) (by decide +kernel) ?_
  refine lv_iload hx hb dX10_dot_30 (lv_at hl 0 rfl) ?_
  refine lv_iadd hx hb dX10_dot_32 ?_
  refine xt_i (y := nI 6) (by decide +kernel) ?_
  refine xa_iald hx hb hK hP 8 0 rfl rfl (by omega) (by decide) dX10_dot_33 ?_
  refine xt_i (y := nI 0) (by decide +kernel) ?_
  refine lv_imul hx hb dX10_dot_34 ?_
  refine xt_i (y := nI 0) (by decide +kernel) ?_
  refine lv_iadd hx hb dX10_dot_35 ?_
  refine xt_i (y := nI 0) (by decide +kernel) ?_
  refine lv_istore_n (lv' := [(3, .int (nI 0)), (4, .int (nI 1)), (0, .ref (h 0)), (1, .int (nI 0)), (2, .int (nI 1))]) hx hb dX10_dot_36 rfl hl (by decide) rfl (fun ls hl => ?_)
  refine lv_iinc (v := nI 2) (lv' := [(4, .int (nI 2)), (3, .int (nI 0)), (0, .ref (h 0)), (1, .int (nI 0)), (2, .int (nI 1))]) hx hb dX10_dot_37 hl (k := 1) rfl (by decide +kernel) (by decide) rfl (fun ls hl => ?_)
  refine lv_goto (tgt := 5) hx hb dX10_dot_40 (by decide) ?_
  refine lv_iload hx hb dX10_dot_5 (lv_at hl 0 rfl) ?_
  refine lv_iconst (v := nI 5) hx hb dX10_dot_7 (by decide) ?_
  refine lv_icmp_ge (tgt := 43) hx hb dX10_dot_8 (by decide) (fun c9 => False.elim (by revert c9; decide +kernel)) (fun _ => ?_)
  refine lv_iload_n hx hb dX10_dot_11 rfl (lv_at hl 1 rfl) ?_
  refine lv_aload_n hx hb dX10_dot_12 rfl (lv_at hl 2 rfl) ?_
  refine va_get (D := (dC, dI)) (ci := 10) (v := .ref (h 17)) (C := RX10) (T := TX10) (N := 28) hx hb hts hinX10 hown hK hP 0 rfl rfl 17 (by decide) (hts (.fieldLink RX10 41 "MixedWordsModel" "cols" "[I") (by decide +kernel)) (fun _ h9 => h9) rfl dX10_dot_13 ?_
  refine lv_iconst (v := nI 5) hx hb dX10_dot_16 (by decide) ?_
  refine lv_iload_n hx hb dX10_dot_17 rfl (lv_at hl 3 rfl) ?_
  refine lv_imul hx hb dX10_dot_18 ?_
  refine xt_i (y := nI 0) (by decide +kernel) ?_
  refine lv_iload hx hb dX10_dot_19 (lv_at hl 0 rfl) ?_
  refine lv_iadd hx hb dX10_dot_21 ?_
  refine xt_i (y := nI 2) (by decide +kernel) ?_
  refine xa_iald hx hb hK hP 8 0 rfl rfl (by omega) (by decide) dX10_dot_22 ?_
  refine xt_i (y := nI 0) (by decide +kernel) ?_
  refine lv_aload_n hx hb dX10_dot_23 rfl (lv_at hl 2 rfl) ?_
  refine va_get (D := (dC, dI)) (ci := 10) (v := .ref (h 17)) (C := RX10) (T := TX10) (N := 28) hx hb hts hinX10 hown hK hP 0 rfl rfl 17 (by decide) (hts (.fieldLink RX10 41 "MixedWordsModel" "cols" "[I") (by decide +kernel)) (fun _ h9 => h9) rfl dX10_dot_24 ?_
  refine lv_iconst (v := nI 5) hx hb dX10_dot_27 (by decide) ?_
  refine lv_iload_n hx hb dX10_dot_28 rfl (lv_at hl 4 rfl) ?_
  refine lv_imul hx hb dX10_dot_29 ?_
  refine xt_i (y := nI 5) (by decide +kernel) ?_
  refine lv_iload hx hb dX10_dot_30 (lv_at hl 0 rfl) ?_
  refine lv_iadd hx hb dX10_dot_32 ?_
  refine xt_i (y := nI 7) (by decide +kernel) ?_
  refine xa_iald hx hb hK hP 8 0 rfl rfl (by omega) (by decide) dX10_dot_33 ?_
  refine xt_i (y := nI 0) (by decide +kernel) ?_
  refine lv_imul hx hb dX10_dot_34 ?_
  refine xt_i (y := nI 0) (by decide +kernel) ?_
  refine lv_iadd hx hb dX10_dot_35 ?_
  refine xt_i (y := nI 0) (by decide +kernel) ?_
  refine lv_istore_n (lv' := [(3, .int (nI 0)), (4, .int (nI 2)), (0, .ref (h 0)), (1, .int (nI 0)), (2, .int (nI 1))]) hx hb dX10_dot_36 rfl hl (by decide) rfl (fun ls hl => ?_)
  refine lv_iinc (v := nI 3) (lv' := [(4, .int (nI 3)), (3, .int (nI 0)), (0, .ref (h 0)), (1, .int (nI 0)), (2, .int (nI 1))]) hx hb dX10_dot_37 hl (k := 1) rfl (by decide +kernel) (by decide) rfl (fun ls hl => ?_)
  refine lv_goto (tgt := 5) hx hb dX10_dot_40 (by decide) ?_
  refine lv_iload hx hb dX10_dot_5 (lv_at hl 0 rfl) ?_
  refine lv_iconst (v := nI 5) hx hb dX10_dot_7 (by decide) ?_
  refine lv_icmp_ge (tgt := 43) hx hb dX10_dot_8 (by decide) (fun c9 => False.elim (by revert c9; decide +kernel)) (fun _ => ?_)
  refine lv_iload_n hx hb dX10_dot_11 rfl (lv_at hl 1 rfl) ?_
  refine lv_aload_n hx hb dX10_dot_12 rfl (lv_at hl 2 rfl) ?_
  refine va_get (D := (dC, dI)) (ci := 10) (v := .ref (h 17)) (C := RX10) (T := TX10) (N := 28) hx hb hts hinX10 hown hK hP 0 rfl rfl 17 (by decide) (hts (.fieldLink RX10 41 "MixedWordsModel" "cols" "[I") (by decide +kernel)) (fun _ h9 => h9) rfl dX10_dot_13 ?_
  refine lv_iconst (v := nI 5) hx hb dX10_dot_16 (by decide) ?_
  refine lv_iload_n hx hb dX10_dot_17 rfl (lv_at hl 3 rfl) ?_
  refine lv_imul hx hb dX10_dot_18 ?_
  refine xt_i (y := nI 0) (by decide +kernel) ?_
  refine lv_iload hx hb dX10_dot_19 (lv_at hl 0 rfl) ?_
  refine lv_iadd hx hb dX10_dot_21 ?_
  refine xt_i (y := nI 3) (by decide +kernel) ?_
  refine xa_iald hx hb hK hP 8 0 rfl rfl (by omega) (by decide) dX10_dot_22 ?_
  refine xt_i (y := nI 0) (by decide +kernel) ?_
  refine lv_aload_n hx hb dX10_dot_23 rfl (lv_at hl 2 rfl) ?_
  refine va_get (D := (dC, dI)) (ci := 10) (v := .ref (h 17)) (C := RX10) (T := TX10) (N := 28) hx hb hts hinX10 hown hK hP 0 rfl rfl 17 (by decide) (hts (.fieldLink RX10 41 "MixedWordsModel" "cols" "[I") (by decide +kernel)) (fun _ h9 => h9) rfl dX10_dot_24 ?_
  refine lv_iconst (v := nI 5) hx hb dX10_dot_27 (by decide) ?_
  refine lv_iload_n hx hb dX10_dot_28 rfl (lv_at hl 4 rfl) ?_
  refine lv_imul hx hb dX10_dot_29 ?_
  refine xt_i (y := nI 5) (by decide +kernel) ?_
  refine lv_iload hx hb dX10_dot_30 (lv_at hl 0 rfl) ?_
  refine lv_iadd hx hb dX10_dot_32 ?_
  refine xt_i (y := nI 8) (by decide +kernel) ?_
  refine xa_iald hx hb hK hP 8 0 rfl rfl (by omega) (by decide) dX10_dot_33 ?_
  refine xt_i (y := nI 0) (by decide +kernel) ?_
  refine lv_imul hx hb dX10_dot_34 ?_
  refine xt_i (y := nI 0) (by decide +kernel) ?_
  refine lv_iadd hx hb dX10_dot_35 ?_
  refine xt_i (y := nI 0) (by decide +kernel) ?_
  refine lv_istore_n (lv' := [(3, .int (nI 0)), (4, .int (nI 3)), (0, .ref (h 0)), (1, .int (nI 0)), (2, .int (nI 1))]) hx hb dX10_dot_36 rfl hl (by decide) rfl (fun ls hl => ?_)
  refine lv_iinc (v := nI 4) (lv' := [(4, .int (nI 4)), (3, .int (nI 0)), (0, .ref (h 0)), (1, .int (nI 0)), (2, .int (nI 1))]) hx hb dX10_dot_37 hl (k := 1) rfl (by decide +kernel) (by decide) rfl (fun ls hl => ?_)
  refine lv_goto (tgt := 5) hx hb dX10_dot_40 (by decide) ?_
  refine lv_iload hx hb dX10_dot_5 (lv_at hl 0 rfl) ?_
  refine lv_iconst (v := nI 5) hx hb dX10_dot_7 (by decide) ?_
  refine lv_icmp_ge (tgt := 43) hx hb dX10_dot_8 (by decide) (fun c9 => False.elim (by revert c9; decide +kernel)) (fun _ => ?_)
  refine lv_iload_n hx hb dX10_dot_11 rfl (lv_at hl 1 rfl) ?_
  refine lv_aload_n hx hb dX10_dot_12 rfl (lv_at hl 2 rfl) ?_
  refine va_get (D := (dC, dI)) (ci := 10) (v := .ref (h 17)) (C := RX10) (T := TX10) (N := 28) hx hb hts hinX10 hown hK hP 0 rfl rfl 17 (by decide) (hts (.fieldLink RX10 41 "MixedWordsModel" "cols" "[I") (by decide +kernel)) (fun _ h9 => h9) rfl dX10_dot_13 ?_
  refine lv_iconst (v := nI 5) hx hb dX10_dot_16 (by decide) ?_
  refine lv_iload_n hx hb dX10_dot_17 rfl (lv_at hl 3 rfl) ?_
  refine lv_imul hx hb dX10_dot_18 ?_
  refine xt_i (y := nI 0) (by decide +kernel) ?_
  refine lv_iload hx hb dX10_dot_19 (lv_at hl 0 rfl) ?_
  refine lv_iadd hx hb dX10_dot_21 ?_
  refine xt_i (y := nI 4) (by decide +kernel) ?_
  refine xa_iald hx hb hK hP 8 0 rfl rfl (by omega) (by decide) dX10_dot_22 ?_
  refine xt_i (y := nI 0) (by decide +kernel) ?_
  refine lv_aload_n hx hb dX10_dot_23 rfl (lv_at hl 2 rfl) ?_
  refine va_get (D := (dC, dI)) (ci := 10) (v := .ref (h 17)) (C := RX10) (T := TX10) (N := 28) hx hb hts hinX10 hown hK hP 0 rfl rfl 17 (by decide) (hts (.fieldLink RX10 41 "MixedWordsModel" "cols" "[I") (by decide +kernel)) (fun _ h9 => h9) rfl dX10_dot_24 ?_
  refine lv_iconst (v := nI 5) hx hb dX10_dot_27 (by decide) ?_
  refine lv_iload_n hx hb dX10_dot_28 rfl (lv_at hl 4 rfl) ?_
  refine lv_imul hx hb dX10_dot_29 ?_
  refine xt_i (y := nI 5) (by decide +kernel) ?_
  refine lv_iload hx hb dX10_dot_30 (lv_at hl 0 rfl) ?_
  refine lv_iadd hx hb dX10_dot_32 ?_
  refine xt_i (y := nI 9) (by decide +kernel) ?_
  refine xa_iald hx hb hK hP 8 0 rfl rfl (by omega) (by decide) dX10_dot_33 ?_
  refine xt_i (y := nI 0) (by decide +kernel) ?_
  refine lv_imul hx hb dX10_dot_34 ?_
  refine xt_i (y := nI 0) (by decide +kernel) ?_
  refine lv_iadd hx hb dX10_dot_35 ?_
  refine xt_i (y := nI 0) (by decide +kernel) ?_
  refine lv_istore_n (lv' := [(3, .int (nI 0)), (4, .int (nI 4)), (0, .ref (h 0)), (1, .int (nI 0)), (2, .int (nI 1))]) hx hb dX10_dot_36 rfl hl (by decide) rfl (fun ls hl => ?_)
  refine lv_iinc (v := nI 5) (lv' := [(4, .int (nI 5)), (3, .int (nI 0)), (0, .ref (h 0)), (1, .int (nI 0)), (2, .int (nI 1))]) hx hb dX10_dot_37 hl (k := 1) rfl (by decide +kernel) (by decide) rfl (fun ls hl => ?_)
  refine lv_goto (tgt := 5) hx hb dX10_dot_40 (by decide) ?_
  refine lv_iload hx hb dX10_dot_5 (lv_at hl 0 rfl) ?_
  refine lv_iconst (v := nI 5) hx hb dX10_dot_7 (by decide) ?_
  refine lv_icmp_ge (tgt := 43) hx hb dX10_dot_8 (by decide) (fun _ => ?_) (fun c9 => False.elim (by revert c9; decide +kernel))
  refine lv_iload_n hx hb dX10_dot_43 rfl (lv_at hl 1 rfl) ?_
  exact xr_i (v := (nI 0)) hx hb hr hlocks hK hS dX10_dot_44 (gI, gL, qA_210, gQ) ⟨rfl, rfl⟩ hP hD
set_option maxHeartbeats 4000000 in
set_option maxRecDepth 100000 in
theorem a_X10_dot_220 (l : Launch) (dC : Nat → ClassId) (dI : Nat → Nat → Nat) (h : Nat → Nat) (cs : Nat → ClassId) (sz : Nat) (I : Nat → Int32) (L : Nat → Int64) (A : Nat → Nat → Int32) (Q : Nat → Nat → Int64) : Met l yX10_dot wsX10_dot ({ frames := 0, cells := 0, slots := 0, locals := 0 }) (va_Pc [.ref (h 0), .int (nI 1), .int (nI 0)] (xPre (dC, dI) (wD_177 h cs gI gL qA_210 gQ) (tysA cs) sz)) (va_Qi (fun (r : Int32) (u : RS) => (r = nI 0) ∧ u = (gI, gL, qA_210, gQ)) (xB (dC, dI) (tysA cs) (va_A (wD_177 h cs gI gL qA_210 gQ) sz) (fun u : RS => wD_177 h cs u.1 u.2.1 u.2.2.1 u.2.2.2)) (va_A (wD_177 h cs gI gL qA_210 gQ) sz)) 0 0 (va_A (wD_177 h cs gI gL qA_210 gQ) sz) := by
  refine Met.ofW (cc := cX10_dot) (maxL := 5) (ret := (some .int)) (by decide) rfl ?_
  intro p e s m args below meth c s₁ B hml hv
  obtain ⟨rfl, hsz, hP, hK, hD0, hN⟩ := hv
  have hx := B.exec
  have hb := B.bytes
  have hr := B.returns
  have hts := atoms_spec (ws := wsX10_dot) B.pre
  have hown : s.vm.findClass RX10 = some m.cls := findClass_of_methodNamed B.named
  have hlocks := B.notSynchronized
  subst hsz
  have hD := hD0.self (sz := s.heap.size)
  generalize hAe : va_A (wD_177 h cs gI gL qA_210 gQ) s.heap.size = A0 at hD ⊢
  have hA : ∀ q : Nat, s.heap.size ≤ q → A0 q := fun q h => by rw [← hAe]; exact Or.inr h
  have hl := lv_entry ([.ref (h 0), .int (nI 1), .int (nI 0)]) (n := 5) (Nat.le_of_ble_eq_true rfl)
  rw [lg_entry_eq]
  generalize (lg_sl ([.ref (h 0), .int (nI 1), .int (nI 0)]) ++ List.replicate (5 - (lg_sl ([.ref (h 0), .int (nI 1), .int (nI 0)])).length) Slot.unset).toArray = ls at hl ⊢
  have hl : lv_has ls 5 [(0, .ref (h 0)), (1, .int (nI 1)), (2, .int (nI 0))] := hl
  generalize hH : s.heap = H at hP ⊢
  have hS : va_S A0 s.heap H [] := by rw [← hH]; exact va_S.rf
  have hinX10 : ∀ w ∈ wsX100, w ∈ wsX10_dot := by decide +kernel
  refine lv_iconst (v := nI 0) hx hb dX10_dot_0 (by decide) ?_
  refine lv_istore_n (lv' := [(3, .int (nI 0)), (0, .ref (h 0)), (1, .int (nI 1)), (2, .int (nI 0))]) hx hb dX10_dot_1 rfl hl (by decide) rfl (fun ls hl => ?_)
  refine lv_iconst (v := nI 0) hx hb dX10_dot_2 (by decide) ?_
  refine lv_istore (lv' := [(4, .int (nI 0)), (3, .int (nI 0)), (0, .ref (h 0)), (1, .int (nI 1)), (2, .int (nI 0))]) hx hb dX10_dot_3 hl (by decide) rfl (fun ls hl => ?_)
  refine lv_iload hx hb dX10_dot_5 (lv_at hl 0 rfl) ?_
  refine lv_iconst (v := nI 5) hx hb dX10_dot_7 (by decide) ?_
  refine lv_icmp_ge (tgt := 43) hx hb dX10_dot_8 (by decide) (fun c9 => False.elim (by revert c9; decide +kernel)) (fun _ => ?_)
  refine lv_iload_n hx hb dX10_dot_11 rfl (lv_at hl 1 rfl) ?_
  refine lv_aload_n hx hb dX10_dot_12 rfl (lv_at hl 2 rfl) ?_
  refine va_get (D := (dC, dI)) (ci := 10) (v := .ref (h 17)) (C := RX10) (T := TX10) (N := 28) hx hb hts hinX10 hown hK hP 0 rfl rfl 17 (by decide) (hts (.fieldLink RX10 41 "MixedWordsModel" "cols" "[I") (by decide +kernel)) (fun _ h9 => h9) rfl dX10_dot_13 ?_
  refine lv_iconst (v := nI 5) hx hb dX10_dot_16 (by decide) ?_
  refine lv_iload_n hx hb dX10_dot_17 rfl (lv_at hl 3 rfl) ?_
  refine lv_imul hx hb dX10_dot_18 ?_
  refine xt_i (y := nI 5) (by decide +kernel) ?_
  refine lv_iload hx hb dX10_dot_19 (lv_at hl 0 rfl) ?_
  refine lv_iadd hx hb dX10_dot_21 ?_
  refine xt_i (y := nI 5) (by decide +kernel) ?_
  refine xa_iald hx hb hK hP 8 0 rfl rfl (by omega) (by decide) dX10_dot_22 ?_
  refine xt_i (y := nI 0) (by decide +kernel) ?_
  refine lv_aload_n hx hb dX10_dot_23 rfl (lv_at hl 2 rfl) ?_
  refine va_get (D := (dC, dI)) (ci := 10) (v := .ref (h 17)) (C := RX10) (T := TX10) (N := 28) hx hb hts hinX10 hown hK hP 0 rfl rfl 17 (by decide) (hts (.fieldLink RX10 41 "MixedWordsModel" "cols" "[I") (by decide +kernel)) (fun _ h9 => h9) rfl dX10_dot_24 ?_
  refine lv_iconst (v := nI 5) hx hb dX10_dot_27 (by decide) ?_
  refine lv_iload_n hx hb dX10_dot_28 rfl (lv_at hl 4 rfl) ?_
  refine lv_imul hx hb dX10_dot_29 ?_
  refine xt_i (y := nI 0) (by decide +kernel) ?_
  refine lv_iload hx hb dX10_dot_30 (lv_at hl 0 rfl) ?_
  refine lv_iadd hx hb dX10_dot_32 ?_
  refine xt_i (y := nI 0) (by decide +kernel) ?_
  refine xa_iald hx hb hK hP 8 0 rfl rfl (by omega) (by decide) dX10_dot_33 ?_
  refine xt_i (y := nI 0) (by decide +kernel) ?_
  refine lv_imul hx hb dX10_dot_34 ?_
  refine xt_i (y := nI 0) (by decide +kernel) ?_
  refine lv_iadd hx hb dX10_dot_35 ?_
  refine xt_i (y := nI 0) (by decide +kernel) ?_
  refine lv_istore_n (lv' := [(3, .int (nI 0)), (4, .int (nI 0)), (0, .ref (h 0)), (1, .int (nI 1)), (2, .int (nI 0))]) hx hb dX10_dot_36 rfl hl (by decide) rfl (fun ls hl => ?_)
  refine lv_iinc (v := nI 1) (lv' := [(4, .int (nI 1)), (3, .int (nI 0)), (0, .ref (h 0)), (1, .int (nI 1)), (2, .int (nI 0))]) hx hb dX10_dot_37 hl (k := 1) rfl (by decide +kernel) (by decide) rfl (fun ls hl => ?_)
  refine lv_goto (tgt := 5) hx hb dX10_dot_40 (by decide) ?_
  refine lv_iload hx hb dX10_dot_5 (lv_at hl 0 rfl) ?_
  refine lv_iconst (v := nI 5) hx hb dX10_dot_7 (by decide) ?_
  refine lv_icmp_ge (tgt := 43) hx hb dX10_dot_8 (by decide) (fun c9 => False.elim (by revert c9; decide +kernel)) (fun _ => ?_)
  refine lv_iload_n hx hb dX10_dot_11 rfl (lv_at hl 1 rfl) ?_
  refine lv_aload_n hx hb dX10_dot_12 rfl (lv_at hl 2 rfl) ?_
  refine va_get (D := (dC, dI)) (ci := 10) (v := .ref (h 17)) (C := RX10) (T := TX10) (N := 28) hx hb hts hinX10 hown hK hP 0 rfl rfl 17 (by decide) (hts (.fieldLink RX10 41 "MixedWordsModel" "cols" "[I") (by decide +kernel)) (fun _ h9 => h9) rfl dX10_dot_13 ?_
  refine lv_iconst (v := nI 5) hx hb dX10_dot_16 (by decide) ?_
  refine lv_iload_n hx hb dX10_dot_17 rfl (lv_at hl 3 rfl) ?_
  refine lv_imul hx hb dX10_dot_18 ?_
  refine xt_i (y := nI 5) (by decide +kernel) ?_
  refine lv_iload hx hb dX10_dot_19 (lv_at hl 0 rfl) ?_
  refine lv_iadd hx hb dX10_dot_21 ?_
  refine xt_i (y := nI 6) (by decide +kernel) ?_
  refine xa_iald hx hb hK hP 8 0 rfl rfl (by omega) (by decide) dX10_dot_22 ?_
  refine xt_i (y := nI 0) (by decide +kernel) ?_
  refine lv_aload_n hx hb dX10_dot_23 rfl (lv_at hl 2 rfl) ?_
  refine va_get (D := (dC, dI)) (ci := 10) (v := .ref (h 17)) (C := RX10) (T := TX10) (N := 28) hx hb hts hinX10 hown hK hP 0 rfl rfl 17 (by decide) (hts (.fieldLink RX10 41 "MixedWordsModel" "cols" "[I") (by decide +kernel)) (fun _ h9 => h9) rfl dX10_dot_24 ?_
  refine lv_iconst (v := nI 5) hx hb dX10_dot_27 (by decide) ?_
  refine lv_iload_n hx hb dX10_dot_28 rfl (lv_at hl 4 rfl) ?_
  refine lv_imul hx hb dX10_dot_29 ?_
  refine xt_i (y := nI 0) (by decide +kernel) ?_
  refine lv_iload hx hb dX10_dot_30 (lv_at hl 0 rfl) ?_
  refine lv_iadd hx hb dX10_dot_32 ?_
  refine xt_i (y := nI 1) (by decide +kernel) ?_
  refine xa_iald hx hb hK hP 8 0 rfl rfl (by omega) (by decide) dX10_dot_33 ?_
  refine xt_i (y := nI 0) (by decide +kernel) ?_
  refine lv_imul hx hb dX10_dot_34 ?_
  refine xt_i (y := nI 0) (by decide +kernel) ?_
  refine lv_iadd hx hb dX10_dot_35 ?_
  refine xt_i (y := nI 0) (by decide +kernel) ?_
  refine lv_istore_n (lv' := [(3, .int (nI 0)), (4, .int (nI 1)), (0, .ref (h 0)), (1, .int (nI 1)), (2, .int (nI 0))]) hx hb dX10_dot_36 rfl hl (by decide) rfl (fun ls hl => ?_)
  refine lv_iinc (v := nI 2) (lv' := [(4, .int (nI 2)), (3, .int (nI 0)), (0, .ref (h 0)), (1, .int (nI 1)), (2, .int (nI 0))]) hx hb dX10_dot_37 hl (k := 1) rfl (by decide +kernel) (by decide) rfl (fun ls hl => ?_)
  refine lv_goto (tgt := 5) hx hb dX10_dot_40 (by decide) ?_
  refine lv_iload hx hb dX10_dot_5 (lv_at hl 0 rfl) ?_
  refine lv_iconst (v := nI 5) hx hb dX10_dot_7 (by decide) ?_
  refine lv_icmp_ge (tgt := 43) hx hb dX10_dot_8 (by decide) (fun c9 => False.elim (by revert c9; decide +kernel)) (fun _ => ?_)
  refine lv_iload_n hx hb dX10_dot_11 rfl (lv_at hl 1 rfl) ?_
  refine lv_aload_n hx hb dX10_dot_12 rfl (lv_at hl 2 rfl) ?_
  refine va_get (D := (dC, dI)) (ci := 10) (v := .ref (h 17)) (C := RX10) (T := TX10) (N := 28) hx hb hts hinX10 hown hK hP 0 rfl rfl 17 (by decide) (hts (.fieldLink RX10 41 "MixedWordsModel" "cols" "[I") (by decide +kernel)) (fun _ h9 => h9) rfl dX10_dot_13 ?_
  refine lv_iconst (v := nI 5) hx hb dX10_dot_16 (by decide) ?_
  refine lv_iload_n hx hb dX10_dot_17 rfl (lv_at hl 3 rfl) ?_
  refine lv_imul hx hb dX10_dot_18 ?_
  refine xt_i (y := nI 5) (by decide +kernel) ?_
  refine lv_iload hx hb dX10_dot_19 (lv_at hl 0 rfl) ?_
  refine lv_iadd hx hb dX10_dot_21 ?_
  refine xt_i (y := nI 7) (by decide +kernel) ?_
  refine xa_iald hx hb hK hP 8 0 rfl rfl (by omega) (by decide) dX10_dot_22 ?_
  refine xt_i (y := nI 0) (by decide +kernel) ?_
  refine lv_aload_n hx hb dX10_dot_23 rfl (lv_at hl 2 rfl) ?_
  refine va_get (D := (dC, dI)) (ci := 10) (v := .ref (h 17)) (C := RX10) (T := TX10) (N := 28) hx hb hts hinX10 hown hK hP 0 rfl rfl 17 (by decide) (hts (.fieldLink RX10 41 "MixedWordsModel" "cols" "[I") (by decide +kernel)) (fun _ h9 => h9) rfl dX10_dot_24 ?_
  refine lv_iconst (v := nI 5) hx hb dX10_dot_27 (by decide) ?_
  refine lv_iload_n hx hb dX10_dot_28 rfl (lv_at hl 4 rfl) ?_
  refine lv_imul hx hb dX10_dot_29 ?_
  refine xt_i (y := nI 0) (by decide +kernel) ?_
  refine lv_iload hx hb dX10_dot_30 (lv_at hl 0 rfl) ?_
  refine lv_iadd hx hb dX10_dot_32 ?_
  refine xt_i (y := nI 2) (by decide +kernel) ?_
  refine xa_iald hx hb hK hP 8 0 rfl rfl (by omega) (by decide) dX10_dot_33 ?_
  refine xt_i (y := nI 0) (by decide +kernel) ?_
  refine lv_imul hx hb dX10_dot_34 ?_
  refine xt_i (y := nI 0) (by decide +kernel) ?_
  refine lv_iadd hx hb dX10_dot_35 ?_
  refine xt_i (y := nI 0) (by decide +kernel) ?_
  refine lv_istore_n (lv' := [(3, .int (nI 0)), (4, .int (nI 2)), (0, .ref (h 0)), (1, .int (nI 1)), (2, .int (nI 0))]) hx hb dX10_dot_36 rfl hl (by decide) rfl (fun ls hl => ?_)
  refine lv_iinc (v := nI 3) (lv' := [(4, .int (nI 3)), (3, .int (nI 0)), (0, .ref (h 0)), (1, .int (nI 1)), (2, .int (nI 0))]) hx hb dX10_dot_37 hl (k := 1) rfl (by decide +kernel) (by decide) rfl (fun ls hl => ?_)
  refine lv_goto (tgt := 5) hx hb dX10_dot_40 (by decide) ?_
  refine lv_iload hx hb dX10_dot_5 (lv_at hl 0 rfl) ?_
  refine lv_iconst (v := nI 5) hx hb dX10_dot_7 (by decide) ?_
  refine lv_icmp_ge (tgt := 43) hx hb dX10_dot_8 (by decide) (fun c9 => False.elim (by revert c9; decide +kernel)) (fun _ => ?_)
  refine lv_iload_n hx hb dX10_dot_11 rfl (lv_at hl 1 rfl) ?_
  refine lv_aload_n hx hb dX10_dot_12 rfl (lv_at hl 2 rfl) ?_
  refine va_get (D := (dC, dI)) (ci := 10) (v := .ref (h 17)) (C := RX10) (T := TX10) (N := 28) hx hb hts hinX10 hown hK hP 0 rfl rfl 17 (by decide) (hts (.fieldLink RX10 41 "MixedWordsModel" "cols" "[I") (by decide +kernel)) (fun _ h9 => h9) rfl dX10_dot_13 ?_
  refine lv_iconst (v := nI 5) hx hb dX10_dot_16 (by decide) ?_
  refine lv_iload_n hx hb dX10_dot_17 rfl (lv_at hl 3 rfl) ?_
  refine lv_imul hx hb dX10_dot_18 ?_
  refine xt_i (y := nI 5) (by decide +kernel) ?_
  refine lv_iload hx hb dX10_dot_19 (lv_at hl 0 rfl) ?_
  refine lv_iadd hx hb dX10_dot_21 ?_
  refine xt_i (y := nI 8) (by decide +kernel) ?_
  refine xa_iald hx hb hK hP 8 0 rfl rfl (by omega) (by decide) dX10_dot_22 ?_
  refine xt_i (y := nI 0) (by decide +kernel) ?_
  refine lv_aload_n hx hb dX10_dot_23 rfl (lv_at hl 2 rfl) ?_
  refine va_get (D := (dC, dI)) (ci := 10) (v := .ref (h 17)) (C := RX10) (T := TX10) (N := 28) hx hb hts hinX10 hown hK hP 0 rfl rfl 17 (by decide) (hts (.fieldLink RX10 41 "MixedWordsModel" "cols" "[I") (by decide +kernel)) (fun _ h9 => h9) rfl dX10_dot_24 ?_
  refine lv_iconst (v := nI 5) hx hb dX10_dot_27 (by decide) ?_
  refine lv_iload_n hx hb dX10_dot_28 rfl (lv_at hl 4 rfl) ?_
  refine lv_imul hx hb dX10_dot_29 ?_
  refine xt_i (y := nI 0) (by decide +kernel) ?_
  refine lv_iload hx hb dX10_dot_30 (lv_at hl 0 rfl) ?_
  refine lv_iadd hx hb dX10_dot_32 ?_
  refine xt_i (y := nI 3) (by decide +kernel) ?_
  refine xa_iald hx hb hK hP 8 0 rfl rfl (by omega) (by decide) dX10_dot_33 ?_
  refine xt_i (y := nI 0) (by decide +kernel) ?_
  refine lv_imul hx hb dX10_dot_34 ?_
  refine xt_i (y := nI 0) (by decide +kernel) ?_
  refine lv_iadd hx hb dX10_dot_35 ?_
  refine xt_i (y := nI 0) (by decide +kernel) ?_
  refine lv_istore_n (lv' := [(3, .int (nI 0)), (4, .int (nI 3)), (0, .ref (h 0)), (1, .int (nI 1)), (2, .int (nI 0))]) hx hb dX10_dot_36 rfl hl (by decide) rfl (fun ls hl => ?_)
  refine lv_iinc (v := nI 4) (lv' := [(4, .int (nI 4)), (3, .int (nI 0)), (0, .ref (h 0)), (1, .int (nI 1)), (2, .int (nI 0))]) hx hb dX10_dot_37 hl (k := 1) rfl (by decide +kernel) (by decide) rfl (fun ls hl => ?_)
  refine lv_goto (tgt := 5) hx hb dX10_dot_40 (by decide) ?_
  refine lv_iload hx hb dX10_dot_5 (lv_at hl 0 rfl) ?_
  refine lv_iconst (v := nI 5) hx hb dX10_dot_7 (by decide) ?_
  refine lv_icmp_ge (tgt := 43) hx hb dX10_dot_8 (by decide) (fun c9 => False.elim (by revert c9; decide +kernel)) (fun _ => ?_)
  refine lv_iload_n hx hb dX10_dot_11 rfl (lv_at hl 1 rfl) ?_
  refine lv_aload_n hx hb dX10_dot_12 rfl (lv_at hl 2 rfl) ?_
  refine va_get (D := (dC, dI)) (ci := 10) (v := .ref (h 17)) (C := RX10) (T := TX10) (N := 28) hx hb hts hinX10 hown hK hP 0 rfl rfl 17 (by decide) (hts (.fieldLink RX10 41 "MixedWordsModel" "cols" "[I") (by decide +kernel)) (fun _ h9 => h9) rfl dX10_dot_13 ?_
  refine lv_iconst (v := nI 5) hx hb dX10_dot_16 (by decide) ?_
  refine lv_iload_n hx hb dX10_dot_17 rfl (lv_at hl 3 rfl) ?_
  refine lv_imul hx hb dX10_dot_18 ?_
  refine xt_i (y := nI 5) (by decide +kernel) ?_
  refine lv_iload hx hb dX10_dot_19 (lv_at hl 0 rfl) ?_
  refine lv_iadd hx hb dX10_dot_21 ?_
  refine xt_i (y := nI 9) (by decide +kernel) ?_
  refine xa_iald hx hb hK hP 8 0 rfl rfl (by omega) (by decide) dX10_dot_22 ?_
  refine xt_i (y := nI 0) (by decide +kernel) ?_
  refine lv_aload_n hx hb dX10_dot_23 rfl (lv_at hl 2 rfl) ?_
  refine va_get (D := (dC, dI)) (ci := 10) (v := .ref (h 17)) (C := RX10) (T := TX10) (N := 28) hx hb hts hinX10 hown hK hP 0 rfl rfl 17 (by decide) (hts (.fieldLink RX10 41 "MixedWordsModel" "cols" "[I") (by decide +kernel)) (fun _ h9 => h9) rfl dX10_dot_24 ?_
  refine lv_iconst (v := nI 5) hx hb dX10_dot_27 (by decide) ?_
  refine lv_iload_n hx hb dX10_dot_28 rfl (lv_at hl 4 rfl) ?_
  refine lv_imul hx hb dX10_dot_29 ?_
  refine xt_i (y := nI 0) (by decide +kernel) ?_
  refine lv_iload hx hb dX10_dot_30 (lv_at hl 0 rfl) ?_
  refine lv_iadd hx hb dX10_dot_32 ?_
  refine xt_i (y := nI 4) (by decide +kernel) ?_
  refine xa_iald hx hb hK hP 8 0 rfl rfl (by omega) (by decide) dX10_dot_33 ?_
  refine xt_i (y := nI 0) (by decide +kernel) ?_
  refine lv_imul hx hb dX10_dot_34 ?_
  refine xt_i (y := nI 0) (by decide +kernel) ?_
  refine lv_iadd hx hb dX10_dot_35 ?_
  refine xt_i (y := nI 0) (by decide +kernel) ?_
  refine lv_istore_n (lv' := [(3, .int (nI 0)), (4, .int (nI 4)), (0, .ref (h 0)), (1, .int (nI 1)), (2, .int (nI 0))]) hx hb dX10_dot_36 rfl hl (by decide) rfl (fun ls hl => ?_)
  refine lv_iinc (v := nI 5) (lv' := [(4, .int (nI 5)), (3, .int (nI 0)), (0, .ref (h 0)), (1, .int (nI 1)), (2, .int (nI 0))]) hx hb dX10_dot_37 hl (k := 1) rfl (by decide +kernel) (by decide) rfl (fun ls hl => ?_)
  refine lv_goto (tgt := 5) hx hb dX10_dot_40 (by decide) ?_
  refine lv_iload hx hb dX10_dot_5 (lv_at hl 0 rfl) ?_
  refine lv_iconst (v := nI 5) hx hb dX10_dot_7 (by decide) ?_
  refine lv_icmp_ge (tgt := 43) hx hb dX10_dot_8 (by decide) (fun _ => ?_) (fun c9 => False.elim (by revert c9; decide +kernel))
  refine lv_iload_n hx hb dX10_dot_43 rfl (lv_at hl 1 rfl) ?_
  exact xr_i (v := (nI 0)) hx hb hr hlocks hK hS dX10_dot_44 (gI, gL, qA_210, gQ) ⟨rfl, rfl⟩ hP hD
set_option maxHeartbeats 4000000 in
set_option maxRecDepth 100000 in
theorem a_X10_determinant_221 (l : Launch) (dC : Nat → ClassId) (dI : Nat → Nat → Nat) (h : Nat → Nat) (cs : Nat → ClassId) (sz : Nat) (I : Nat → Int32) (L : Nat → Int64) (A : Nat → Nat → Int32) (Q : Nat → Nat → Int64) : Met l yX10_determinant wsX10_determinant ({ frames := 0, cells := 0, slots := 0, locals := 0 }) (va_Pc [.ref (h 0), .int (nI 2)] (xPre (dC, dI) (wD_177 h cs gI gL qA_210 gQ) (tysA cs) sz)) (va_Ql (fun (r : Int64) (u : RS) => (r = (0 : Int64)) ∧ u = (gI, gL, qA_210, gQ)) (xB (dC, dI) (tysA cs) (va_A (wD_177 h cs gI gL qA_210 gQ) sz) (fun u : RS => wD_177 h cs u.1 u.2.1 u.2.2.1 u.2.2.2)) (va_A (wD_177 h cs gI gL qA_210 gQ) sz)) 0 0 (va_A (wD_177 h cs gI gL qA_210 gQ) sz) := by
  refine Met.ofW (cc := cX10_determinant) (maxL := 11) (ret := (some .long)) (by decide) rfl ?_
  intro p e s m args below meth c s₁ B hml hv
  obtain ⟨rfl, hsz, hP, hK, hD0, hN⟩ := hv
  have hx := B.exec
  have hb := B.bytes
  have hr := B.returns
  have hts := atoms_spec (ws := wsX10_determinant) B.pre
  have hown : s.vm.findClass RX10 = some m.cls := findClass_of_methodNamed B.named
  have hlocks := B.notSynchronized
  subst hsz
  have hD := hD0.self (sz := s.heap.size)
  generalize hAe : va_A (wD_177 h cs gI gL qA_210 gQ) s.heap.size = A0 at hD ⊢
  have hA : ∀ q : Nat, s.heap.size ≤ q → A0 q := fun q h => by rw [← hAe]; exact Or.inr h
  have hl := lv_entry ([.ref (h 0), .int (nI 2)]) (n := 11) (Nat.le_of_ble_eq_true rfl)
  rw [lg_entry_eq]
  generalize (lg_sl ([.ref (h 0), .int (nI 2)]) ++ List.replicate (11 - (lg_sl ([.ref (h 0), .int (nI 2)])).length) Slot.unset).toArray = ls at hl ⊢
  have hl : lv_has ls 11 [(0, .ref (h 0)), (1, .int (nI 2))] := hl
  generalize hH : s.heap = H at hP ⊢
  have hS : va_S A0 s.heap H [] := by rw [← hH]; exact va_S.rf
  have hinX10 : ∀ w ∈ wsX100, w ∈ wsX10_determinant := by decide +kernel
  refine lv_lconst (v := 1) hx hb dX10_determinant_0 rfl ?_
  refine lv_lstore_n (lv' := [(2, .long (1 : Int64)), (0, .ref (h 0)), (1, .int (nI 2))]) hx hb dX10_determinant_1 rfl hl (by decide) rfl (fun ls hl => ?_)
  refine lv_lconst (v := 1) hx hb dX10_determinant_2 rfl ?_
  refine lv_lstore (lv' := [(4, .long (1 : Int64)), (2, .long (1 : Int64)), (0, .ref (h 0)), (1, .int (nI 2))]) hx hb dX10_determinant_3 hl (by decide) rfl (fun ls hl => ?_)
  refine lv_iconst (v := nI 0) hx hb dX10_determinant_5 (by decide) ?_
  refine lv_istore (lv' := [(6, .int (nI 0)), (4, .long (1 : Int64)), (2, .long (1 : Int64)), (0, .ref (h 0)), (1, .int (nI 2))]) hx hb dX10_determinant_6 hl (by decide) rfl (fun ls hl => ?_)
  refine lv_iload hx hb dX10_determinant_8 (lv_at hl 0 rfl) ?_
  refine lv_iload_n hx hb dX10_determinant_10 rfl (lv_at hl 4 rfl) ?_
  refine lv_icmp_ge (tgt := 260) hx hb dX10_determinant_11 (by decide) (fun c9 => False.elim (by revert c9; decide +kernel)) (fun _ => ?_)
  refine lv_iload hx hb dX10_determinant_14 (lv_at hl 0 rfl) ?_
  refine lv_istore (lv' := [(7, .int (nI 0)), (6, .int (nI 0)), (4, .long (1 : Int64)), (2, .long (1 : Int64)), (0, .ref (h 0)), (1, .int (nI 2))]) hx hb dX10_determinant_16 hl (by decide) rfl (fun ls hl => ?_)
  refine lv_iload hx hb dX10_determinant_18 (lv_at hl 0 rfl) ?_
  refine lv_iload_n hx hb dX10_determinant_20 rfl (lv_at hl 5 rfl) ?_
  refine lv_icmp_ge (tgt := 47) hx hb dX10_determinant_21 (by decide) (fun c9 => False.elim (by revert c9; decide +kernel)) (fun _ => ?_)
  refine lv_aload_n hx hb dX10_determinant_24 rfl (lv_at hl 4 rfl) ?_
  refine va_get (D := (dC, dI)) (ci := 10) (v := .ref (h 19)) (C := RX10) (T := TX10) (N := 28) hx hb hts hinX10 hown hK hP 0 rfl rfl 19 (by decide) (hts (.fieldLink RX10 47 "MixedWordsModel" "square" "[J") (by decide +kernel)) (fun _ h9 => h9) rfl dX10_determinant_25 ?_
  refine lv_iconst (v := nI 4) hx hb dX10_determinant_28 (by decide) ?_
  refine lv_iload hx hb dX10_determinant_29 (lv_at hl 0 rfl) ?_
  refine lv_imul hx hb dX10_determinant_31 ?_
  refine xt_i (y := nI 0) (by decide +kernel) ?_
  refine lv_iload hx hb dX10_determinant_32 (lv_at hl 1 rfl) ?_
  refine lv_iadd hx hb dX10_determinant_34 ?_
  refine xt_i (y := nI 0) (by decide +kernel) ?_
  refine xa_lald hx hb hK hP 10 1 rfl rfl (by omega) (by decide) dX10_determinant_35 ?_
  refine xt_l (y := (0 : Int64)) (by decide +kernel) ?_
  refine lv_lconst (v := 0) hx hb dX10_determinant_36 rfl ?_
  refine xl_ne (tgt := 47) hx hb dX10_determinant_37 dX10_determinant_38 (by decide) (fun c9 => False.elim (by revert c9; decide +kernel)) (fun _ => ?_)
  refine lv_iinc (v := nI 1) (lv' := [(7, .int (nI 1)), (6, .int (nI 0)), (4, .long (1 : Int64)), (2, .long (1 : Int64)), (0, .ref (h 0)), (1, .int (nI 2))]) hx hb dX10_determinant_41 hl (k := 0) rfl (by decide +kernel) (by decide) rfl (fun ls hl => ?_)
  refine lv_goto (tgt := 18) hx hb dX10_determinant_44 (by decide) ?_
  refine lv_iload hx hb dX10_determinant_18 (lv_at hl 0 rfl) ?_
  refine lv_iload_n hx hb dX10_determinant_20 rfl (lv_at hl 5 rfl) ?_
  refine lv_icmp_ge (tgt := 47) hx hb dX10_determinant_21 (by decide) (fun c9 => False.elim (by revert c9; decide +kernel)) (fun _ => ?_)
  refine lv_aload_n hx hb dX10_determinant_24 rfl (lv_at hl 4 rfl) ?_
  refine va_get (D := (dC, dI)) (ci := 10) (v := .ref (h 19)) (C := RX10) (T := TX10) (N := 28) hx hb hts hinX10 hown hK hP 0 rfl rfl 19 (by decide) (hts (.fieldLink RX10 47 "MixedWordsModel" "square" "[J") (by decide +kernel)) (fun _ h9 => h9) rfl dX10_determinant_25 ?_
  refine lv_iconst (v := nI 4) hx hb dX10_determinant_28 (by decide) ?_
  refine lv_iload hx hb dX10_determinant_29 (lv_at hl 0 rfl) ?_
  refine lv_imul hx hb dX10_determinant_31 ?_
  refine xt_i (y := nI 4) (by decide +kernel) ?_
  refine lv_iload hx hb dX10_determinant_32 (lv_at hl 1 rfl) ?_
  refine lv_iadd hx hb dX10_determinant_34 ?_
  refine xt_i (y := nI 4) (by decide +kernel) ?_
  refine xa_lald hx hb hK hP 10 1 rfl rfl (by omega) (by decide) dX10_determinant_35 ?_
  refine xt_l (y := (0 : Int64)) (by decide +kernel) ?_
  refine lv_lconst (v := 0) hx hb dX10_determinant_36 rfl ?_
  refine xl_ne (tgt := 47) hx hb dX10_determinant_37 dX10_determinant_38 (by decide) (fun c9 => False.elim (by revert c9; decide +kernel)) (fun _ => ?_)
  refine lv_iinc (v := nI 2) (lv' := [(7, .int (nI 2)), (6, .int (nI 0)), (4, .long (1 : Int64)), (2, .long (1 : Int64)), (0, .ref (h 0)), (1, .int (nI 2))]) hx hb dX10_determinant_41 hl (k := 0) rfl (by decide +kernel) (by decide) rfl (fun ls hl => ?_)
  refine lv_goto (tgt := 18) hx hb dX10_determinant_44 (by decide) ?_
  refine lv_iload hx hb dX10_determinant_18 (lv_at hl 0 rfl) ?_
  refine lv_iload_n hx hb dX10_determinant_20 rfl (lv_at hl 5 rfl) ?_
  refine lv_icmp_ge (tgt := 47) hx hb dX10_determinant_21 (by decide) (fun _ => ?_) (fun c9 => False.elim (by revert c9; decide +kernel))
  refine lv_iload hx hb dX10_determinant_47 (lv_at hl 0 rfl) ?_
  refine lv_iload_n hx hb dX10_determinant_49 rfl (lv_at hl 5 rfl) ?_
  refine lv_icmp_ne (tgt := 55) hx hb dX10_determinant_50 (by decide) (fun c9 => False.elim (by revert c9; decide +kernel)) (fun _ => ?_)
  refine lv_lconst (v := 0) hx hb dX10_determinant_53 rfl ?_
  exact xr_l (v := (0 : Int64)) hx hb hr hlocks hK hS dX10_determinant_54 (gI, gL, qA_210, gQ) ⟨rfl, rfl⟩ hP hD
set_option maxHeartbeats 4000000 in
set_option maxRecDepth 100000 in
theorem a_X10_worthOf_218 (l : Launch) (dC : Nat → ClassId) (dI : Nat → Nat → Nat) (h : Nat → Nat) (cs : Nat → ClassId) (sz : Nat) (I : Nat → Int32) (L : Nat → Int64) (A : Nat → Nat → Int32) (Q : Nat → Nat → Int64) : Met l yX10_worthOf wsX10_worthOf ({ frames := 1, cells := 0, slots := 0, locals := 30 }) (va_Pc [.ref (h 0), .int (nI 3)] (xPre (dC, dI) (wD_177 h cs gI gL qA_210 gQ) (tysA cs) sz)) (va_Ql (fun (r : Int64) (u : RS) => (r = (0 : Int64)) ∧ u = (gI, gL, qA_210, gQ)) (xB (dC, dI) (tysA cs) (va_A (wD_177 h cs gI gL qA_210 gQ) sz) (fun u : RS => wD_177 h cs u.1 u.2.1 u.2.2.1 u.2.2.2)) (va_A (wD_177 h cs gI gL qA_210 gQ) sz)) 0 0 (va_A (wD_177 h cs gI gL qA_210 gQ) sz) := by
  refine Met.ofW (cc := cX10_worthOf) (maxL := 6) (ret := (some .long)) (by decide) rfl ?_
  intro p e s m args below meth c s₁ B hml hv
  obtain ⟨rfl, hsz, hP, hK, hD0, hN⟩ := hv
  have hx := B.exec
  have hb := B.bytes
  have hr := B.returns
  have hts := atoms_spec (ws := wsX10_worthOf) B.pre
  have hown : s.vm.findClass RX10 = some m.cls := findClass_of_methodNamed B.named
  have hlocks := B.notSynchronized
  subst hsz
  have hD := hD0.self (sz := s.heap.size)
  generalize hAe : va_A (wD_177 h cs gI gL qA_210 gQ) s.heap.size = A0 at hD ⊢
  have hA : ∀ q : Nat, s.heap.size ≤ q → A0 q := fun q h => by rw [← hAe]; exact Or.inr h
  have hl := lv_entry ([.ref (h 0), .int (nI 3)]) (n := 6) (Nat.le_of_ble_eq_true rfl)
  rw [lg_entry_eq]
  generalize (lg_sl ([.ref (h 0), .int (nI 3)]) ++ List.replicate (6 - (lg_sl ([.ref (h 0), .int (nI 3)])).length) Slot.unset).toArray = ls at hl ⊢
  have hl : lv_has ls 6 [(0, .ref (h 0)), (1, .int (nI 3))] := hl
  generalize hH : s.heap = H at hP ⊢
  have hS : va_S A0 s.heap H [] := by rw [← hH]; exact va_S.rf
  have hinX10 : ∀ w ∈ wsX100, w ∈ wsX10_worthOf := by decide +kernel
  refine lv_iconst (v := nI 0) hx hb dX10_worthOf_0 (by decide) ?_
  refine lv_istore_n (lv' := [(2, .int (nI 0)), (0, .ref (h 0)), (1, .int (nI 3))]) hx hb dX10_worthOf_1 rfl hl (by decide) rfl (fun ls hl => ?_)
  refine lv_iconst (v := nI 0) hx hb dX10_worthOf_2 (by decide) ?_
  refine lv_istore_n (lv' := [(3, .int (nI 0)), (2, .int (nI 0)), (0, .ref (h 0)), (1, .int (nI 3))]) hx hb dX10_worthOf_3 rfl hl (by decide) rfl (fun ls hl => ?_)
  refine lv_iload_n hx hb dX10_worthOf_4 rfl (lv_at hl 0 rfl) ?_
  refine lv_aload_n hx hb dX10_worthOf_5 rfl (lv_at hl 2 rfl) ?_
  refine va_get (D := (dC, dI)) (ci := 10) (v := .int (gI 1)) (C := RX10) (T := TX10) (N := 28) hx hb hts hinX10 hown hK hP 0 rfl rfl 1 (by decide) (hts (.fieldLink RX10 13 "MixedWordsModel" "columns" "I") (by decide +kernel)) (fun _ h9 => h9) rfl dX10_worthOf_6 ?_
  refine xt_i (y := nI 2) (by decide +kernel) ?_
  refine lv_icmp_ge (tgt := 83) hx hb dX10_worthOf_9 (by decide) (fun c9 => False.elim (by revert c9; decide +kernel)) (fun _ => ?_)
  refine lv_iload_n hx hb dX10_worthOf_12 rfl (lv_at hl 3 rfl) ?_
  refine lv_iload_n hx hb dX10_worthOf_13 rfl (lv_at hl 0 rfl) ?_
  refine lv_ishr hx hb dX10_worthOf_14 ?_
  refine xt_i (y := nI 3) (by decide +kernel) ?_
  refine lv_iconst (v := nI 1) hx hb dX10_worthOf_15 (by decide) ?_
  refine lv_iand hx hb dX10_worthOf_16 ?_
  refine xt_i (y := nI 1) (by decide +kernel) ?_
  refine lv_iconst (v := nI 1) hx hb dX10_worthOf_17 (by decide) ?_
  refine lv_icmp_ne (tgt := 77) hx hb dX10_worthOf_18 (by decide) (fun c9 => False.elim (by revert c9; decide +kernel)) (fun _ => ?_)
  refine lv_iconst (v := nI 0) hx hb dX10_worthOf_21 (by decide) ?_
  refine lv_istore (lv' := [(4, .int (nI 0)), (3, .int (nI 0)), (2, .int (nI 0)), (0, .ref (h 0)), (1, .int (nI 3))]) hx hb dX10_worthOf_22 hl (by decide) rfl (fun ls hl => ?_)
  refine lv_iconst (v := nI 0) hx hb dX10_worthOf_24 (by decide) ?_
  refine lv_istore (lv' := [(5, .int (nI 0)), (4, .int (nI 0)), (3, .int (nI 0)), (2, .int (nI 0)), (0, .ref (h 0)), (1, .int (nI 3))]) hx hb dX10_worthOf_25 hl (by decide) rfl (fun ls hl => ?_)
  refine lv_iload hx hb dX10_worthOf_27 (lv_at hl 0 rfl) ?_
  refine lv_aload_n hx hb dX10_worthOf_29 rfl (lv_at hl 4 rfl) ?_
  refine va_get (D := (dC, dI)) (ci := 10) (v := .int (gI 1)) (C := RX10) (T := TX10) (N := 28) hx hb hts hinX10 hown hK hP 0 rfl rfl 1 (by decide) (hts (.fieldLink RX10 13 "MixedWordsModel" "columns" "I") (by decide +kernel)) (fun _ h9 => h9) rfl dX10_worthOf_30 ?_
  refine xt_i (y := nI 2) (by decide +kernel) ?_
  refine lv_icmp_ge (tgt := 74) hx hb dX10_worthOf_33 (by decide) (fun c9 => False.elim (by revert c9; decide +kernel)) (fun _ => ?_)
  refine lv_iload_n hx hb dX10_worthOf_36 rfl (lv_at hl 5 rfl) ?_
  refine lv_iload hx hb dX10_worthOf_37 (lv_at hl 0 rfl) ?_
  refine lv_ishr hx hb dX10_worthOf_39 ?_
  refine xt_i (y := nI 3) (by decide +kernel) ?_
  refine lv_iconst (v := nI 1) hx hb dX10_worthOf_40 (by decide) ?_
  refine lv_iand hx hb dX10_worthOf_41 ?_
  refine xt_i (y := nI 1) (by decide +kernel) ?_
  refine lv_iconst (v := nI 1) hx hb dX10_worthOf_42 (by decide) ?_
  refine lv_icmp_ne (tgt := 68) hx hb dX10_worthOf_43 (by decide) (fun c9 => False.elim (by revert c9; decide +kernel)) (fun _ => ?_)
  refine lv_aload_n hx hb dX10_worthOf_46 rfl (lv_at hl 4 rfl) ?_
  refine va_get (D := (dC, dI)) (ci := 10) (v := .ref (h 19)) (C := RX10) (T := TX10) (N := 28) hx hb hts hinX10 hown hK hP 0 rfl rfl 19 (by decide) (hts (.fieldLink RX10 47 "MixedWordsModel" "square" "[J") (by decide +kernel)) (fun _ h9 => h9) rfl dX10_worthOf_47 ?_
  refine lv_iconst (v := nI 4) hx hb dX10_worthOf_50 (by decide) ?_
  refine lv_iload_n hx hb dX10_worthOf_51 rfl (lv_at hl 3 rfl) ?_
  refine lv_imul hx hb dX10_worthOf_52 ?_
  refine xt_i (y := nI 0) (by decide +kernel) ?_
  refine lv_iload hx hb dX10_worthOf_53 (lv_at hl 1 rfl) ?_
  refine lv_iadd hx hb dX10_worthOf_55 ?_
  refine xt_i (y := nI 0) (by decide +kernel) ?_
  refine lv_aload_n hx hb dX10_worthOf_56 rfl (lv_at hl 4 rfl) ?_
  refine lv_iload_n hx hb dX10_worthOf_57 rfl (lv_at hl 2 rfl) ?_
  refine lv_iload hx hb dX10_worthOf_58 (lv_at hl 0 rfl) ?_
  refine xj_i (wc := (wD_177 h cs gI gL qA_210 gQ)) (wr := ([] : va_W)) hP hD hS hA [0, 1, 2, 3, 4, 5, 6, 7, 8, 9, 10, 11, 12, 13, 14, 15, 16] [] rfl rfl (by decide) (by decide) (va_runV (As := [.int (nI 0), .int (nI 0)]) (rest := [.int (nI 0), .ref (h 19)]) ⟨hx, hb, hml, hown, hts⟩ (a_X10_dot_212 l dC dI h cs H.size gI gL qA_210 gQ ) (cwV 2 hts gX10_worthOf_X10_dot rfl rfl rfl (by decide +kernel) ⟨Nat.le_of_ble_eq_true rfl, Nat.le_of_ble_eq_true rfl⟩) (xpV (wc := (wD_177 h cs gI gL qA_210 gQ)) hP hD hK hN [0, 1, 2, 3, 4, 5, 6, 7, 8, 9, 10, 11, 12, 13, 14, 15, 16] rfl (by decide) 0 (ci := 10) rfl rfl _) rfl rfl hl.1 rfl (lv_room (Nat.le_of_ble_eq_true rfl)) dX10_worthOf_60 ⟨Nat.zero_le _, Nat.zero_le _⟩) (fun r_2 u_1 H locs hw hP hD hS => ?_)
  obtain ⟨hf_3, rfl⟩ := hw
  have hP : va_P (dC, dI) vwCl (wD_177 h cs gI gL qA_210 gQ) H := hP
  have hD : va_D A0 (wD_177 h cs gI gL qA_210 gQ) := hD
  obtain rfl := hf_3
  refine lv_i2l (v := (0 : Int64)) hx hb dX10_worthOf_63 (by decide +kernel) ?_
  refine xa_lastS hx hb hK hP hD hS 10 1 rfl rfl (by omega) (by decide) (by decide +kernel) dX10_worthOf_64 (fun H locs hP hD hS => ?_)
  refine lv_iinc (v := nI 1) (lv' := [(4, .int (nI 1)), (5, .int (nI 0)), (3, .int (nI 0)), (2, .int (nI 0)), (0, .ref (h 0)), (1, .int (nI 3))]) hx hb dX10_worthOf_65 hl (k := 1) rfl (by decide +kernel) (by decide) rfl (fun ls hl => ?_)
  refine lv_iinc (v := nI 1) (lv' := [(5, .int (nI 1)), (4, .int (nI 1)), (3, .int (nI 0)), (2, .int (nI 0)), (0, .ref (h 0)), (1, .int (nI 3))]) hx hb dX10_worthOf_68 hl (k := 1) rfl (by decide +kernel) (by decide) rfl (fun ls hl => ?_)
  refine lv_goto (tgt := 27) hx hb dX10_worthOf_71 (by decide) ?_
  refine lv_iload hx hb dX10_worthOf_27 (lv_at hl 0 rfl) ?_
  refine lv_aload_n hx hb dX10_worthOf_29 rfl (lv_at hl 4 rfl) ?_
  refine va_get (D := (dC, dI)) (ci := 10) (v := .int (gI 1)) (C := RX10) (T := TX10) (N := 28) hx hb hts hinX10 hown hK hP 0 rfl rfl 1 (by decide) (hts (.fieldLink RX10 13 "MixedWordsModel" "columns" "I") (by decide +kernel)) (fun _ h9 => h9) rfl dX10_worthOf_30 ?_
  refine xt_i (y := nI 2) (by decide +kernel) ?_
  refine lv_icmp_ge (tgt := 74) hx hb dX10_worthOf_33 (by decide) (fun c9 => False.elim (by revert c9; decide +kernel)) (fun _ => ?_)
  refine lv_iload_n hx hb dX10_worthOf_36 rfl (lv_at hl 5 rfl) ?_
  refine lv_iload hx hb dX10_worthOf_37 (lv_at hl 0 rfl) ?_
  refine lv_ishr hx hb dX10_worthOf_39 ?_
  refine xt_i (y := nI 1) (by decide +kernel) ?_
  refine lv_iconst (v := nI 1) hx hb dX10_worthOf_40 (by decide) ?_
  refine lv_iand hx hb dX10_worthOf_41 ?_
  refine xt_i (y := nI 1) (by decide +kernel) ?_
  refine lv_iconst (v := nI 1) hx hb dX10_worthOf_42 (by decide) ?_
  refine lv_icmp_ne (tgt := 68) hx hb dX10_worthOf_43 (by decide) (fun c9 => False.elim (by revert c9; decide +kernel)) (fun _ => ?_)
  refine lv_aload_n hx hb dX10_worthOf_46 rfl (lv_at hl 4 rfl) ?_
  refine va_get (D := (dC, dI)) (ci := 10) (v := .ref (h 19)) (C := RX10) (T := TX10) (N := 28) hx hb hts hinX10 hown hK hP 0 rfl rfl 19 (by decide) (hts (.fieldLink RX10 47 "MixedWordsModel" "square" "[J") (by decide +kernel)) (fun _ h9 => h9) rfl dX10_worthOf_47 ?_
  refine lv_iconst (v := nI 4) hx hb dX10_worthOf_50 (by decide) ?_
  refine lv_iload_n hx hb dX10_worthOf_51 rfl (lv_at hl 3 rfl) ?_
  refine lv_imul hx hb dX10_worthOf_52 ?_
  refine xt_i (y := nI 0) (by decide +kernel) ?_
  refine lv_iload hx hb dX10_worthOf_53 (lv_at hl 1 rfl) ?_
  refine lv_iadd hx hb dX10_worthOf_55 ?_
  refine xt_i (y := nI 1) (by decide +kernel) ?_
  refine lv_aload_n hx hb dX10_worthOf_56 rfl (lv_at hl 4 rfl) ?_
  refine lv_iload_n hx hb dX10_worthOf_57 rfl (lv_at hl 2 rfl) ?_
  refine lv_iload hx hb dX10_worthOf_58 (lv_at hl 0 rfl) ?_
  refine xj_i (wc := (wD_177 h cs gI gL qA_210 gQ)) (wr := ([] : va_W)) hP hD hS hA [0, 1, 2, 3, 4, 5, 6, 7, 8, 9, 10, 11, 12, 13, 14, 15, 16] [] rfl rfl (by decide) (by decide) (va_runV (As := [.int (nI 0), .int (nI 1)]) (rest := [.int (nI 1), .ref (h 19)]) ⟨hx, hb, hml, hown, hts⟩ (a_X10_dot_219 l dC dI h cs H.size gI gL qA_210 gQ ) (cwV 2 hts gX10_worthOf_X10_dot rfl rfl rfl (by decide +kernel) ⟨Nat.le_of_ble_eq_true rfl, Nat.le_of_ble_eq_true rfl⟩) (xpV (wc := (wD_177 h cs gI gL qA_210 gQ)) hP hD hK hN [0, 1, 2, 3, 4, 5, 6, 7, 8, 9, 10, 11, 12, 13, 14, 15, 16] rfl (by decide) 0 (ci := 10) rfl rfl _) rfl rfl hl.1 rfl (lv_room (Nat.le_of_ble_eq_true rfl)) dX10_worthOf_60 ⟨Nat.zero_le _, Nat.zero_le _⟩) (fun r_5 u_4 H locs hw hP hD hS => ?_)
  obtain ⟨hf_6, rfl⟩ := hw
  have hP : va_P (dC, dI) vwCl (wD_177 h cs gI gL qA_210 gQ) H := hP
  have hD : va_D A0 (wD_177 h cs gI gL qA_210 gQ) := hD
  obtain rfl := hf_6
  refine lv_i2l (v := (0 : Int64)) hx hb dX10_worthOf_63 (by decide +kernel) ?_
  refine xa_lastS hx hb hK hP hD hS 10 1 rfl rfl (by omega) (by decide) (by decide +kernel) dX10_worthOf_64 (fun H locs hP hD hS => ?_)
  refine lv_iinc (v := nI 2) (lv' := [(4, .int (nI 2)), (5, .int (nI 1)), (3, .int (nI 0)), (2, .int (nI 0)), (0, .ref (h 0)), (1, .int (nI 3))]) hx hb dX10_worthOf_65 hl (k := 1) rfl (by decide +kernel) (by decide) rfl (fun ls hl => ?_)
  refine lv_iinc (v := nI 2) (lv' := [(5, .int (nI 2)), (4, .int (nI 2)), (3, .int (nI 0)), (2, .int (nI 0)), (0, .ref (h 0)), (1, .int (nI 3))]) hx hb dX10_worthOf_68 hl (k := 1) rfl (by decide +kernel) (by decide) rfl (fun ls hl => ?_)
  refine lv_goto (tgt := 27) hx hb dX10_worthOf_71 (by decide) ?_
  refine lv_iload hx hb dX10_worthOf_27 (lv_at hl 0 rfl) ?_
  refine lv_aload_n hx hb dX10_worthOf_29 rfl (lv_at hl 4 rfl) ?_
  refine va_get (D := (dC, dI)) (ci := 10) (v := .int (gI 1)) (C := RX10) (T := TX10) (N := 28) hx hb hts hinX10 hown hK hP 0 rfl rfl 1 (by decide) (hts (.fieldLink RX10 13 "MixedWordsModel" "columns" "I") (by decide +kernel)) (fun _ h9 => h9) rfl dX10_worthOf_30 ?_
  refine xt_i (y := nI 2) (by decide +kernel) ?_
  refine lv_icmp_ge (tgt := 74) hx hb dX10_worthOf_33 (by decide) (fun _ => ?_) (fun c9 => False.elim (by revert c9; decide +kernel))
  refine lv_iinc (v := nI 1) (lv' := [(2, .int (nI 1)), (5, .int (nI 2)), (4, .int (nI 2)), (3, .int (nI 0)), (0, .ref (h 0)), (1, .int (nI 3))]) hx hb dX10_worthOf_74 hl (k := 3) rfl (by decide +kernel) (by decide) rfl (fun ls hl => ?_)
  refine lv_iinc (v := nI 1) (lv' := [(3, .int (nI 1)), (2, .int (nI 1)), (5, .int (nI 2)), (4, .int (nI 2)), (0, .ref (h 0)), (1, .int (nI 3))]) hx hb dX10_worthOf_77 hl (k := 3) rfl (by decide +kernel) (by decide) rfl (fun ls hl => ?_)
  refine lv_goto (tgt := 4) hx hb dX10_worthOf_80 (by decide) ?_
  refine lv_iload_n hx hb dX10_worthOf_4 rfl (lv_at hl 0 rfl) ?_
  refine lv_aload_n hx hb dX10_worthOf_5 rfl (lv_at hl 4 rfl) ?_
  refine va_get (D := (dC, dI)) (ci := 10) (v := .int (gI 1)) (C := RX10) (T := TX10) (N := 28) hx hb hts hinX10 hown hK hP 0 rfl rfl 1 (by decide) (hts (.fieldLink RX10 13 "MixedWordsModel" "columns" "I") (by decide +kernel)) (fun _ h9 => h9) rfl dX10_worthOf_6 ?_
  refine xt_i (y := nI 2) (by decide +kernel) ?_
  refine lv_icmp_ge (tgt := 83) hx hb dX10_worthOf_9 (by decide) (fun c9 => False.elim (by revert c9; decide +kernel)) (fun _ => ?_)
  refine lv_iload_n hx hb dX10_worthOf_12 rfl (lv_at hl 5 rfl) ?_
  refine lv_iload_n hx hb dX10_worthOf_13 rfl (lv_at hl 0 rfl) ?_
  refine lv_ishr hx hb dX10_worthOf_14 ?_
  refine xt_i (y := nI 1) (by decide +kernel) ?_
  refine lv_iconst (v := nI 1) hx hb dX10_worthOf_15 (by decide) ?_
  refine lv_iand hx hb dX10_worthOf_16 ?_
  refine xt_i (y := nI 1) (by decide +kernel) ?_
  refine lv_iconst (v := nI 1) hx hb dX10_worthOf_17 (by decide) ?_
  refine lv_icmp_ne (tgt := 77) hx hb dX10_worthOf_18 (by decide) (fun c9 => False.elim (by revert c9; decide +kernel)) (fun _ => ?_)
  refine lv_iconst (v := nI 0) hx hb dX10_worthOf_21 (by decide) ?_
  refine lv_istore (lv' := [(4, .int (nI 0)), (3, .int (nI 1)), (2, .int (nI 1)), (5, .int (nI 2)), (0, .ref (h 0)), (1, .int (nI 3))]) hx hb dX10_worthOf_22 hl (by decide) rfl (fun ls hl => ?_)
  refine lv_iconst (v := nI 0) hx hb dX10_worthOf_24 (by decide) ?_
  refine lv_istore (lv' := [(5, .int (nI 0)), (4, .int (nI 0)), (3, .int (nI 1)), (2, .int (nI 1)), (0, .ref (h 0)), (1, .int (nI 3))]) hx hb dX10_worthOf_25 hl (by decide) rfl (fun ls hl => ?_)
  refine lv_iload hx hb dX10_worthOf_27 (lv_at hl 0 rfl) ?_
  refine lv_aload_n hx hb dX10_worthOf_29 rfl (lv_at hl 4 rfl) ?_
  refine va_get (D := (dC, dI)) (ci := 10) (v := .int (gI 1)) (C := RX10) (T := TX10) (N := 28) hx hb hts hinX10 hown hK hP 0 rfl rfl 1 (by decide) (hts (.fieldLink RX10 13 "MixedWordsModel" "columns" "I") (by decide +kernel)) (fun _ h9 => h9) rfl dX10_worthOf_30 ?_
  refine xt_i (y := nI 2) (by decide +kernel) ?_
  refine lv_icmp_ge (tgt := 74) hx hb dX10_worthOf_33 (by decide) (fun c9 => False.elim (by revert c9; decide +kernel)) (fun _ => ?_)
  refine lv_iload_n hx hb dX10_worthOf_36 rfl (lv_at hl 5 rfl) ?_
  refine lv_iload hx hb dX10_worthOf_37 (lv_at hl 0 rfl) ?_
  refine lv_ishr hx hb dX10_worthOf_39 ?_
  refine xt_i (y := nI 3) (by decide +kernel) ?_
  refine lv_iconst (v := nI 1) hx hb dX10_worthOf_40 (by decide) ?_
  refine lv_iand hx hb dX10_worthOf_41 ?_
  refine xt_i (y := nI 1) (by decide +kernel) ?_
  refine lv_iconst (v := nI 1) hx hb dX10_worthOf_42 (by decide) ?_
  refine lv_icmp_ne (tgt := 68) hx hb dX10_worthOf_43 (by decide) (fun c9 => False.elim (by revert c9; decide +kernel)) (fun _ => ?_)
  refine lv_aload_n hx hb dX10_worthOf_46 rfl (lv_at hl 4 rfl) ?_
  refine va_get (D := (dC, dI)) (ci := 10) (v := .ref (h 19)) (C := RX10) (T := TX10) (N := 28) hx hb hts hinX10 hown hK hP 0 rfl rfl 19 (by decide) (hts (.fieldLink RX10 47 "MixedWordsModel" "square" "[J") (by decide +kernel)) (fun _ h9 => h9) rfl dX10_worthOf_47 ?_
  refine lv_iconst (v := nI 4) hx hb dX10_worthOf_50 (by decide) ?_
  refine lv_iload_n hx hb dX10_worthOf_51 rfl (lv_at hl 3 rfl) ?_
  refine lv_imul hx hb dX10_worthOf_52 ?_
  refine xt_i (y := nI 4) (by decide +kernel) ?_
  refine lv_iload hx hb dX10_worthOf_53 (lv_at hl 1 rfl) ?_
  refine lv_iadd hx hb dX10_worthOf_55 ?_
  refine xt_i (y := nI 4) (by decide +kernel) ?_
  refine lv_aload_n hx hb dX10_worthOf_56 rfl (lv_at hl 4 rfl) ?_
  refine lv_iload_n hx hb dX10_worthOf_57 rfl (lv_at hl 2 rfl) ?_
  refine lv_iload hx hb dX10_worthOf_58 (lv_at hl 0 rfl) ?_
  refine xj_i (wc := (wD_177 h cs gI gL qA_210 gQ)) (wr := ([] : va_W)) hP hD hS hA [0, 1, 2, 3, 4, 5, 6, 7, 8, 9, 10, 11, 12, 13, 14, 15, 16] [] rfl rfl (by decide) (by decide) (va_runV (As := [.int (nI 1), .int (nI 0)]) (rest := [.int (nI 4), .ref (h 19)]) ⟨hx, hb, hml, hown, hts⟩ (a_X10_dot_220 l dC dI h cs H.size gI gL qA_210 gQ ) (cwV 2 hts gX10_worthOf_X10_dot rfl rfl rfl (by decide +kernel) ⟨Nat.le_of_ble_eq_true rfl, Nat.le_of_ble_eq_true rfl⟩) (xpV (wc := (wD_177 h cs gI gL qA_210 gQ)) hP hD hK hN [0, 1, 2, 3, 4, 5, 6, 7, 8, 9, 10, 11, 12, 13, 14, 15, 16] rfl (by decide) 0 (ci := 10) rfl rfl _) rfl rfl hl.1 rfl (lv_room (Nat.le_of_ble_eq_true rfl)) dX10_worthOf_60 ⟨Nat.zero_le _, Nat.zero_le _⟩) (fun r_8 u_7 H locs hw hP hD hS => ?_)
  obtain ⟨hf_9, rfl⟩ := hw
  have hP : va_P (dC, dI) vwCl (wD_177 h cs gI gL qA_210 gQ) H := hP
  have hD : va_D A0 (wD_177 h cs gI gL qA_210 gQ) := hD
  obtain rfl := hf_9
  refine lv_i2l (v := (0 : Int64)) hx hb dX10_worthOf_63 (by decide +kernel) ?_
  refine xa_lastS hx hb hK hP hD hS 10 1 rfl rfl (by omega) (by decide) (by decide +kernel) dX10_worthOf_64 (fun H locs hP hD hS => ?_)
  refine lv_iinc (v := nI 1) (lv' := [(4, .int (nI 1)), (5, .int (nI 0)), (3, .int (nI 1)), (2, .int (nI 1)), (0, .ref (h 0)), (1, .int (nI 3))]) hx hb dX10_worthOf_65 hl (k := 1) rfl (by decide +kernel) (by decide) rfl (fun ls hl => ?_)
  refine lv_iinc (v := nI 1) (lv' := [(5, .int (nI 1)), (4, .int (nI 1)), (3, .int (nI 1)), (2, .int (nI 1)), (0, .ref (h 0)), (1, .int (nI 3))]) hx hb dX10_worthOf_68 hl (k := 1) rfl (by decide +kernel) (by decide) rfl (fun ls hl => ?_)
  refine lv_goto (tgt := 27) hx hb dX10_worthOf_71 (by decide) ?_
  refine lv_iload hx hb dX10_worthOf_27 (lv_at hl 0 rfl) ?_
  refine lv_aload_n hx hb dX10_worthOf_29 rfl (lv_at hl 4 rfl) ?_
  refine va_get (D := (dC, dI)) (ci := 10) (v := .int (gI 1)) (C := RX10) (T := TX10) (N := 28) hx hb hts hinX10 hown hK hP 0 rfl rfl 1 (by decide) (hts (.fieldLink RX10 13 "MixedWordsModel" "columns" "I") (by decide +kernel)) (fun _ h9 => h9) rfl dX10_worthOf_30 ?_
  refine xt_i (y := nI 2) (by decide +kernel) ?_
  refine lv_icmp_ge (tgt := 74) hx hb dX10_worthOf_33 (by decide) (fun c9 => False.elim (by revert c9; decide +kernel)) (fun _ => ?_)
  refine lv_iload_n hx hb dX10_worthOf_36 rfl (lv_at hl 5 rfl) ?_
  refine lv_iload hx hb dX10_worthOf_37 (lv_at hl 0 rfl) ?_
  refine lv_ishr hx hb dX10_worthOf_39 ?_
  refine xt_i (y := nI 1) (by decide +kernel) ?_
  refine lv_iconst (v := nI 1) hx hb dX10_worthOf_40 (by decide) ?_
  refine lv_iand hx hb dX10_worthOf_41 ?_
  refine xt_i (y := nI 1) (by decide +kernel) ?_
  refine lv_iconst (v := nI 1) hx hb dX10_worthOf_42 (by decide) ?_
  refine lv_icmp_ne (tgt := 68) hx hb dX10_worthOf_43 (by decide) (fun c9 => False.elim (by revert c9; decide +kernel)) (fun _ => ?_)
  refine lv_aload_n hx hb dX10_worthOf_46 rfl (lv_at hl 4 rfl) ?_
  refine va_get (D := (dC, dI)) (ci := 10) (v := .ref (h 19)) (C := RX10) (T := TX10) (N := 28) hx hb hts hinX10 hown hK hP 0 rfl rfl 19 (by decide) (hts (.fieldLink RX10 47 "MixedWordsModel" "square" "[J") (by decide +kernel)) (fun _ h9 => h9) rfl dX10_worthOf_47 ?_
  refine lv_iconst (v := nI 4) hx hb dX10_worthOf_50 (by decide) ?_
  refine lv_iload_n hx hb dX10_worthOf_51 rfl (lv_at hl 3 rfl) ?_
  refine lv_imul hx hb dX10_worthOf_52 ?_
  refine xt_i (y := nI 4) (by decide +kernel) ?_
  refine lv_iload hx hb dX10_worthOf_53 (lv_at hl 1 rfl) ?_
  refine lv_iadd hx hb dX10_worthOf_55 ?_
  refine xt_i (y := nI 5) (by decide +kernel) ?_
  refine lv_aload_n hx hb dX10_worthOf_56 rfl (lv_at hl 4 rfl) ?_
  refine lv_iload_n hx hb dX10_worthOf_57 rfl (lv_at hl 2 rfl) ?_
  refine lv_iload hx hb dX10_worthOf_58 (lv_at hl 0 rfl) ?_
  refine xj_i (wc := (wD_177 h cs gI gL qA_210 gQ)) (wr := ([] : va_W)) hP hD hS hA [0, 1, 2, 3, 4, 5, 6, 7, 8, 9, 10, 11, 12, 13, 14, 15, 16] [] rfl rfl (by decide) (by decide) (va_runV (As := [.int (nI 1), .int (nI 1)]) (rest := [.int (nI 5), .ref (h 19)]) ⟨hx, hb, hml, hown, hts⟩ (a_X10_dot_216 l dC dI h cs H.size gI gL qA_210 gQ ) (cwV 2 hts gX10_worthOf_X10_dot rfl rfl rfl (by decide +kernel) ⟨Nat.le_of_ble_eq_true rfl, Nat.le_of_ble_eq_true rfl⟩) (xpV (wc := (wD_177 h cs gI gL qA_210 gQ)) hP hD hK hN [0, 1, 2, 3, 4, 5, 6, 7, 8, 9, 10, 11, 12, 13, 14, 15, 16] rfl (by decide) 0 (ci := 10) rfl rfl _) rfl rfl hl.1 rfl (lv_room (Nat.le_of_ble_eq_true rfl)) dX10_worthOf_60 ⟨Nat.zero_le _, Nat.zero_le _⟩) (fun r_11 u_10 H locs hw hP hD hS => ?_)
  obtain ⟨hf_12, rfl⟩ := hw
  have hP : va_P (dC, dI) vwCl (wD_177 h cs gI gL qA_210 gQ) H := hP
  have hD : va_D A0 (wD_177 h cs gI gL qA_210 gQ) := hD
  obtain rfl := hf_12
  refine lv_i2l (v := (0 : Int64)) hx hb dX10_worthOf_63 (by decide +kernel) ?_
  refine xa_lastS hx hb hK hP hD hS 10 1 rfl rfl (by omega) (by decide) (by decide +kernel) dX10_worthOf_64 (fun H locs hP hD hS => ?_)
  refine lv_iinc (v := nI 2) (lv' := [(4, .int (nI 2)), (5, .int (nI 1)), (3, .int (nI 1)), (2, .int (nI 1)), (0, .ref (h 0)), (1, .int (nI 3))]) hx hb dX10_worthOf_65 hl (k := 1) rfl (by decide +kernel) (by decide) rfl (fun ls hl => ?_)
  refine lv_iinc (v := nI 2) (lv' := [(5, .int (nI 2)), (4, .int (nI 2)), (3, .int (nI 1)), (2, .int (nI 1)), (0, .ref (h 0)), (1, .int (nI 3))]) hx hb dX10_worthOf_68 hl (k := 1) rfl (by decide +kernel) (by decide) rfl (fun ls hl => ?_)
  refine lv_goto (tgt := 27) hx hb dX10_worthOf_71 (by decide) ?_
  refine lv_iload hx hb dX10_worthOf_27 (lv_at hl 0 rfl) ?_
  refine lv_aload_n hx hb dX10_worthOf_29 rfl (lv_at hl 4 rfl) ?_
  refine va_get (D := (dC, dI)) (ci := 10) (v := .int (gI 1)) (C := RX10) (T := TX10) (N := 28) hx hb hts hinX10 hown hK hP 0 rfl rfl 1 (by decide) (hts (.fieldLink RX10 13 "MixedWordsModel" "columns" "I") (by decide +kernel)) (fun _ h9 => h9) rfl dX10_worthOf_30 ?_
  refine xt_i (y := nI 2) (by decide +kernel) ?_
  refine lv_icmp_ge (tgt := 74) hx hb dX10_worthOf_33 (by decide) (fun _ => ?_) (fun c9 => False.elim (by revert c9; decide +kernel))
  refine lv_iinc (v := nI 2) (lv' := [(2, .int (nI 2)), (5, .int (nI 2)), (4, .int (nI 2)), (3, .int (nI 1)), (0, .ref (h 0)), (1, .int (nI 3))]) hx hb dX10_worthOf_74 hl (k := 3) rfl (by decide +kernel) (by decide) rfl (fun ls hl => ?_)
  refine lv_iinc (v := nI 2) (lv' := [(3, .int (nI 2)), (2, .int (nI 2)), (5, .int (nI 2)), (4, .int (nI 2)), (0, .ref (h 0)), (1, .int (nI 3))]) hx hb dX10_worthOf_77 hl (k := 3) rfl (by decide +kernel) (by decide) rfl (fun ls hl => ?_)
  refine lv_goto (tgt := 4) hx hb dX10_worthOf_80 (by decide) ?_
  refine lv_iload_n hx hb dX10_worthOf_4 rfl (lv_at hl 0 rfl) ?_
  refine lv_aload_n hx hb dX10_worthOf_5 rfl (lv_at hl 4 rfl) ?_
  refine va_get (D := (dC, dI)) (ci := 10) (v := .int (gI 1)) (C := RX10) (T := TX10) (N := 28) hx hb hts hinX10 hown hK hP 0 rfl rfl 1 (by decide) (hts (.fieldLink RX10 13 "MixedWordsModel" "columns" "I") (by decide +kernel)) (fun _ h9 => h9) rfl dX10_worthOf_6 ?_
  refine xt_i (y := nI 2) (by decide +kernel) ?_
  refine lv_icmp_ge (tgt := 83) hx hb dX10_worthOf_9 (by decide) (fun _ => ?_) (fun c9 => False.elim (by revert c9; decide +kernel))
  refine lv_aload_n hx hb dX10_worthOf_83 rfl (lv_at hl 4 rfl) ?_
  refine lv_iload_n hx hb dX10_worthOf_84 rfl (lv_at hl 1 rfl) ?_
  refine xj_l (wc := (wD_177 h cs gI gL qA_210 gQ)) (wr := ([] : va_W)) hP hD hS hA [0, 1, 2, 3, 4, 5, 6, 7, 8, 9, 10, 11, 12, 13, 14, 15, 16] [] rfl rfl (by decide) (by decide) (va_runV (As := [.int (nI 2)]) (rest := []) ⟨hx, hb, hml, hown, hts⟩ (a_X10_determinant_221 l dC dI h cs H.size gI gL qA_210 gQ ) (cwV 1 hts gX10_worthOf_X10_determinant rfl rfl rfl (by decide +kernel) ⟨Nat.le_of_ble_eq_true rfl, Nat.le_of_ble_eq_true rfl⟩) (xpV (wc := (wD_177 h cs gI gL qA_210 gQ)) hP hD hK hN [0, 1, 2, 3, 4, 5, 6, 7, 8, 9, 10, 11, 12, 13, 14, 15, 16] rfl (by decide) 0 (ci := 10) rfl rfl _) rfl rfl hl.1 rfl (lv_room (Nat.le_of_ble_eq_true rfl)) dX10_worthOf_85 ⟨Nat.zero_le _, Nat.zero_le _⟩) (fun r_14 u_13 H locs hw hP hD hS => ?_)
  obtain ⟨hf_15, rfl⟩ := hw
  have hP : va_P (dC, dI) vwCl (wD_177 h cs gI gL qA_210 gQ) H := hP
  have hD : va_D A0 (wD_177 h cs gI gL qA_210 gQ) := hD
  obtain rfl := hf_15
  exact xr_l (v := (0 : Int64)) hx hb hr hlocks hK hS dX10_worthOf_88 (gI, gL, qA_210, gQ) ⟨rfl, rfl⟩ hP hD
set_option maxHeartbeats 4000000 in
set_option maxRecDepth 100000 in
theorem f_X10_worth (l : Launch) (dC : Nat → ClassId) (dI : Nat → Nat → Nat) (h : Nat → Nat) (cs : Nat → ClassId) (sz : Nat) (I : Nat → Int32) (L : Nat → Int64) (A : Nat → Nat → Int32) (Q : Nat → Nat → Int64) (x : Int32) : Met l yX10_worth wsX10_worth ({ frames := 2, cells := 0, slots := 0, locals := 55 }) (va_Pc [.ref (h 0), .int x] (xPre (dC, dI) (rW h cs gI gL gA gQ) (tysA cs) sz)) (va_Ql (fun (r : Int64) (u : RS) => ∃ za9 : Nat → Nat → Int32, (r = an_worth x) ∧ u = (gI, gL, za9, gQ)) (xB (dC, dI) (tysA cs) (va_A (rW h cs gI gL gA gQ) sz) (fun u : RS => rW h cs u.1 u.2.1 u.2.2.1 u.2.2.2)) (va_A (rW h cs gI gL gA gQ) sz)) 0 0 (va_A (rW h cs gI gL gA gQ) sz) := by
  refine Met.ofW (cc := cX10_worth) (maxL := 2) (ret := (some .long)) (by decide) rfl ?_
  intro p e s m args below meth c s₁ B hml hv
  obtain ⟨rfl, hsz, hP, hK, hD0, hN⟩ := hv
  have hx := B.exec
  have hb := B.bytes
  have hr := B.returns
  have hts := atoms_spec (ws := wsX10_worth) B.pre
  have hown : s.vm.findClass RX10 = some m.cls := findClass_of_methodNamed B.named
  have hlocks := B.notSynchronized
  subst hsz
  have hD := hD0.self (sz := s.heap.size)
  generalize hAe : va_A (rW h cs gI gL gA gQ) s.heap.size = A0 at hD ⊢
  have hA : ∀ q : Nat, s.heap.size ≤ q → A0 q := fun q h => by rw [← hAe]; exact Or.inr h
  have hl := lv_entry ([.ref (h 0), .int x]) (n := 2) (Nat.le_of_ble_eq_true rfl)
  rw [lg_entry_eq]
  generalize (lg_sl ([.ref (h 0), .int x]) ++ List.replicate (2 - (lg_sl ([.ref (h 0), .int x])).length) Slot.unset).toArray = ls at hl ⊢
  have hl : lv_has ls 2 [(0, .ref (h 0)), (1, .int x)] := hl
  generalize hH : s.heap = H at hP ⊢
  have hS : va_S A0 s.heap H [] := by rw [← hH]; exact va_S.rf
  rcases splR x 1 3 (by decide) with ⟨i_x, h_x, g_x, rfl⟩ | hz_x
  · skip
    rcases (show i_x = 1 ∨ i_x = 2 ∨ i_x = 3 by omega) with rfl | rfl | rfl
    · skip
      refine lv_iload_n hx hb dX10_worth_0 rfl (lv_at hl 1 rfl) ?_
      refine lv_i2l (v := (1 : Int64)) hx hb dX10_worth_1 (by decide +kernel) ?_
      refine lv_lconst (v := 1) hx hb dX10_worth_2 rfl ?_
      refine lv_aload_n hx hb dX10_worth_3 rfl (lv_at hl 0 rfl) ?_
      refine xj_i (wc := (wD_177 h cs gI gL gA gQ)) (wr := ([] : va_W)) hP hD hS hA [0, 1, 2, 3, 4, 5, 6, 7, 8, 9, 10, 11, 12, 13, 14, 15, 16] [] rfl rfl (by decide) (by decide) (va_runV (As := []) (rest := [.long (1 : Int64), .long (1 : Int64)]) ⟨hx, hb, hml, hown, hts⟩ (a_X10_whole_207 l dC dI h cs H.size gI gL gA gQ ) (cwV 0 hts gX10_worth_X10_whole rfl rfl rfl (by decide +kernel) ⟨Nat.le_of_ble_eq_true rfl, Nat.le_of_ble_eq_true rfl⟩) (xpV (wc := (wD_177 h cs gI gL gA gQ)) hP hD hK hN [0, 1, 2, 3, 4, 5, 6, 7, 8, 9, 10, 11, 12, 13, 14, 15, 16] rfl (by decide) 0 (ci := 10) rfl rfl _) rfl rfl hl.1 rfl (lv_room (Nat.le_of_ble_eq_true rfl)) dX10_worth_4 ⟨Nat.zero_le _, Nat.zero_le _⟩) (fun r_2 u_1 H locs hw hP hD hS => ?_)
      obtain ⟨hf_3, rfl⟩ := hw
      have hP : va_P (dC, dI) vwCl (rW h cs gI gL gA gQ) H := hP
      have hD : va_D A0 (rW h cs gI gL gA gQ) := hD
      obtain rfl := hf_3
      refine lv_i2l (v := (3 : Int64)) hx hb dX10_worth_7 (by decide +kernel) ?_
      refine xj_i (wc := ([] : va_W)) (wr := (rW h cs gI gL gA gQ)) hP hD hS hA [] [0, 1, 2, 3, 4, 5, 6, 7, 8, 9, 10, 11, 12, 13, 14, 15, 16] rfl rfl (by decide) (by decide) (va_runS (As := [.long (1 : Int64), .long (1 : Int64), .long (3 : Int64)]) (rest := []) ⟨hx, hb, hml, hown, hts⟩ (a_X10_in_208 l dC dI h cs H.size I L A Q ) (va_cwS 3 hts gX10_worth_X10_in rfl rfl rfl (by decide +kernel) ⟨Nat.le_of_ble_eq_true rfl, Nat.le_of_ble_eq_true rfl⟩) (xpS (wc := ([] : va_W)) hP hD hK hN [] rfl (by decide) _) rfl rfl hl.1 rfl (lv_room (Nat.le_of_ble_eq_true rfl)) dX10_worth_8 ⟨Nat.zero_le _, Nat.zero_le _⟩) (fun r_5 u_4 H locs hw hP hD hS => ?_)
      obtain ⟨hf_6, rfl⟩ := hw
      have hP : va_P (dC, dI) vwCl (rW h cs gI gL gA gQ) H := hP
      have hD : va_D A0 (rW h cs gI gL gA gQ) := hD
      obtain rfl := hf_6
      refine lv_if_ne (tgt := 18) hx hb dX10_worth_11 (by decide) (fun _ => ?_) (fun c9 => False.elim (by revert c9; decide +kernel))
      refine lv_aload_n hx hb dX10_worth_18 rfl (lv_at hl 0 rfl) ?_
      refine xj_v (wc := (wD_177 h cs gI gL gA gQ)) (wr := ([] : va_W)) hP hD hS hA [0, 1, 2, 3, 4, 5, 6, 7, 8, 9, 10, 11, 12, 13, 14, 15, 16] [] rfl rfl (by decide) (by decide) (va_runV (As := []) (rest := []) ⟨hx, hb, hml, hown, hts⟩ (a_X10_lay_209 l dC dI h cs H.size gI gL gA gQ ) (cwV 0 hts gX10_worth_X10_lay rfl rfl rfl (by decide +kernel) ⟨Nat.le_of_ble_eq_true rfl, Nat.le_of_ble_eq_true rfl⟩) (xpV (wc := (wD_177 h cs gI gL gA gQ)) hP hD hK hN [0, 1, 2, 3, 4, 5, 6, 7, 8, 9, 10, 11, 12, 13, 14, 15, 16] rfl (by decide) 0 (ci := 10) rfl rfl _) rfl rfl hl.1 rfl (lv_room (Nat.le_of_ble_eq_true rfl)) dX10_worth_19 ⟨Nat.zero_le _, Nat.zero_le _⟩) (fun u_7 H locs hw hP hD hS => ?_)
      obtain ⟨hf_9, rfl⟩ := hw
      have hP : va_P (dC, dI) vwCl (rW h cs gI gL qA_210 gQ) H := hP
      have hD : va_D A0 (rW h cs gI gL qA_210 gQ) := hD
      refine lv_aload_n hx hb dX10_worth_22 rfl (lv_at hl 0 rfl) ?_
      refine lv_iload_n hx hb dX10_worth_23 rfl (lv_at hl 1 rfl) ?_
      refine xj_l (wc := (wD_177 h cs gI gL qA_210 gQ)) (wr := ([] : va_W)) hP hD hS hA [0, 1, 2, 3, 4, 5, 6, 7, 8, 9, 10, 11, 12, 13, 14, 15, 16] [] rfl rfl (by decide) (by decide) (va_runV (As := [.int (nI 1)]) (rest := []) ⟨hx, hb, hml, hown, hts⟩ (a_X10_worthOf_211 l dC dI h cs H.size gI gL qA_210 gQ ) (cwV 1 hts gX10_worth_X10_worthOf rfl rfl rfl (by decide +kernel) ⟨Nat.le_of_ble_eq_true rfl, Nat.le_of_ble_eq_true rfl⟩) (xpV (wc := (wD_177 h cs gI gL qA_210 gQ)) hP hD hK hN [0, 1, 2, 3, 4, 5, 6, 7, 8, 9, 10, 11, 12, 13, 14, 15, 16] rfl (by decide) 0 (ci := 10) rfl rfl _) rfl rfl hl.1 rfl (lv_room (Nat.le_of_ble_eq_true rfl)) dX10_worth_24 ⟨Nat.zero_le _, Nat.zero_le _⟩) (fun r_11 u_10 H locs hw hP hD hS => ?_)
      obtain ⟨hf_12, rfl⟩ := hw
      have hP : va_P (dC, dI) vwCl (rW h cs gI gL qA_210 gQ) H := hP
      have hD : va_D A0 (rW h cs gI gL qA_210 gQ) := hD
      obtain rfl := hf_12
      exact xr_l (v := (0 : Int64)) hx hb hr hlocks hK hS dX10_worth_27 (gI, gL, qA_210, gQ) ⟨qA_210, (by decide +kernel), rfl⟩ hP hD
    · skip
      refine lv_iload_n hx hb dX10_worth_0 rfl (lv_at hl 1 rfl) ?_
      refine lv_i2l (v := (2 : Int64)) hx hb dX10_worth_1 (by decide +kernel) ?_
      refine lv_lconst (v := 1) hx hb dX10_worth_2 rfl ?_
      refine lv_aload_n hx hb dX10_worth_3 rfl (lv_at hl 0 rfl) ?_
      refine xj_i (wc := (wD_177 h cs gI gL gA gQ)) (wr := ([] : va_W)) hP hD hS hA [0, 1, 2, 3, 4, 5, 6, 7, 8, 9, 10, 11, 12, 13, 14, 15, 16] [] rfl rfl (by decide) (by decide) (va_runV (As := []) (rest := [.long (1 : Int64), .long (2 : Int64)]) ⟨hx, hb, hml, hown, hts⟩ (a_X10_whole_207 l dC dI h cs H.size gI gL gA gQ ) (cwV 0 hts gX10_worth_X10_whole rfl rfl rfl (by decide +kernel) ⟨Nat.le_of_ble_eq_true rfl, Nat.le_of_ble_eq_true rfl⟩) (xpV (wc := (wD_177 h cs gI gL gA gQ)) hP hD hK hN [0, 1, 2, 3, 4, 5, 6, 7, 8, 9, 10, 11, 12, 13, 14, 15, 16] rfl (by decide) 0 (ci := 10) rfl rfl _) rfl rfl hl.1 rfl (lv_room (Nat.le_of_ble_eq_true rfl)) dX10_worth_4 ⟨Nat.zero_le _, Nat.zero_le _⟩) (fun r_14 u_13 H locs hw hP hD hS => ?_)
      obtain ⟨hf_15, rfl⟩ := hw
      have hP : va_P (dC, dI) vwCl (rW h cs gI gL gA gQ) H := hP
      have hD : va_D A0 (rW h cs gI gL gA gQ) := hD
      obtain rfl := hf_15
      refine lv_i2l (v := (3 : Int64)) hx hb dX10_worth_7 (by decide +kernel) ?_
      refine xj_i (wc := ([] : va_W)) (wr := (rW h cs gI gL gA gQ)) hP hD hS hA [] [0, 1, 2, 3, 4, 5, 6, 7, 8, 9, 10, 11, 12, 13, 14, 15, 16] rfl rfl (by decide) (by decide) (va_runS (As := [.long (2 : Int64), .long (1 : Int64), .long (3 : Int64)]) (rest := []) ⟨hx, hb, hml, hown, hts⟩ (a_X10_in_214 l dC dI h cs H.size I L A Q ) (va_cwS 3 hts gX10_worth_X10_in rfl rfl rfl (by decide +kernel) ⟨Nat.le_of_ble_eq_true rfl, Nat.le_of_ble_eq_true rfl⟩) (xpS (wc := ([] : va_W)) hP hD hK hN [] rfl (by decide) _) rfl rfl hl.1 rfl (lv_room (Nat.le_of_ble_eq_true rfl)) dX10_worth_8 ⟨Nat.zero_le _, Nat.zero_le _⟩) (fun r_17 u_16 H locs hw hP hD hS => ?_)
      obtain ⟨hf_18, rfl⟩ := hw
      have hP : va_P (dC, dI) vwCl (rW h cs gI gL gA gQ) H := hP
      have hD : va_D A0 (rW h cs gI gL gA gQ) := hD
      obtain rfl := hf_18
      refine lv_if_ne (tgt := 18) hx hb dX10_worth_11 (by decide) (fun _ => ?_) (fun c9 => False.elim (by revert c9; decide +kernel))
      refine lv_aload_n hx hb dX10_worth_18 rfl (lv_at hl 0 rfl) ?_
      refine xj_v (wc := (wD_177 h cs gI gL gA gQ)) (wr := ([] : va_W)) hP hD hS hA [0, 1, 2, 3, 4, 5, 6, 7, 8, 9, 10, 11, 12, 13, 14, 15, 16] [] rfl rfl (by decide) (by decide) (va_runV (As := []) (rest := []) ⟨hx, hb, hml, hown, hts⟩ (a_X10_lay_209 l dC dI h cs H.size gI gL gA gQ ) (cwV 0 hts gX10_worth_X10_lay rfl rfl rfl (by decide +kernel) ⟨Nat.le_of_ble_eq_true rfl, Nat.le_of_ble_eq_true rfl⟩) (xpV (wc := (wD_177 h cs gI gL gA gQ)) hP hD hK hN [0, 1, 2, 3, 4, 5, 6, 7, 8, 9, 10, 11, 12, 13, 14, 15, 16] rfl (by decide) 0 (ci := 10) rfl rfl _) rfl rfl hl.1 rfl (lv_room (Nat.le_of_ble_eq_true rfl)) dX10_worth_19 ⟨Nat.zero_le _, Nat.zero_le _⟩) (fun u_19 H locs hw hP hD hS => ?_)
      obtain ⟨hf_21, rfl⟩ := hw
      have hP : va_P (dC, dI) vwCl (rW h cs gI gL qA_210 gQ) H := hP
      have hD : va_D A0 (rW h cs gI gL qA_210 gQ) := hD
      refine lv_aload_n hx hb dX10_worth_22 rfl (lv_at hl 0 rfl) ?_
      refine lv_iload_n hx hb dX10_worth_23 rfl (lv_at hl 1 rfl) ?_
      refine xj_l (wc := (wD_177 h cs gI gL qA_210 gQ)) (wr := ([] : va_W)) hP hD hS hA [0, 1, 2, 3, 4, 5, 6, 7, 8, 9, 10, 11, 12, 13, 14, 15, 16] [] rfl rfl (by decide) (by decide) (va_runV (As := [.int (nI 2)]) (rest := []) ⟨hx, hb, hml, hown, hts⟩ (a_X10_worthOf_215 l dC dI h cs H.size gI gL qA_210 gQ ) (cwV 1 hts gX10_worth_X10_worthOf rfl rfl rfl (by decide +kernel) ⟨Nat.le_of_ble_eq_true rfl, Nat.le_of_ble_eq_true rfl⟩) (xpV (wc := (wD_177 h cs gI gL qA_210 gQ)) hP hD hK hN [0, 1, 2, 3, 4, 5, 6, 7, 8, 9, 10, 11, 12, 13, 14, 15, 16] rfl (by decide) 0 (ci := 10) rfl rfl _) rfl rfl hl.1 rfl (lv_room (Nat.le_of_ble_eq_true rfl)) dX10_worth_24 ⟨Nat.zero_le _, Nat.zero_le _⟩) (fun r_23 u_22 H locs hw hP hD hS => ?_)
      obtain ⟨hf_24, rfl⟩ := hw
      have hP : va_P (dC, dI) vwCl (rW h cs gI gL qA_210 gQ) H := hP
      have hD : va_D A0 (rW h cs gI gL qA_210 gQ) := hD
      obtain rfl := hf_24
      exact xr_l (v := (0 : Int64)) hx hb hr hlocks hK hS dX10_worth_27 (gI, gL, qA_210, gQ) ⟨qA_210, (by decide +kernel), rfl⟩ hP hD
    · skip
      refine lv_iload_n hx hb dX10_worth_0 rfl (lv_at hl 1 rfl) ?_
      refine lv_i2l (v := (3 : Int64)) hx hb dX10_worth_1 (by decide +kernel) ?_
      refine lv_lconst (v := 1) hx hb dX10_worth_2 rfl ?_
      refine lv_aload_n hx hb dX10_worth_3 rfl (lv_at hl 0 rfl) ?_
      refine xj_i (wc := (wD_177 h cs gI gL gA gQ)) (wr := ([] : va_W)) hP hD hS hA [0, 1, 2, 3, 4, 5, 6, 7, 8, 9, 10, 11, 12, 13, 14, 15, 16] [] rfl rfl (by decide) (by decide) (va_runV (As := []) (rest := [.long (1 : Int64), .long (3 : Int64)]) ⟨hx, hb, hml, hown, hts⟩ (a_X10_whole_207 l dC dI h cs H.size gI gL gA gQ ) (cwV 0 hts gX10_worth_X10_whole rfl rfl rfl (by decide +kernel) ⟨Nat.le_of_ble_eq_true rfl, Nat.le_of_ble_eq_true rfl⟩) (xpV (wc := (wD_177 h cs gI gL gA gQ)) hP hD hK hN [0, 1, 2, 3, 4, 5, 6, 7, 8, 9, 10, 11, 12, 13, 14, 15, 16] rfl (by decide) 0 (ci := 10) rfl rfl _) rfl rfl hl.1 rfl (lv_room (Nat.le_of_ble_eq_true rfl)) dX10_worth_4 ⟨Nat.zero_le _, Nat.zero_le _⟩) (fun r_26 u_25 H locs hw hP hD hS => ?_)
      obtain ⟨hf_27, rfl⟩ := hw
      have hP : va_P (dC, dI) vwCl (rW h cs gI gL gA gQ) H := hP
      have hD : va_D A0 (rW h cs gI gL gA gQ) := hD
      obtain rfl := hf_27
      refine lv_i2l (v := (3 : Int64)) hx hb dX10_worth_7 (by decide +kernel) ?_
      refine xj_i (wc := ([] : va_W)) (wr := (rW h cs gI gL gA gQ)) hP hD hS hA [] [0, 1, 2, 3, 4, 5, 6, 7, 8, 9, 10, 11, 12, 13, 14, 15, 16] rfl rfl (by decide) (by decide) (va_runS (As := [.long (3 : Int64), .long (1 : Int64), .long (3 : Int64)]) (rest := []) ⟨hx, hb, hml, hown, hts⟩ (a_X10_in_217 l dC dI h cs H.size I L A Q ) (va_cwS 3 hts gX10_worth_X10_in rfl rfl rfl (by decide +kernel) ⟨Nat.le_of_ble_eq_true rfl, Nat.le_of_ble_eq_true rfl⟩) (xpS (wc := ([] : va_W)) hP hD hK hN [] rfl (by decide) _) rfl rfl hl.1 rfl (lv_room (Nat.le_of_ble_eq_true rfl)) dX10_worth_8 ⟨Nat.zero_le _, Nat.zero_le _⟩) (fun r_29 u_28 H locs hw hP hD hS => ?_)
      obtain ⟨hf_30, rfl⟩ := hw
      have hP : va_P (dC, dI) vwCl (rW h cs gI gL gA gQ) H := hP
      have hD : va_D A0 (rW h cs gI gL gA gQ) := hD
      obtain rfl := hf_30
      refine lv_if_ne (tgt := 18) hx hb dX10_worth_11 (by decide) (fun _ => ?_) (fun c9 => False.elim (by revert c9; decide +kernel))
      refine lv_aload_n hx hb dX10_worth_18 rfl (lv_at hl 0 rfl) ?_
      refine xj_v (wc := (wD_177 h cs gI gL gA gQ)) (wr := ([] : va_W)) hP hD hS hA [0, 1, 2, 3, 4, 5, 6, 7, 8, 9, 10, 11, 12, 13, 14, 15, 16] [] rfl rfl (by decide) (by decide) (va_runV (As := []) (rest := []) ⟨hx, hb, hml, hown, hts⟩ (a_X10_lay_209 l dC dI h cs H.size gI gL gA gQ ) (cwV 0 hts gX10_worth_X10_lay rfl rfl rfl (by decide +kernel) ⟨Nat.le_of_ble_eq_true rfl, Nat.le_of_ble_eq_true rfl⟩) (xpV (wc := (wD_177 h cs gI gL gA gQ)) hP hD hK hN [0, 1, 2, 3, 4, 5, 6, 7, 8, 9, 10, 11, 12, 13, 14, 15, 16] rfl (by decide) 0 (ci := 10) rfl rfl _) rfl rfl hl.1 rfl (lv_room (Nat.le_of_ble_eq_true rfl)) dX10_worth_19 ⟨Nat.zero_le _, Nat.zero_le _⟩) (fun u_31 H locs hw hP hD hS => ?_)
      obtain ⟨hf_33, rfl⟩ := hw
      have hP : va_P (dC, dI) vwCl (rW h cs gI gL qA_210 gQ) H := hP
      have hD : va_D A0 (rW h cs gI gL qA_210 gQ) := hD
      refine lv_aload_n hx hb dX10_worth_22 rfl (lv_at hl 0 rfl) ?_
      refine lv_iload_n hx hb dX10_worth_23 rfl (lv_at hl 1 rfl) ?_
      refine xj_l (wc := (wD_177 h cs gI gL qA_210 gQ)) (wr := ([] : va_W)) hP hD hS hA [0, 1, 2, 3, 4, 5, 6, 7, 8, 9, 10, 11, 12, 13, 14, 15, 16] [] rfl rfl (by decide) (by decide) (va_runV (As := [.int (nI 3)]) (rest := []) ⟨hx, hb, hml, hown, hts⟩ (a_X10_worthOf_218 l dC dI h cs H.size gI gL qA_210 gQ ) (cwV 1 hts gX10_worth_X10_worthOf rfl rfl rfl (by decide +kernel) ⟨Nat.le_of_ble_eq_true rfl, Nat.le_of_ble_eq_true rfl⟩) (xpV (wc := (wD_177 h cs gI gL qA_210 gQ)) hP hD hK hN [0, 1, 2, 3, 4, 5, 6, 7, 8, 9, 10, 11, 12, 13, 14, 15, 16] rfl (by decide) 0 (ci := 10) rfl rfl _) rfl rfl hl.1 rfl (lv_room (Nat.le_of_ble_eq_true rfl)) dX10_worth_24 ⟨Nat.zero_le _, Nat.zero_le _⟩) (fun r_35 u_34 H locs hw hP hD hS => ?_)
      obtain ⟨hf_36, rfl⟩ := hw
      have hP : va_P (dC, dI) vwCl (rW h cs gI gL qA_210 gQ) H := hP
      have hD : va_D A0 (rW h cs gI gL qA_210 gQ) := hD
      obtain rfl := hf_36
      exact xr_l (v := (0 : Int64)) hx hb hr hlocks hK hS dX10_worth_27 (gI, gL, qA_210, gQ) ⟨qA_210, (by decide +kernel), rfl⟩ hP hD
  · skip
    refine lv_iload_n hx hb dX10_worth_0 rfl (lv_at hl 1 rfl) ?_
    refine lv_i2l (v := x.toInt64) hx hb dX10_worth_1 rfl ?_
    refine lv_lconst (v := 1) hx hb dX10_worth_2 rfl ?_
    refine lv_aload_n hx hb dX10_worth_3 rfl (lv_at hl 0 rfl) ?_
    refine xj_i (wc := (wD_177 h cs gI gL gA gQ)) (wr := ([] : va_W)) hP hD hS hA [0, 1, 2, 3, 4, 5, 6, 7, 8, 9, 10, 11, 12, 13, 14, 15, 16] [] rfl rfl (by decide) (by decide) (va_runV (As := []) (rest := [.long (1 : Int64), .long x.toInt64]) ⟨hx, hb, hml, hown, hts⟩ (a_X10_whole_207 l dC dI h cs H.size gI gL gA gQ ) (cwV 0 hts gX10_worth_X10_whole rfl rfl rfl (by decide +kernel) ⟨Nat.le_of_ble_eq_true rfl, Nat.le_of_ble_eq_true rfl⟩) (xpV (wc := (wD_177 h cs gI gL gA gQ)) hP hD hK hN [0, 1, 2, 3, 4, 5, 6, 7, 8, 9, 10, 11, 12, 13, 14, 15, 16] rfl (by decide) 0 (ci := 10) rfl rfl _) rfl rfl hl.1 rfl (lv_room (Nat.le_of_ble_eq_true rfl)) dX10_worth_4 ⟨Nat.zero_le _, Nat.zero_le _⟩) (fun r_38 u_37 H locs hw hP hD hS => ?_)
    obtain ⟨hf_39, rfl⟩ := hw
    have hP : va_P (dC, dI) vwCl (rW h cs gI gL gA gQ) H := hP
    have hD : va_D A0 (rW h cs gI gL gA gQ) := hD
    obtain rfl := hf_39
    refine lv_i2l (v := (3 : Int64)) hx hb dX10_worth_7 (by decide +kernel) ?_
    refine xj_i (wc := ([] : va_W)) (wr := (rW h cs gI gL gA gQ)) hP hD hS hA [] [0, 1, 2, 3, 4, 5, 6, 7, 8, 9, 10, 11, 12, 13, 14, 15, 16] rfl rfl (by decide) (by decide) (va_runS (As := [.long x.toInt64, .long (1 : Int64), .long (3 : Int64)]) (rest := []) ⟨hx, hb, hml, hown, hts⟩ (k_X10_in l dC dI h cs H.size I L A Q x.toInt64 (1 : Int64) (3 : Int64)) (va_cwS 3 hts gX10_worth_X10_in rfl rfl rfl (by decide +kernel) ⟨Nat.le_of_ble_eq_true rfl, Nat.le_of_ble_eq_true rfl⟩) (xpS (wc := ([] : va_W)) hP hD hK hN [] rfl (by decide) _) rfl rfl hl.1 rfl (lv_room (Nat.le_of_ble_eq_true rfl)) dX10_worth_8 ⟨Nat.zero_le _, Nat.zero_le _⟩) (fun r_41 u_40 H locs hw hP hD hS => ?_)
    obtain ⟨hf_42, rfl⟩ := hw
    have hP : va_P (dC, dI) vwCl (rW h cs gI gL gA gQ) H := hP
    have hD : va_D A0 (rW h cs gI gL gA gQ) := hD
    rcases in_Z (a := 1) (b := 3) (by decide +kernel) (by decide +kernel) hf_42 with ⟨rfl, za_x, zb_x⟩ | ⟨rfl, -⟩
    · skip
      exact absurd hz_x (by omega)
    · skip
      refine lv_if_ne (tgt := 18) hx hb dX10_worth_11 (by decide) (fun c9 => False.elim (by revert c9; decide +kernel)) (fun _ => ?_)
      refine lv_ldc2 (v := (-1)) hx hb hown (hts (.constantLong RX10 185 (-1)) (by decide +kernel)) dX10_worth_14 ?_
      exact xr_l (v := (-1 : Int64)) hx hb hr hlocks hK hS dX10_worth_17 (gI, gL, gA, gQ) ⟨gA, (by unfold an_worth; rw [if_neg (by omega)]), rfl⟩ hP hD
