theorem bdX5_holds_0 : (decode cX5_holds 0 = .ok (.aload_n 0, 1)) ∧ (decode cX5_holds 1 = .ok (.getfield 11, 3)) ∧ (decode cX5_holds 4 = .ok (.iconst (-1), 1)) ∧ (decode cX5_holds 5 = .ok (.if_icmp .eq 7, 3)) ∧ (decode cX5_holds 8 = .ok (.iconst 1, 1)) ∧ (decode cX5_holds 9 = .ok (.goto 4, 3)) ∧ (decode cX5_holds 12 = .ok (.iconst 0, 1)) ∧ (decode cX5_holds 13 = .ok (.ireturn, 1)) := by decide +kernel
theorem dX5_holds_0 : decode cX5_holds 0 = .ok (.aload_n 0, 1) := bdX5_holds_0.1
theorem dX5_holds_1 : decode cX5_holds 1 = .ok (.getfield 11, 3) := bdX5_holds_0.2.1
theorem dX5_holds_4 : decode cX5_holds 4 = .ok (.iconst (-1), 1) := bdX5_holds_0.2.2.1
theorem dX5_holds_5 : decode cX5_holds 5 = .ok (.if_icmp .eq 7, 3) := bdX5_holds_0.2.2.2.1
theorem dX5_holds_8 : decode cX5_holds 8 = .ok (.iconst 1, 1) := bdX5_holds_0.2.2.2.2.1
theorem dX5_holds_9 : decode cX5_holds 9 = .ok (.goto 4, 3) := bdX5_holds_0.2.2.2.2.2.1
theorem dX5_holds_12 : decode cX5_holds 12 = .ok (.iconst 0, 1) := bdX5_holds_0.2.2.2.2.2.2.1
theorem dX5_holds_13 : decode cX5_holds 13 = .ok (.ireturn, 1) := bdX5_holds_0.2.2.2.2.2.2.2
set_option maxHeartbeats 4000000 in
set_option maxRecDepth 100000 in
theorem k_X5_holds (l : Launch) (dC : Nat → ClassId) (dI : Nat → Nat → Nat) (h : Nat → Nat) (cs : Nat → ClassId) (sz : Nat) (I : Nat → Int32) (L : Nat → Int64) (A : Nat → Nat → Int32) (Q : Nat → Nat → Int64) (G : Nat → Nat → Nat → Int32) (J : Nat → Nat → Nat → Int64) : Met l yX5_holds wsX5_holds ({ frames := 0, cells := 0, slots := 0, locals := 0 }) (va_Pc [.ref (h 110)] (xPre (dC, dI) (wSheet h cs I L A Q G J) (tysA cs) sz)) (va_Qi (fun (r : Int32) (u : CS) => ((r = nI 1 ∧ ¬ I 220 = -1) ∨ (r = nI 0 ∧ I 220 = -1)) ∧ u = (I, L, A, Q, G, J)) (xB (dC, dI) (tysA cs) (va_A (wSheet h cs I L A Q G J) sz) (fun u : CS => wSheet h cs u.1 u.2.1 u.2.2.1 u.2.2.2.1 u.2.2.2.2.1 u.2.2.2.2.2)) (va_A (wSheet h cs I L A Q G J) sz)) 0 0 (va_A (wSheet h cs I L A Q G J) sz) := by
  refine Met.ofW (cc := cX5_holds) (maxL := 1) (ret := (some .boolean)) (by decide) rfl ?_
  intro p e s m args below meth c s₁ B hml hv
  obtain ⟨rfl, hsz, hP, hK, hD0, hN⟩ := hv
  have hx := B.exec
  have hb := B.bytes
  have hr := B.returns
  have hts := atoms_spec (ws := wsX5_holds) B.pre
  have hown : s.vm.findClass RX5 = some m.cls := findClass_of_methodNamed B.named
  have hlocks := B.notSynchronized
  subst hsz
  have hD := hD0.self (sz := s.heap.size)
  generalize hAe : va_A (wSheet h cs I L A Q G J) s.heap.size = A0 at hD ⊢
  have hA : ∀ q : Nat, s.heap.size ≤ q → A0 q := fun q h => by rw [← hAe]; exact Or.inr h
  have hl := lv_entry ([.ref (h 110)]) (n := 1) (Nat.le_of_ble_eq_true rfl)
  rw [lg_entry_eq]
  generalize (lg_sl ([.ref (h 110)]) ++ List.replicate (1 - (lg_sl ([.ref (h 110)])).length) Slot.unset).toArray = ls at hl ⊢
  have hl : lv_has ls 1 [(0, .ref (h 110))] := hl
  generalize hH : s.heap = H at hP ⊢
  have hS : va_S A0 s.heap H [] := by rw [← hH]; exact va_S.rf
  have hinX5 : ∀ w ∈ wsX50, w ∈ wsX5_holds := by decide +kernel
  refine lv_aload_n hx hb dX5_holds_0 rfl (lv_at hl 0 rfl) ?_
  refine va_get (D := (dC, dI)) (ci := 5) (v := .int (I 220)) (C := RX5) (T := TX5) (N := 3) hx hb hts hinX5 hown hK hP 0 rfl rfl 0 (by decide) (hts (.fieldLink RX5 11 "MixedWords$Sheet" "lane" "I") (by decide +kernel)) (fun _ h9 => h9) rfl dX5_holds_1 ?_
  refine lv_iconst (v := (-1)) hx hb dX5_holds_4 (by decide) ?_
  refine lv_icmp_eq (tgt := 12) hx hb dX5_holds_5 (by decide) (fun c_5_0 => ?_) (fun c_5_0 => ?_)
  · skip
    refine lv_iconst (v := nI 0) hx hb dX5_holds_12 (by decide) ?_
    exact xr_z (v := (nI 0)) hx hb hr hlocks hK hS dX5_holds_13 (rfl) (I, L, A, Q, G, J) ⟨(Or.inr ⟨rfl, by assumption⟩), rfl⟩ hP hD
  · skip
    refine lv_iconst (v := nI 1) hx hb dX5_holds_8 (by decide) ?_
    refine lv_goto (tgt := 13) hx hb dX5_holds_9 (by decide) ?_
    exact xr_z (v := (nI 1)) hx hb hr hlocks hK hS dX5_holds_13 (rfl) (I, L, A, Q, G, J) ⟨(Or.inl ⟨rfl, by assumption⟩), rfl⟩ hP hD
theorem bdX5_empty_0 : (decode cX5_empty 0 = .ok (.aload_n 0, 1)) ∧ (decode cX5_empty 1 = .ok (.iconst (-1), 1)) ∧ (decode cX5_empty 2 = .ok (.putfield 11, 3)) ∧ (decode cX5_empty 5 = .ok (.aload_n 0, 1)) ∧ (decode cX5_empty 6 = .ok (.iconst 0, 1)) ∧ (decode cX5_empty 7 = .ok (.putfield 15, 3)) ∧ (decode cX5_empty 10 = .ok (.return_, 1)) := by decide +kernel
theorem dX5_empty_0 : decode cX5_empty 0 = .ok (.aload_n 0, 1) := bdX5_empty_0.1
theorem dX5_empty_1 : decode cX5_empty 1 = .ok (.iconst (-1), 1) := bdX5_empty_0.2.1
theorem dX5_empty_2 : decode cX5_empty 2 = .ok (.putfield 11, 3) := bdX5_empty_0.2.2.1
theorem dX5_empty_5 : decode cX5_empty 5 = .ok (.aload_n 0, 1) := bdX5_empty_0.2.2.2.1
theorem dX5_empty_6 : decode cX5_empty 6 = .ok (.iconst 0, 1) := bdX5_empty_0.2.2.2.2.1
theorem dX5_empty_7 : decode cX5_empty 7 = .ok (.putfield 15, 3) := bdX5_empty_0.2.2.2.2.2.1
theorem dX5_empty_10 : decode cX5_empty 10 = .ok (.return_, 1) := bdX5_empty_0.2.2.2.2.2.2
set_option maxHeartbeats 4000000 in
set_option maxRecDepth 100000 in
theorem k_X5_empty (l : Launch) (dC : Nat → ClassId) (dI : Nat → Nat → Nat) (h : Nat → Nat) (cs : Nat → ClassId) (sz : Nat) (I : Nat → Int32) (L : Nat → Int64) (A : Nat → Nat → Int32) (Q : Nat → Nat → Int64) (G : Nat → Nat → Nat → Int32) (J : Nat → Nat → Nat → Int64) : Met l yX5_empty wsX5_empty ({ frames := 0, cells := 0, slots := 0, locals := 0 }) (va_Pc [.ref (h 110)] (xPre (dC, dI) (wSheet h cs I L A Q G J) (tysA cs) sz)) (va_Qv (fun (u : CS) => ∃ x220 : Int32, ∃ x224 : Int32, (x220 = -1 ∧ x224 = nI 0) ∧ u = ((va_up (va_up I 220 x220) 224 x224), L, A, Q, G, J)) (xB (dC, dI) (tysA cs) (va_A (wSheet h cs I L A Q G J) sz) (fun u : CS => wSheet h cs u.1 u.2.1 u.2.2.1 u.2.2.2.1 u.2.2.2.2.1 u.2.2.2.2.2)) (va_A (wSheet h cs I L A Q G J) sz)) 0 0 (va_A (wSheet h cs I L A Q G J) sz) := by
  refine Met.ofW (cc := cX5_empty) (maxL := 1) (ret := none) (by decide) rfl ?_
  intro p e s m args below meth c s₁ B hml hv
  obtain ⟨rfl, hsz, hP, hK, hD0, hN⟩ := hv
  have hx := B.exec
  have hb := B.bytes
  have hr := B.returns
  have hts := atoms_spec (ws := wsX5_empty) B.pre
  have hown : s.vm.findClass RX5 = some m.cls := findClass_of_methodNamed B.named
  have hlocks := B.notSynchronized
  subst hsz
  have hD := hD0.self (sz := s.heap.size)
  generalize hAe : va_A (wSheet h cs I L A Q G J) s.heap.size = A0 at hD ⊢
  have hA : ∀ q : Nat, s.heap.size ≤ q → A0 q := fun q h => by rw [← hAe]; exact Or.inr h
  have hl := lv_entry ([.ref (h 110)]) (n := 1) (Nat.le_of_ble_eq_true rfl)
  rw [lg_entry_eq]
  generalize (lg_sl ([.ref (h 110)]) ++ List.replicate (1 - (lg_sl ([.ref (h 110)])).length) Slot.unset).toArray = ls at hl ⊢
  have hl : lv_has ls 1 [(0, .ref (h 110))] := hl
  generalize hH : s.heap = H at hP ⊢
  have hS : va_S A0 s.heap H [] := by rw [← hH]; exact va_S.rf
  have hinX5 : ∀ w ∈ wsX50, w ∈ wsX5_empty := by decide +kernel
  refine lv_aload_n hx hb dX5_empty_0 rfl (lv_at hl 0 rfl) ?_
  refine lv_iconst (v := (-1)) hx hb dX5_empty_1 (by decide) ?_
  refine va_put (D := (dC, dI)) (ci := 5) (v := .int (-1)) (ty := .int) (C := RX5) (T := TX5) (N := 3) hx hb hts hinX5 tyX5 tyX5_ok nmX5 hown hK hP hD hS 0 rfl rfl 0 (by decide) (hts (.fieldLink RX5 11 "MixedWords$Sheet" "lane" "I") (by decide +kernel)) (fun _ h9 => h9) rfl (by decide +kernel) rfl rfl (Nat.le_of_ble_eq_true rfl) dX5_empty_2 (fun H locs hP hD hS => ?_)
  have hP : va_P (dC, dI) vwCl (wSheet h cs (va_up I 220 (-1)) L A Q G J) H := hP
  have hD : va_D A0 (wSheet h cs (va_up I 220 (-1)) L A Q G J) := hD
  refine lv_aload_n hx hb dX5_empty_5 rfl (lv_at hl 0 rfl) ?_
  refine lv_iconst (v := nI 0) hx hb dX5_empty_6 (by decide) ?_
  refine va_put (D := (dC, dI)) (ci := 5) (v := .int (nI 0)) (ty := .int) (C := RX5) (T := TX5) (N := 3) hx hb hts hinX5 tyX5 tyX5_ok nmX5 hown hK hP hD hS 0 rfl rfl 1 (by decide) (hts (.fieldLink RX5 15 "MixedWords$Sheet" "length" "I") (by decide +kernel)) (fun _ h9 => h9) rfl (by decide +kernel) rfl rfl (Nat.le_of_ble_eq_true rfl) dX5_empty_7 (fun H locs hP hD hS => ?_)
  have hP : va_P (dC, dI) vwCl (wSheet h cs (va_up (va_up I 220 (-1)) 224 (nI 0)) L A Q G J) H := hP
  have hD : va_D A0 (wSheet h cs (va_up (va_up I 220 (-1)) 224 (nI 0)) L A Q G J) := hD
  exact xr_v hx hb hr hlocks hK hS dX5_empty_10 ((va_up (va_up I 220 (-1)) 224 (nI 0)), L, A, Q, G, J) ⟨(-1), (nI 0), ⟨rfl, rfl⟩, rfl⟩ hP hD
theorem bdX5_put_0 : (decode cX5_put 0 = .ok (.aload_n 0, 1)) ∧ (decode cX5_put 1 = .ok (.getfield 18, 3)) ∧ (decode cX5_put 4 = .ok (.iload_n 1, 1)) ∧ (decode cX5_put 5 = .ok (.aload_n 0, 1)) ∧ (decode cX5_put 6 = .ok (.getfield 11, 3)) ∧ (decode cX5_put 9 = .ok (.ifCond .ne 9, 3)) ∧ (decode cX5_put 12 = .ok (.iload_n 2, 1)) ∧ (decode cX5_put 13 = .ok (.i2b, 1)) ∧ (decode cX5_put 14 = .ok (.i2l, 1)) ∧ (decode cX5_put 15 = .ok (.goto 5, 3)) ∧ (decode cX5_put 18 = .ok (.iload_n 2, 1)) ∧ (decode cX5_put 19 = .ok (.i2l, 1)) ∧ (decode cX5_put 20 = .ok (.lastore, 1)) ∧ (decode cX5_put 21 = .ok (.return_, 1)) := by decide +kernel
theorem dX5_put_0 : decode cX5_put 0 = .ok (.aload_n 0, 1) := bdX5_put_0.1
theorem dX5_put_1 : decode cX5_put 1 = .ok (.getfield 18, 3) := bdX5_put_0.2.1
theorem dX5_put_4 : decode cX5_put 4 = .ok (.iload_n 1, 1) := bdX5_put_0.2.2.1
theorem dX5_put_5 : decode cX5_put 5 = .ok (.aload_n 0, 1) := bdX5_put_0.2.2.2.1
theorem dX5_put_6 : decode cX5_put 6 = .ok (.getfield 11, 3) := bdX5_put_0.2.2.2.2.1
theorem dX5_put_9 : decode cX5_put 9 = .ok (.ifCond .ne 9, 3) := bdX5_put_0.2.2.2.2.2.1
theorem dX5_put_12 : decode cX5_put 12 = .ok (.iload_n 2, 1) := bdX5_put_0.2.2.2.2.2.2.1
theorem dX5_put_13 : decode cX5_put 13 = .ok (.i2b, 1) := bdX5_put_0.2.2.2.2.2.2.2.1
theorem dX5_put_14 : decode cX5_put 14 = .ok (.i2l, 1) := bdX5_put_0.2.2.2.2.2.2.2.2.1
theorem dX5_put_15 : decode cX5_put 15 = .ok (.goto 5, 3) := bdX5_put_0.2.2.2.2.2.2.2.2.2.1
theorem dX5_put_18 : decode cX5_put 18 = .ok (.iload_n 2, 1) := bdX5_put_0.2.2.2.2.2.2.2.2.2.2.1
theorem dX5_put_19 : decode cX5_put 19 = .ok (.i2l, 1) := bdX5_put_0.2.2.2.2.2.2.2.2.2.2.2.1
theorem dX5_put_20 : decode cX5_put 20 = .ok (.lastore, 1) := bdX5_put_0.2.2.2.2.2.2.2.2.2.2.2.2.1
theorem dX5_put_21 : decode cX5_put 21 = .ok (.return_, 1) := bdX5_put_0.2.2.2.2.2.2.2.2.2.2.2.2.2
set_option maxHeartbeats 4000000 in
set_option maxRecDepth 100000 in
theorem k_X5_put (l : Launch) (dC : Nat → ClassId) (dI : Nat → Nat → Nat) (h : Nat → Nat) (cs : Nat → ClassId) (sz : Nat) (I : Nat → Int32) (L : Nat → Int64) (A : Nat → Nat → Int32) (Q : Nat → Nat → Int64) (G : Nat → Nat → Nat → Int32) (J : Nat → Nat → Nat → Int64) (i : Nat) (v : Int32) (hi : i < 25) : Met l yX5_put wsX5_put ({ frames := 0, cells := 0, slots := 0, locals := 0 }) (va_Pc [.ref (h 110), .int (nI i), .int v] (xPre (dC, dI) (wSheet h cs I L A Q G J) (tysA cs) sz)) (va_Qv (fun (u : CS) => ∃ q228 : Nat → Int64, (q228 = vp_updL (Q 228) i (if I 220 = 0 then v.toInt8.toInt32.toInt64 else v.toInt64)) ∧ u = (I, L, A, (va_up Q 228 q228), G, J)) (xB (dC, dI) (tysA cs) (va_A (wSheet h cs I L A Q G J) sz) (fun u : CS => wSheet h cs u.1 u.2.1 u.2.2.1 u.2.2.2.1 u.2.2.2.2.1 u.2.2.2.2.2)) (va_A (wSheet h cs I L A Q G J) sz)) 0 0 (va_A (wSheet h cs I L A Q G J) sz) := by
  refine Met.ofW (cc := cX5_put) (maxL := 3) (ret := none) (by decide) rfl ?_
  intro p e s m args below meth c s₁ B hml hv
  obtain ⟨rfl, hsz, hP, hK, hD0, hN⟩ := hv
  have hx := B.exec
  have hb := B.bytes
  have hr := B.returns
  have hts := atoms_spec (ws := wsX5_put) B.pre
  have hown : s.vm.findClass RX5 = some m.cls := findClass_of_methodNamed B.named
  have hlocks := B.notSynchronized
  subst hsz
  have hD := hD0.self (sz := s.heap.size)
  generalize hAe : va_A (wSheet h cs I L A Q G J) s.heap.size = A0 at hD ⊢
  have hA : ∀ q : Nat, s.heap.size ≤ q → A0 q := fun q h => by rw [← hAe]; exact Or.inr h
  have hl := lv_entry ([.ref (h 110), .int (nI i), .int v]) (n := 3) (Nat.le_of_ble_eq_true rfl)
  rw [lg_entry_eq]
  generalize (lg_sl ([.ref (h 110), .int (nI i), .int v]) ++ List.replicate (3 - (lg_sl ([.ref (h 110), .int (nI i), .int v])).length) Slot.unset).toArray = ls at hl ⊢
  have hl : lv_has ls 3 [(0, .ref (h 110)), (1, .int (nI i)), (2, .int v)] := hl
  generalize hH : s.heap = H at hP ⊢
  have hS : va_S A0 s.heap H [] := by rw [← hH]; exact va_S.rf
  have hinX5 : ∀ w ∈ wsX50, w ∈ wsX5_put := by decide +kernel
  refine lv_aload_n hx hb dX5_put_0 rfl (lv_at hl 0 rfl) ?_
  refine va_get (D := (dC, dI)) (ci := 5) (v := .ref (h 228)) (C := RX5) (T := TX5) (N := 3) hx hb hts hinX5 hown hK hP 0 rfl rfl 2 (by decide) (hts (.fieldLink RX5 18 "MixedWords$Sheet" "items" "[J") (by decide +kernel)) (fun _ h9 => h9) rfl dX5_put_1 ?_
  refine lv_iload_n hx hb dX5_put_4 rfl (lv_at hl 1 rfl) ?_
  refine lv_aload_n hx hb dX5_put_5 rfl (lv_at hl 0 rfl) ?_
  refine va_get (D := (dC, dI)) (ci := 5) (v := .int (I 220)) (C := RX5) (T := TX5) (N := 3) hx hb hts hinX5 hown hK hP 0 rfl rfl 0 (by decide) (hts (.fieldLink RX5 11 "MixedWords$Sheet" "lane" "I") (by decide +kernel)) (fun _ h9 => h9) rfl dX5_put_6 ?_
  refine lv_if_ne (tgt := 18) hx hb dX5_put_9 (by decide) (fun c_9_0 => ?_) (fun c_9_0 => ?_)
  · skip
    refine lv_iload_n hx hb dX5_put_18 rfl (lv_at hl 2 rfl) ?_
    refine lv_i2l (v := v.toInt64) hx hb dX5_put_19 rfl ?_
    refine xa_last hx hb hK hP hD hS 1 1 rfl rfl (by omega) (by decide) dX5_put_20 (fun H locs hP hD hS => ?_)
    have hP : va_P (dC, dI) vwCl (wSheet h cs I L A (va_up Q 228 (vp_updL (Q 228) i v.toInt64)) G J) H := hP
    have hD : va_D A0 (wSheet h cs I L A (va_up Q 228 (vp_updL (Q 228) i v.toInt64)) G J) := hD
    exact xr_v hx hb hr hlocks hK hS dX5_put_21 (I, L, A, (va_up Q 228 (vp_updL (Q 228) i v.toInt64)), G, J) ⟨(vp_updL (Q 228) i v.toInt64), (by first | rw [if_pos (by assumption)] | rw [if_neg (by assumption)]), rfl⟩ hP hD
  · skip
    refine lv_iload_n hx hb dX5_put_12 rfl (lv_at hl 2 rfl) ?_
    refine lv_i2b (v := v.toInt8.toInt32) hx hb dX5_put_13 rfl ?_
    refine lv_i2l (v := v.toInt8.toInt32.toInt64) hx hb dX5_put_14 rfl ?_
    refine lv_goto (tgt := 20) hx hb dX5_put_15 (by decide) ?_
    refine xa_last hx hb hK hP hD hS 1 1 rfl rfl (by omega) (by decide) dX5_put_20 (fun H locs hP hD hS => ?_)
    have hP : va_P (dC, dI) vwCl (wSheet h cs I L A (va_up Q 228 (vp_updL (Q 228) i v.toInt8.toInt32.toInt64)) G J) H := hP
    have hD : va_D A0 (wSheet h cs I L A (va_up Q 228 (vp_updL (Q 228) i v.toInt8.toInt32.toInt64)) G J) := hD
    exact xr_v hx hb hr hlocks hK hS dX5_put_21 (I, L, A, (va_up Q 228 (vp_updL (Q 228) i v.toInt8.toInt32.toInt64)), G, J) ⟨(vp_updL (Q 228) i v.toInt8.toInt32.toInt64), (by first | rw [if_pos (by assumption)] | rw [if_neg (by assumption)]), rfl⟩ hP hD
