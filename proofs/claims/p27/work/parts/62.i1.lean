theorem bdX3_init_0 : (decode cX3_init 0 = .ok (.aload_n 0, 1)) ∧ (decode cX3_init 1 = .ok (.invokespecial 3, 3)) ∧ (decode cX3_init 4 = .ok (.aload_n 0, 1)) ∧ (decode cX3_init 5 = .ok (.iconst 2, 1)) ∧ (decode cX3_init 6 = .ok (.putfield 9, 3)) ∧ (decode cX3_init 9 = .ok (.aload_n 0, 1)) ∧ (decode cX3_init 10 = .ok (.iconst 2, 1)) ∧ (decode cX3_init 11 = .ok (.putfield 15, 3)) ∧ (decode cX3_init 14 = .ok (.aload_n 0, 1)) ∧ (decode cX3_init 15 = .ok (.iconst 2, 1)) ∧ (decode cX3_init 16 = .ok (.putfield 18, 3)) ∧ (decode cX3_init 19 = .ok (.aload_n 0, 1)) ∧ (decode cX3_init 20 = .ok (.iconst 1, 1)) ∧ (decode cX3_init 21 = .ok (.putfield 21, 3)) ∧ (decode cX3_init 24 = .ok (.aload_n 0, 1)) ∧ (decode cX3_init 25 = .ok (.iconst 5, 1)) := by decide +kernel
theorem dX3_init_0 : decode cX3_init 0 = .ok (.aload_n 0, 1) := bdX3_init_0.1
theorem dX3_init_1 : decode cX3_init 1 = .ok (.invokespecial 3, 3) := bdX3_init_0.2.1
theorem dX3_init_4 : decode cX3_init 4 = .ok (.aload_n 0, 1) := bdX3_init_0.2.2.1
theorem dX3_init_5 : decode cX3_init 5 = .ok (.iconst 2, 1) := bdX3_init_0.2.2.2.1
theorem dX3_init_6 : decode cX3_init 6 = .ok (.putfield 9, 3) := bdX3_init_0.2.2.2.2.1
theorem dX3_init_9 : decode cX3_init 9 = .ok (.aload_n 0, 1) := bdX3_init_0.2.2.2.2.2.1
theorem dX3_init_10 : decode cX3_init 10 = .ok (.iconst 2, 1) := bdX3_init_0.2.2.2.2.2.2.1
theorem dX3_init_11 : decode cX3_init 11 = .ok (.putfield 15, 3) := bdX3_init_0.2.2.2.2.2.2.2.1
theorem dX3_init_14 : decode cX3_init 14 = .ok (.aload_n 0, 1) := bdX3_init_0.2.2.2.2.2.2.2.2.1
theorem dX3_init_15 : decode cX3_init 15 = .ok (.iconst 2, 1) := bdX3_init_0.2.2.2.2.2.2.2.2.2.1
theorem dX3_init_16 : decode cX3_init 16 = .ok (.putfield 18, 3) := bdX3_init_0.2.2.2.2.2.2.2.2.2.2.1
theorem dX3_init_19 : decode cX3_init 19 = .ok (.aload_n 0, 1) := bdX3_init_0.2.2.2.2.2.2.2.2.2.2.2.1
theorem dX3_init_20 : decode cX3_init 20 = .ok (.iconst 1, 1) := bdX3_init_0.2.2.2.2.2.2.2.2.2.2.2.2.1
theorem dX3_init_21 : decode cX3_init 21 = .ok (.putfield 21, 3) := bdX3_init_0.2.2.2.2.2.2.2.2.2.2.2.2.2.1
theorem dX3_init_24 : decode cX3_init 24 = .ok (.aload_n 0, 1) := bdX3_init_0.2.2.2.2.2.2.2.2.2.2.2.2.2.2.1
theorem dX3_init_25 : decode cX3_init 25 = .ok (.iconst 5, 1) := bdX3_init_0.2.2.2.2.2.2.2.2.2.2.2.2.2.2.2
theorem bdX3_init_26 : (decode cX3_init 26 = .ok (.iconst 4, 1)) ∧ (decode cX3_init 27 = .ok (.multianewarray 24 2, 4)) ∧ (decode cX3_init 31 = .ok (.putfield 26, 3)) ∧ (decode cX3_init 34 = .ok (.aload_n 0, 1)) ∧ (decode cX3_init 35 = .ok (.iconst 5, 1)) ∧ (decode cX3_init 36 = .ok (.newarray .int, 2)) ∧ (decode cX3_init 38 = .ok (.putfield 29, 3)) ∧ (decode cX3_init 41 = .ok (.return_, 1)) := by decide +kernel
theorem dX3_init_26 : decode cX3_init 26 = .ok (.iconst 4, 1) := bdX3_init_26.1
theorem dX3_init_27 : decode cX3_init 27 = .ok (.multianewarray 24 2, 4) := bdX3_init_26.2.1
theorem dX3_init_31 : decode cX3_init 31 = .ok (.putfield 26, 3) := bdX3_init_26.2.2.1
theorem dX3_init_34 : decode cX3_init 34 = .ok (.aload_n 0, 1) := bdX3_init_26.2.2.2.1
theorem dX3_init_35 : decode cX3_init 35 = .ok (.iconst 5, 1) := bdX3_init_26.2.2.2.2.1
theorem dX3_init_36 : decode cX3_init 36 = .ok (.newarray .int, 2) := bdX3_init_26.2.2.2.2.2.1
theorem dX3_init_38 : decode cX3_init 38 = .ok (.putfield 29, 3) := bdX3_init_26.2.2.2.2.2.2.1
theorem dX3_init_41 : decode cX3_init 41 = .ok (.return_, 1) := bdX3_init_26.2.2.2.2.2.2.2
set_option maxHeartbeats 4000000 in
set_option maxRecDepth 100000 in
theorem k_X3_init (l : Launch) (dC : Nat → ClassId) (dI : Nat → Nat → Nat) (h : Nat → Nat) (cs : Nat → ClassId) (sz : Nat) : Met l yX3_init wsX3_init ({ frames := 1, cells := 7, slots := 30, locals := 12 }) (va_Pc [.ref (h 101)] (xPreI (dC, dI) [(h 101, .inr (3, [.int 0, .int 0, .int 0, .int 0, .null, .null]))] (tysA cs) sz)) (va_Qv (fun u : Nat → Nat => True) (xB (dC, dI) (tysA cs) (va_A [(h 101, .inr (3, [.int 0, .int 0, .int 0, .int 0, .null, .null]))] sz) (fun u : Nat → Nat => [(h 101, .inr (3, [.int (fI 120), .int (fI 121), .int (fI 122), .int (fI 123), .ref (u 130), .ref (u 136)])), (u 130, .inl (cs 3, 5, .inr (.inr (.inr (.inr (fun i => if i < 5 then some (u (i + 131)) else none)))))), (u 131, .inl (cs 0, 4, .inl ((fG 0) 0))), (u 132, .inl (cs 0, 4, .inl ((fG 0) 1))), (u 133, .inl (cs 0, 4, .inl ((fG 0) 2))), (u 134, .inl (cs 0, 4, .inl ((fG 0) 3))), (u 135, .inl (cs 0, 4, .inl ((fG 0) 4))), (u 136, .inl (cs 0, 5, .inl (fA 136)))])) (va_A [(h 101, .inr (3, [.int 0, .int 0, .int 0, .int 0, .null, .null]))] sz)) 7 30 (va_A [(h 101, .inr (3, [.int 0, .int 0, .int 0, .int 0, .null, .null]))] sz) := by
  refine Met.ofW (cc := cX3_init) (maxL := 1) (ret := none) (by decide) rfl ?_
  intro p e s m args below meth c s₁ B hml hv
  obtain ⟨rfl, ⟨hsz, hP, hK, hD0, hN⟩, hO⟩ := hv
  have hx := B.exec
  have hb := B.bytes
  have hr := B.returns
  have hts := atoms_spec (ws := wsX3_init) B.pre
  have hown : s.vm.findClass RX3 = some m.cls := findClass_of_methodNamed B.named
  have hlocks := B.notSynchronized
  subst hsz
  have hD := hD0.self (sz := s.heap.size)
  generalize hAe : va_A [(h 101, .inr (3, [.int 0, .int 0, .int 0, .int 0, .null, .null]))] s.heap.size = A0 at hD ⊢
  have hA : ∀ q : Nat, s.heap.size ≤ q → A0 q := fun q h => by rw [← hAe]; exact Or.inr h
  have hin : meth.name = "<init>" := (name_of_methodNamed B.named B.method).1
  have hl := lv_entry ([.ref (h 101)]) (n := 1) (Nat.le_of_ble_eq_true rfl)
  rw [lg_entry_eq]
  generalize (lg_sl ([.ref (h 101)]) ++ List.replicate (1 - (lg_sl ([.ref (h 101)])).length) Slot.unset).toArray = ls at hl ⊢
  have hl : lv_has ls 1 [(0, .ref (h 101))] := hl
  generalize hH : s.heap = H at hP ⊢
  have hS : va_S A0 s.heap H [] := by rw [← hH]; exact va_S.rf
  have hinX3 : ∀ w ∈ wsX30, w ∈ wsX3_init := by decide +kernel
  refine lv_aload_n hx hb dX3_init_0 rfl (lv_at hl 0 rfl) ?_
  refine W.objInit hx hb hown (hts (.methodLink RX3 3 objectInit) (by decide +kernel)) (hts (.instanceMethod objectInit) (by decide +kernel)) (hts _ (by decide +kernel : Cond.code objectInit ⟨#[0xb1]⟩ 1 none ∈ wsX3_init)) rfl (by rw [hml]; exact hl.1) rfl dX3_init_1 (Nat.le_of_ble_eq_true rfl) (Nat.le_of_ble_eq_true rfl) ?_
  refine W.eq (g2 := F0 m 4 ls []) rfl ?_
  refine lv_aload_n hx hb dX3_init_4 rfl (lv_at hl 0 rfl) ?_
  refine lv_iconst (v := nI 2) hx hb dX3_init_5 (by decide) ?_
  refine va_put (D := (dC, dI)) (ci := 3) (v := .int (nI 2)) (ty := .int) (C := RX3) (T := TX3) (N := 6) hx hb hts hinX3 tyX3 tyX3_ok nmX3 hown hK hP hD hS 0 rfl rfl 0 (by decide) (hts (.fieldLink RX3 9 "MixedWords$Mix" "height" "I") (by decide +kernel)) (fun _ h9 => h9) rfl (by decide +kernel) rfl rfl (Nat.le_of_ble_eq_true rfl) dX3_init_6 (fun H locs hP hD hS => ?_)
  have hP : va_P (dC, dI) vwCl [(h 101, .inr (3, [.int (nI 2), .int 0, .int 0, .int 0, .null, .null]))] H := hP
  have hD : va_D A0 [(h 101, .inr (3, [.int (nI 2), .int 0, .int 0, .int 0, .null, .null]))] := hD
  refine lv_aload_n hx hb dX3_init_9 rfl (lv_at hl 0 rfl) ?_
  refine lv_iconst (v := nI 2) hx hb dX3_init_10 (by decide) ?_
  refine va_put (D := (dC, dI)) (ci := 3) (v := .int (nI 2)) (ty := .int) (C := RX3) (T := TX3) (N := 6) hx hb hts hinX3 tyX3 tyX3_ok nmX3 hown hK hP hD hS 0 rfl rfl 1 (by decide) (hts (.fieldLink RX3 15 "MixedWords$Mix" "width" "I") (by decide +kernel)) (fun _ h9 => h9) rfl (by decide +kernel) rfl rfl (Nat.le_of_ble_eq_true rfl) dX3_init_11 (fun H locs hP hD hS => ?_)
  have hP : va_P (dC, dI) vwCl [(h 101, .inr (3, [.int (nI 2), .int (nI 2), .int 0, .int 0, .null, .null]))] H := hP
  have hD : va_D A0 [(h 101, .inr (3, [.int (nI 2), .int (nI 2), .int 0, .int 0, .null, .null]))] := hD
  refine lv_aload_n hx hb dX3_init_14 rfl (lv_at hl 0 rfl) ?_
  refine lv_iconst (v := nI 2) hx hb dX3_init_15 (by decide) ?_
  refine va_put (D := (dC, dI)) (ci := 3) (v := .int (nI 2)) (ty := .int) (C := RX3) (T := TX3) (N := 6) hx hb hts hinX3 tyX3 tyX3_ok nmX3 hown hK hP hD hS 0 rfl rfl 2 (by decide) (hts (.fieldLink RX3 18 "MixedWords$Mix" "letterCount" "I") (by decide +kernel)) (fun _ h9 => h9) rfl (by decide +kernel) rfl rfl (Nat.le_of_ble_eq_true rfl) dX3_init_16 (fun H locs hP hD hS => ?_)
  have hP : va_P (dC, dI) vwCl [(h 101, .inr (3, [.int (nI 2), .int (nI 2), .int (nI 2), .int 0, .null, .null]))] H := hP
  have hD : va_D A0 [(h 101, .inr (3, [.int (nI 2), .int (nI 2), .int (nI 2), .int 0, .null, .null]))] := hD
  refine lv_aload_n hx hb dX3_init_19 rfl (lv_at hl 0 rfl) ?_
  refine lv_iconst (v := nI 1) hx hb dX3_init_20 (by decide) ?_
  refine va_put (D := (dC, dI)) (ci := 3) (v := .int (nI 1)) (ty := .int) (C := RX3) (T := TX3) (N := 6) hx hb hts hinX3 tyX3 tyX3_ok nmX3 hown hK hP hD hS 0 rfl rfl 3 (by decide) (hts (.fieldLink RX3 21 "MixedWords$Mix" "stamp" "I") (by decide +kernel)) (fun _ h9 => h9) rfl (by decide +kernel) rfl rfl (Nat.le_of_ble_eq_true rfl) dX3_init_21 (fun H locs hP hD hS => ?_)
  have hP : va_P (dC, dI) vwCl [(h 101, .inr (3, [.int (nI 2), .int (nI 2), .int (nI 2), .int (nI 1), .null, .null]))] H := hP
  have hD : va_D A0 [(h 101, .inr (3, [.int (nI 2), .int (nI 2), .int (nI 2), .int (nI 1), .null, .null]))] := hD
  refine lv_aload_n hx hb dX3_init_24 rfl (lv_at hl 0 rfl) ?_
  refine lv_iconst (v := nI 5) hx hb dX3_init_25 (by decide) ?_
  refine lv_iconst (v := nI 4) hx hb dX3_init_26 (by decide) ?_
  refine xn_mna (N' := 5) (K' := 4) (ty := .int) (z := (4, .inl (fun _ => 0))) hx hb hown (hts (.classLink RX3 24 "[[I") (by decide +kernel)) hO.1 (hts (.arrayClass .int) (by decide +kernel)) (hK.2 0 _ rfl).2 hK hP hD hS hA 3 rfl (by decide) (by decide) (by decide) (by decide) (by decide) (by decide) (by decide) rfl rfl (Nat.le_of_ble_eq_true rfl) (Nat.le_of_ble_eq_true rfl) (fun _ => by simp [Jvm.Free.Multi.innerC, vp_cell, ← arrV_new, defaultValue]) dX3_init_27 (fun q27 r27 H hP hD hS => ?_)
  have hP : va_P (dC, dI) vwCl [(h 101, .inr (3, [.int (nI 2), .int (nI 2), .int (nI 2), .int (nI 1), .null, .null])), (q27, .inl (cs 3, 5, .inr (.inr (.inr (.inr (fun i => if i < 5 then some (r27 i) else none)))))), (r27 0, .inl (cs 0, 4, .inl (fun _ => 0))), (r27 1, .inl (cs 0, 4, .inl (fun _ => 0))), (r27 2, .inl (cs 0, 4, .inl (fun _ => 0))), (r27 3, .inl (cs 0, 4, .inl (fun _ => 0))), (r27 4, .inl (cs 0, 4, .inl (fun _ => 0)))] H := hP
  have hD : va_D A0 [(h 101, .inr (3, [.int (nI 2), .int (nI 2), .int (nI 2), .int (nI 1), .null, .null])), (q27, .inl (cs 3, 5, .inr (.inr (.inr (.inr (fun i => if i < 5 then some (r27 i) else none)))))), (r27 0, .inl (cs 0, 4, .inl (fun _ => 0))), (r27 1, .inl (cs 0, 4, .inl (fun _ => 0))), (r27 2, .inl (cs 0, 4, .inl (fun _ => 0))), (r27 3, .inl (cs 0, 4, .inl (fun _ => 0))), (r27 4, .inl (cs 0, 4, .inl (fun _ => 0)))] := hD
  refine va_putF (D := (dC, dI)) (ci := 3) (v := .ref q27) (ty := .array (.array .int)) (C := RX3) (T := TX3) (N := 6) hx hb hts hinX3 tyX3 tyX3_ok nmX3 hown hK hP hD hS 0 rfl rfl 4 (by decide) (hts (.fieldLink RX3 26 "MixedWords$Mix" "cells" "[[I") (by decide +kernel)) (fun _ h9 => h9) rfl hin rfl (by decide +kernel) rfl rfl (Nat.le_of_ble_eq_true rfl) dX3_init_31 (fun H locs hP hD hS => ?_)
  have hP : va_P (dC, dI) vwCl [(h 101, .inr (3, [.int (nI 2), .int (nI 2), .int (nI 2), .int (nI 1), .ref q27, .null])), (q27, .inl (cs 3, 5, .inr (.inr (.inr (.inr (fun i => if i < 5 then some (r27 i) else none)))))), (r27 0, .inl (cs 0, 4, .inl (fun _ => 0))), (r27 1, .inl (cs 0, 4, .inl (fun _ => 0))), (r27 2, .inl (cs 0, 4, .inl (fun _ => 0))), (r27 3, .inl (cs 0, 4, .inl (fun _ => 0))), (r27 4, .inl (cs 0, 4, .inl (fun _ => 0)))] H := hP
  have hD : va_D A0 [(h 101, .inr (3, [.int (nI 2), .int (nI 2), .int (nI 2), .int (nI 1), .ref q27, .null])), (q27, .inl (cs 3, 5, .inr (.inr (.inr (.inr (fun i => if i < 5 then some (r27 i) else none)))))), (r27 0, .inl (cs 0, 4, .inl (fun _ => 0))), (r27 1, .inl (cs 0, 4, .inl (fun _ => 0))), (r27 2, .inl (cs 0, 4, .inl (fun _ => 0))), (r27 3, .inl (cs 0, 4, .inl (fun _ => 0))), (r27 4, .inl (cs 0, 4, .inl (fun _ => 0)))] := hD
  refine lv_aload_n hx hb dX3_init_34 rfl (lv_at hl 0 rfl) ?_
  refine lv_iconst (v := nI 5) hx hb dX3_init_35 (by decide) ?_
  refine xn_newa (atype := .int) (ty := .int) (cA := cs 0) (n := nI 5) (a0 := (5, .inl (fun _ => 0))) (N' := 5) hx hb (hts (.arrayClass .int) (by decide +kernel)) rfl hK hP hD hS hA 0 rfl (fun _ => vp_cell_i _ _ _) (by decide) (by decide) (by decide) (Nat.le_of_ble_eq_true rfl) (Nat.le_of_ble_eq_true rfl) dX3_init_36 (fun q36 H hP hD hS => ?_)
  have hP : va_P (dC, dI) vwCl [(h 101, .inr (3, [.int (nI 2), .int (nI 2), .int (nI 2), .int (nI 1), .ref q27, .null])), (q27, .inl (cs 3, 5, .inr (.inr (.inr (.inr (fun i => if i < 5 then some (r27 i) else none)))))), (r27 0, .inl (cs 0, 4, .inl (fun _ => 0))), (r27 1, .inl (cs 0, 4, .inl (fun _ => 0))), (r27 2, .inl (cs 0, 4, .inl (fun _ => 0))), (r27 3, .inl (cs 0, 4, .inl (fun _ => 0))), (r27 4, .inl (cs 0, 4, .inl (fun _ => 0))), (q36, .inl (cs 0, 5, .inl (fun _ => 0)))] H := hP
  have hD : va_D A0 [(h 101, .inr (3, [.int (nI 2), .int (nI 2), .int (nI 2), .int (nI 1), .ref q27, .null])), (q27, .inl (cs 3, 5, .inr (.inr (.inr (.inr (fun i => if i < 5 then some (r27 i) else none)))))), (r27 0, .inl (cs 0, 4, .inl (fun _ => 0))), (r27 1, .inl (cs 0, 4, .inl (fun _ => 0))), (r27 2, .inl (cs 0, 4, .inl (fun _ => 0))), (r27 3, .inl (cs 0, 4, .inl (fun _ => 0))), (r27 4, .inl (cs 0, 4, .inl (fun _ => 0))), (q36, .inl (cs 0, 5, .inl (fun _ => 0)))] := hD
  refine va_putF (D := (dC, dI)) (ci := 3) (v := .ref q36) (ty := .array .int) (C := RX3) (T := TX3) (N := 6) hx hb hts hinX3 tyX3 tyX3_ok nmX3 hown hK hP hD hS 0 rfl rfl 5 (by decide) (hts (.fieldLink RX3 29 "MixedWords$Mix" "heard" "[I") (by decide +kernel)) (fun _ h9 => h9) rfl hin rfl (by decide +kernel) rfl rfl (Nat.le_of_ble_eq_true rfl) dX3_init_38 (fun H locs hP hD hS => ?_)
  have hP : va_P (dC, dI) vwCl [(h 101, .inr (3, [.int (nI 2), .int (nI 2), .int (nI 2), .int (nI 1), .ref q27, .ref q36])), (q27, .inl (cs 3, 5, .inr (.inr (.inr (.inr (fun i => if i < 5 then some (r27 i) else none)))))), (r27 0, .inl (cs 0, 4, .inl (fun _ => 0))), (r27 1, .inl (cs 0, 4, .inl (fun _ => 0))), (r27 2, .inl (cs 0, 4, .inl (fun _ => 0))), (r27 3, .inl (cs 0, 4, .inl (fun _ => 0))), (r27 4, .inl (cs 0, 4, .inl (fun _ => 0))), (q36, .inl (cs 0, 5, .inl (fun _ => 0)))] H := hP
  have hD : va_D A0 [(h 101, .inr (3, [.int (nI 2), .int (nI 2), .int (nI 2), .int (nI 1), .ref q27, .ref q36])), (q27, .inl (cs 3, 5, .inr (.inr (.inr (.inr (fun i => if i < 5 then some (r27 i) else none)))))), (r27 0, .inl (cs 0, 4, .inl (fun _ => 0))), (r27 1, .inl (cs 0, 4, .inl (fun _ => 0))), (r27 2, .inl (cs 0, 4, .inl (fun _ => 0))), (r27 3, .inl (cs 0, 4, .inl (fun _ => 0))), (r27 4, .inl (cs 0, 4, .inl (fun _ => 0))), (q36, .inl (cs 0, 5, .inl (fun _ => 0)))] := hD
  rw [rowsF (g := (adr [(130, q27), (131, (r27 0)), (132, (r27 1)), (133, (r27 2)), (134, (r27 3)), (135, (r27 4)), (136, q36)])) (r := r27) (n := 5) (b := 131) (fun i hi => by rcases (show i = 0 ∨ i = 1 ∨ i = 2 ∨ i = 3 ∨ i = 4 by omega) with rfl | rfl | rfl | rfl | rfl <;> rfl)] at hP hD
  have hP := xP_sub (wc := [(h 101, .inr (3, [.int (fI 120), .int (fI 121), .int (fI 122), .int (fI 123), .ref ((adr [(130, q27), (131, (r27 0)), (132, (r27 1)), (133, (r27 2)), (134, (r27 3)), (135, (r27 4)), (136, q36)]) 130), .ref ((adr [(130, q27), (131, (r27 0)), (132, (r27 1)), (133, (r27 2)), (134, (r27 3)), (135, (r27 4)), (136, q36)]) 136)])), ((adr [(130, q27), (131, (r27 0)), (132, (r27 1)), (133, (r27 2)), (134, (r27 3)), (135, (r27 4)), (136, q36)]) 130, .inl (cs 3, 5, .inr (.inr (.inr (.inr (fun i => if i < 5 then some ((adr [(130, q27), (131, (r27 0)), (132, (r27 1)), (133, (r27 2)), (134, (r27 3)), (135, (r27 4)), (136, q36)]) (i + 131)) else none)))))), ((adr [(130, q27), (131, (r27 0)), (132, (r27 1)), (133, (r27 2)), (134, (r27 3)), (135, (r27 4)), (136, q36)]) 131, .inl (cs 0, 4, .inl ((fG 0) 0))), ((adr [(130, q27), (131, (r27 0)), (132, (r27 1)), (133, (r27 2)), (134, (r27 3)), (135, (r27 4)), (136, q36)]) 132, .inl (cs 0, 4, .inl ((fG 0) 1))), ((adr [(130, q27), (131, (r27 0)), (132, (r27 1)), (133, (r27 2)), (134, (r27 3)), (135, (r27 4)), (136, q36)]) 133, .inl (cs 0, 4, .inl ((fG 0) 2))), ((adr [(130, q27), (131, (r27 0)), (132, (r27 1)), (133, (r27 2)), (134, (r27 3)), (135, (r27 4)), (136, q36)]) 134, .inl (cs 0, 4, .inl ((fG 0) 3))), ((adr [(130, q27), (131, (r27 0)), (132, (r27 1)), (133, (r27 2)), (134, (r27 3)), (135, (r27 4)), (136, q36)]) 135, .inl (cs 0, 4, .inl ((fG 0) 4))), ((adr [(130, q27), (131, (r27 0)), (132, (r27 1)), (133, (r27 2)), (134, (r27 3)), (135, (r27 4)), (136, q36)]) 136, .inl (cs 0, 5, .inl (fA 136)))]) hP [0, 1, 2, 3, 4, 5, 6, 7] rfl
  have hD : va_D A0 [(h 101, .inr (3, [.int (fI 120), .int (fI 121), .int (fI 122), .int (fI 123), .ref ((adr [(130, q27), (131, (r27 0)), (132, (r27 1)), (133, (r27 2)), (134, (r27 3)), (135, (r27 4)), (136, q36)]) 130), .ref ((adr [(130, q27), (131, (r27 0)), (132, (r27 1)), (133, (r27 2)), (134, (r27 3)), (135, (r27 4)), (136, q36)]) 136)])), ((adr [(130, q27), (131, (r27 0)), (132, (r27 1)), (133, (r27 2)), (134, (r27 3)), (135, (r27 4)), (136, q36)]) 130, .inl (cs 3, 5, .inr (.inr (.inr (.inr (fun i => if i < 5 then some ((adr [(130, q27), (131, (r27 0)), (132, (r27 1)), (133, (r27 2)), (134, (r27 3)), (135, (r27 4)), (136, q36)]) (i + 131)) else none)))))), ((adr [(130, q27), (131, (r27 0)), (132, (r27 1)), (133, (r27 2)), (134, (r27 3)), (135, (r27 4)), (136, q36)]) 131, .inl (cs 0, 4, .inl ((fG 0) 0))), ((adr [(130, q27), (131, (r27 0)), (132, (r27 1)), (133, (r27 2)), (134, (r27 3)), (135, (r27 4)), (136, q36)]) 132, .inl (cs 0, 4, .inl ((fG 0) 1))), ((adr [(130, q27), (131, (r27 0)), (132, (r27 1)), (133, (r27 2)), (134, (r27 3)), (135, (r27 4)), (136, q36)]) 133, .inl (cs 0, 4, .inl ((fG 0) 2))), ((adr [(130, q27), (131, (r27 0)), (132, (r27 1)), (133, (r27 2)), (134, (r27 3)), (135, (r27 4)), (136, q36)]) 134, .inl (cs 0, 4, .inl ((fG 0) 3))), ((adr [(130, q27), (131, (r27 0)), (132, (r27 1)), (133, (r27 2)), (134, (r27 3)), (135, (r27 4)), (136, q36)]) 135, .inl (cs 0, 4, .inl ((fG 0) 4))), ((adr [(130, q27), (131, (r27 0)), (132, (r27 1)), (133, (r27 2)), (134, (r27 3)), (135, (r27 4)), (136, q36)]) 136, .inl (cs 0, 5, .inl (fA 136)))] := hD.sub [0, 1, 2, 3, 4, 5, 6, 7] (by decide +kernel) rfl
  exact xr_v hx hb hr hlocks hK hS dX3_init_41 (adr [(130, q27), (131, (r27 0)), (132, (r27 1)), (133, (r27 2)), (134, (r27 3)), (135, (r27 4)), (136, q36)]) trivial hP hD
theorem bdX0_init_0 : (decode cX0_init 0 = .ok (.aload_n 0, 1)) ∧ (decode cX0_init 1 = .ok (.invokespecial 1, 3)) ∧ (decode cX0_init 4 = .ok (.aload_n 0, 1)) ∧ (decode cX0_init 5 = .ok (.bipush 40, 2)) ∧ (decode cX0_init 7 = .ok (.newarray .int, 2)) ∧ (decode cX0_init 9 = .ok (.putfield 9, 3)) ∧ (decode cX0_init 12 = .ok (.aload_n 0, 1)) ∧ (decode cX0_init 13 = .ok (.bipush 40, 2)) ∧ (decode cX0_init 15 = .ok (.newarray .int, 2)) ∧ (decode cX0_init 17 = .ok (.putfield 13, 3)) ∧ (decode cX0_init 20 = .ok (.aload_n 0, 1)) ∧ (decode cX0_init 21 = .ok (.bipush 40, 2)) ∧ (decode cX0_init 23 = .ok (.newarray .int, 2)) ∧ (decode cX0_init 25 = .ok (.putfield 16, 3)) ∧ (decode cX0_init 28 = .ok (.aload_n 0, 1)) ∧ (decode cX0_init 29 = .ok (.bipush 40, 2)) := by decide +kernel
theorem dX0_init_0 : decode cX0_init 0 = .ok (.aload_n 0, 1) := bdX0_init_0.1
theorem dX0_init_1 : decode cX0_init 1 = .ok (.invokespecial 1, 3) := bdX0_init_0.2.1
theorem dX0_init_4 : decode cX0_init 4 = .ok (.aload_n 0, 1) := bdX0_init_0.2.2.1
theorem dX0_init_5 : decode cX0_init 5 = .ok (.bipush 40, 2) := bdX0_init_0.2.2.2.1
theorem dX0_init_7 : decode cX0_init 7 = .ok (.newarray .int, 2) := bdX0_init_0.2.2.2.2.1
theorem dX0_init_9 : decode cX0_init 9 = .ok (.putfield 9, 3) := bdX0_init_0.2.2.2.2.2.1
theorem dX0_init_12 : decode cX0_init 12 = .ok (.aload_n 0, 1) := bdX0_init_0.2.2.2.2.2.2.1
theorem dX0_init_13 : decode cX0_init 13 = .ok (.bipush 40, 2) := bdX0_init_0.2.2.2.2.2.2.2.1
theorem dX0_init_15 : decode cX0_init 15 = .ok (.newarray .int, 2) := bdX0_init_0.2.2.2.2.2.2.2.2.1
theorem dX0_init_17 : decode cX0_init 17 = .ok (.putfield 13, 3) := bdX0_init_0.2.2.2.2.2.2.2.2.2.1
theorem dX0_init_20 : decode cX0_init 20 = .ok (.aload_n 0, 1) := bdX0_init_0.2.2.2.2.2.2.2.2.2.2.1
theorem dX0_init_21 : decode cX0_init 21 = .ok (.bipush 40, 2) := bdX0_init_0.2.2.2.2.2.2.2.2.2.2.2.1
theorem dX0_init_23 : decode cX0_init 23 = .ok (.newarray .int, 2) := bdX0_init_0.2.2.2.2.2.2.2.2.2.2.2.2.1
theorem dX0_init_25 : decode cX0_init 25 = .ok (.putfield 16, 3) := bdX0_init_0.2.2.2.2.2.2.2.2.2.2.2.2.2.1
theorem dX0_init_28 : decode cX0_init 28 = .ok (.aload_n 0, 1) := bdX0_init_0.2.2.2.2.2.2.2.2.2.2.2.2.2.2.1
theorem dX0_init_29 : decode cX0_init 29 = .ok (.bipush 40, 2) := bdX0_init_0.2.2.2.2.2.2.2.2.2.2.2.2.2.2.2
theorem bdX0_init_31 : (decode cX0_init 31 = .ok (.newarray .int, 2)) ∧ (decode cX0_init 33 = .ok (.putfield 19, 3)) ∧ (decode cX0_init 36 = .ok (.aload_n 0, 1)) ∧ (decode cX0_init 37 = .ok (.iconst 0, 1)) ∧ (decode cX0_init 38 = .ok (.putfield 22, 3)) ∧ (decode cX0_init 41 = .ok (.aload_n 0, 1)) ∧ (decode cX0_init 42 = .ok (.iconst 0, 1)) ∧ (decode cX0_init 43 = .ok (.putfield 26, 3)) ∧ (decode cX0_init 46 = .ok (.aload_n 0, 1)) ∧ (decode cX0_init 47 = .ok (.iconst 0, 1)) ∧ (decode cX0_init 48 = .ok (.putfield 29, 3)) ∧ (decode cX0_init 51 = .ok (.aload_n 0, 1)) ∧ (decode cX0_init 52 = .ok (.aload_n 1, 1)) ∧ (decode cX0_init 53 = .ok (.putfield 32, 3)) ∧ (decode cX0_init 56 = .ok (.return_, 1)) := by decide +kernel
theorem dX0_init_31 : decode cX0_init 31 = .ok (.newarray .int, 2) := bdX0_init_31.1
theorem dX0_init_33 : decode cX0_init 33 = .ok (.putfield 19, 3) := bdX0_init_31.2.1
theorem dX0_init_36 : decode cX0_init 36 = .ok (.aload_n 0, 1) := bdX0_init_31.2.2.1
theorem dX0_init_37 : decode cX0_init 37 = .ok (.iconst 0, 1) := bdX0_init_31.2.2.2.1
theorem dX0_init_38 : decode cX0_init 38 = .ok (.putfield 22, 3) := bdX0_init_31.2.2.2.2.1
theorem dX0_init_41 : decode cX0_init 41 = .ok (.aload_n 0, 1) := bdX0_init_31.2.2.2.2.2.1
theorem dX0_init_42 : decode cX0_init 42 = .ok (.iconst 0, 1) := bdX0_init_31.2.2.2.2.2.2.1
theorem dX0_init_43 : decode cX0_init 43 = .ok (.putfield 26, 3) := bdX0_init_31.2.2.2.2.2.2.2.1
theorem dX0_init_46 : decode cX0_init 46 = .ok (.aload_n 0, 1) := bdX0_init_31.2.2.2.2.2.2.2.2.1
theorem dX0_init_47 : decode cX0_init 47 = .ok (.iconst 0, 1) := bdX0_init_31.2.2.2.2.2.2.2.2.2.1
theorem dX0_init_48 : decode cX0_init 48 = .ok (.putfield 29, 3) := bdX0_init_31.2.2.2.2.2.2.2.2.2.2.1
theorem dX0_init_51 : decode cX0_init 51 = .ok (.aload_n 0, 1) := bdX0_init_31.2.2.2.2.2.2.2.2.2.2.2.1
theorem dX0_init_52 : decode cX0_init 52 = .ok (.aload_n 1, 1) := bdX0_init_31.2.2.2.2.2.2.2.2.2.2.2.2.1
theorem dX0_init_53 : decode cX0_init 53 = .ok (.putfield 32, 3) := bdX0_init_31.2.2.2.2.2.2.2.2.2.2.2.2.2.1
theorem dX0_init_56 : decode cX0_init 56 = .ok (.return_, 1) := bdX0_init_31.2.2.2.2.2.2.2.2.2.2.2.2.2.2
set_option maxHeartbeats 4000000 in
set_option maxRecDepth 100000 in
theorem k_X0_init (l : Launch) (dC : Nat → ClassId) (dI : Nat → Nat → Nat) (h : Nat → Nat) (cs : Nat → ClassId) (sz : Nat) : Met l yX0_init wsX0_init ({ frames := 1, cells := 4, slots := 160, locals := 12 }) (va_Pc [.ref (h 102), .ref (h 101)] (xPreI (dC, dI) [(h 102, .inr (0, [.null, .null, .null, .null, .null, .int 0, .int 0, .int 0]))] (tysA cs) sz)) (va_Qv (fun u : Nat → Nat => True) (xB (dC, dI) (tysA cs) (va_A [(h 102, .inr (0, [.null, .null, .null, .null, .null, .int 0, .int 0, .int 0]))] sz) (fun u : Nat → Nat => [(h 102, .inr (0, [.ref (h 101), .ref (u 140), .ref (u 141), .ref (u 142), .ref (u 143), .int (fI 144), .int (fI 145), .int (fI 146)])), (u 140, .inl (cs 0, 40, .inl (fA 140))), (u 141, .inl (cs 0, 40, .inl (fA 141))), (u 142, .inl (cs 0, 40, .inl (fA 142))), (u 143, .inl (cs 0, 40, .inl (fA 143)))])) (va_A [(h 102, .inr (0, [.null, .null, .null, .null, .null, .int 0, .int 0, .int 0]))] sz)) 4 160 (va_A [(h 102, .inr (0, [.null, .null, .null, .null, .null, .int 0, .int 0, .int 0]))] sz) := by
  refine Met.ofW (cc := cX0_init) (maxL := 2) (ret := none) (by decide) rfl ?_
  intro p e s m args below meth c s₁ B hml hv
  obtain ⟨rfl, ⟨hsz, hP, hK, hD0, hN⟩, hO⟩ := hv
  have hx := B.exec
  have hb := B.bytes
  have hr := B.returns
  have hts := atoms_spec (ws := wsX0_init) B.pre
  have hown : s.vm.findClass RX0 = some m.cls := findClass_of_methodNamed B.named
  have hlocks := B.notSynchronized
  subst hsz
  have hD := hD0.self (sz := s.heap.size)
  generalize hAe : va_A [(h 102, .inr (0, [.null, .null, .null, .null, .null, .int 0, .int 0, .int 0]))] s.heap.size = A0 at hD ⊢
  have hA : ∀ q : Nat, s.heap.size ≤ q → A0 q := fun q h => by rw [← hAe]; exact Or.inr h
  have hin : meth.name = "<init>" := (name_of_methodNamed B.named B.method).1
  have hl := lv_entry ([.ref (h 102), .ref (h 101)]) (n := 2) (Nat.le_of_ble_eq_true rfl)
  rw [lg_entry_eq]
  generalize (lg_sl ([.ref (h 102), .ref (h 101)]) ++ List.replicate (2 - (lg_sl ([.ref (h 102), .ref (h 101)])).length) Slot.unset).toArray = ls at hl ⊢
  have hl : lv_has ls 2 [(0, .ref (h 102)), (1, .ref (h 101))] := hl
  generalize hH : s.heap = H at hP ⊢
  have hS : va_S A0 s.heap H [] := by rw [← hH]; exact va_S.rf
  have hinX0 : ∀ w ∈ wsX00, w ∈ wsX0_init := by decide +kernel
  refine lv_aload_n hx hb dX0_init_0 rfl (lv_at hl 0 rfl) ?_
  refine W.objInit hx hb hown (hts (.methodLink RX0 1 objectInit) (by decide +kernel)) (hts (.instanceMethod objectInit) (by decide +kernel)) (hts _ (by decide +kernel : Cond.code objectInit ⟨#[0xb1]⟩ 1 none ∈ wsX0_init)) rfl (by rw [hml]; exact hl.1) rfl dX0_init_1 (Nat.le_of_ble_eq_true rfl) (Nat.le_of_ble_eq_true rfl) ?_
  refine W.eq (g2 := F0 m 4 ls []) rfl ?_
  refine lv_aload_n hx hb dX0_init_4 rfl (lv_at hl 0 rfl) ?_
  refine lv_bipush (v := nI 40) hx hb dX0_init_5 (by decide) ?_
  refine xn_newa (atype := .int) (ty := .int) (cA := cs 0) (n := nI 40) (a0 := (40, .inl (fun _ => 0))) (N' := 40) hx hb (hts (.arrayClass .int) (by decide +kernel)) rfl hK hP hD hS hA 0 rfl (fun _ => vp_cell_i _ _ _) (by decide) (by decide) (by decide) (Nat.le_of_ble_eq_true rfl) (Nat.le_of_ble_eq_true rfl) dX0_init_7 (fun q7 H hP hD hS => ?_)
  have hP : va_P (dC, dI) vwCl [(h 102, .inr (0, [.null, .null, .null, .null, .null, .int 0, .int 0, .int 0])), (q7, .inl (cs 0, 40, .inl (fun _ => 0)))] H := hP
  have hD : va_D A0 [(h 102, .inr (0, [.null, .null, .null, .null, .null, .int 0, .int 0, .int 0])), (q7, .inl (cs 0, 40, .inl (fun _ => 0)))] := hD
  refine va_putF (D := (dC, dI)) (ci := 0) (v := .ref q7) (ty := .array .int) (C := RX0) (T := TX0) (N := 8) hx hb hts hinX0 tyX0 tyX0_ok nmX0 hown hK hP hD hS 0 rfl rfl 1 (by decide) (hts (.fieldLink RX0 9 "MixedWords$Acts" "rowOf" "[I") (by decide +kernel)) (fun _ h9 => h9) rfl hin rfl (by decide +kernel) rfl rfl (Nat.le_of_ble_eq_true rfl) dX0_init_9 (fun H locs hP hD hS => ?_)
  have hP : va_P (dC, dI) vwCl [(h 102, .inr (0, [.null, .ref q7, .null, .null, .null, .int 0, .int 0, .int 0])), (q7, .inl (cs 0, 40, .inl (fun _ => 0)))] H := hP
  have hD : va_D A0 [(h 102, .inr (0, [.null, .ref q7, .null, .null, .null, .int 0, .int 0, .int 0])), (q7, .inl (cs 0, 40, .inl (fun _ => 0)))] := hD
  refine lv_aload_n hx hb dX0_init_12 rfl (lv_at hl 0 rfl) ?_
  refine lv_bipush (v := nI 40) hx hb dX0_init_13 (by decide) ?_
  refine xn_newa (atype := .int) (ty := .int) (cA := cs 0) (n := nI 40) (a0 := (40, .inl (fun _ => 0))) (N' := 40) hx hb (hts (.arrayClass .int) (by decide +kernel)) rfl hK hP hD hS hA 0 rfl (fun _ => vp_cell_i _ _ _) (by decide) (by decide) (by decide) (Nat.le_of_ble_eq_true rfl) (Nat.le_of_ble_eq_true rfl) dX0_init_15 (fun q15 H hP hD hS => ?_)
  have hP : va_P (dC, dI) vwCl [(h 102, .inr (0, [.null, .ref q7, .null, .null, .null, .int 0, .int 0, .int 0])), (q7, .inl (cs 0, 40, .inl (fun _ => 0))), (q15, .inl (cs 0, 40, .inl (fun _ => 0)))] H := hP
  have hD : va_D A0 [(h 102, .inr (0, [.null, .ref q7, .null, .null, .null, .int 0, .int 0, .int 0])), (q7, .inl (cs 0, 40, .inl (fun _ => 0))), (q15, .inl (cs 0, 40, .inl (fun _ => 0)))] := hD
  refine va_putF (D := (dC, dI)) (ci := 0) (v := .ref q15) (ty := .array .int) (C := RX0) (T := TX0) (N := 8) hx hb hts hinX0 tyX0 tyX0_ok nmX0 hown hK hP hD hS 0 rfl rfl 2 (by decide) (hts (.fieldLink RX0 13 "MixedWords$Acts" "columnOf" "[I") (by decide +kernel)) (fun _ h9 => h9) rfl hin rfl (by decide +kernel) rfl rfl (Nat.le_of_ble_eq_true rfl) dX0_init_17 (fun H locs hP hD hS => ?_)
  have hP : va_P (dC, dI) vwCl [(h 102, .inr (0, [.null, .ref q7, .ref q15, .null, .null, .int 0, .int 0, .int 0])), (q7, .inl (cs 0, 40, .inl (fun _ => 0))), (q15, .inl (cs 0, 40, .inl (fun _ => 0)))] H := hP
  have hD : va_D A0 [(h 102, .inr (0, [.null, .ref q7, .ref q15, .null, .null, .int 0, .int 0, .int 0])), (q7, .inl (cs 0, 40, .inl (fun _ => 0))), (q15, .inl (cs 0, 40, .inl (fun _ => 0)))] := hD
  refine lv_aload_n hx hb dX0_init_20 rfl (lv_at hl 0 rfl) ?_
  refine lv_bipush (v := nI 40) hx hb dX0_init_21 (by decide) ?_
  refine xn_newa (atype := .int) (ty := .int) (cA := cs 0) (n := nI 40) (a0 := (40, .inl (fun _ => 0))) (N' := 40) hx hb (hts (.arrayClass .int) (by decide +kernel)) rfl hK hP hD hS hA 0 rfl (fun _ => vp_cell_i _ _ _) (by decide) (by decide) (by decide) (Nat.le_of_ble_eq_true rfl) (Nat.le_of_ble_eq_true rfl) dX0_init_23 (fun q23 H hP hD hS => ?_)
  have hP : va_P (dC, dI) vwCl [(h 102, .inr (0, [.null, .ref q7, .ref q15, .null, .null, .int 0, .int 0, .int 0])), (q7, .inl (cs 0, 40, .inl (fun _ => 0))), (q15, .inl (cs 0, 40, .inl (fun _ => 0))), (q23, .inl (cs 0, 40, .inl (fun _ => 0)))] H := hP
  have hD : va_D A0 [(h 102, .inr (0, [.null, .ref q7, .ref q15, .null, .null, .int 0, .int 0, .int 0])), (q7, .inl (cs 0, 40, .inl (fun _ => 0))), (q15, .inl (cs 0, 40, .inl (fun _ => 0))), (q23, .inl (cs 0, 40, .inl (fun _ => 0)))] := hD
  refine va_putF (D := (dC, dI)) (ci := 0) (v := .ref q23) (ty := .array .int) (C := RX0) (T := TX0) (N := 8) hx hb hts hinX0 tyX0 tyX0_ok nmX0 hown hK hP hD hS 0 rfl rfl 3 (by decide) (hts (.fieldLink RX0 16 "MixedWords$Acts" "before" "[I") (by decide +kernel)) (fun _ h9 => h9) rfl hin rfl (by decide +kernel) rfl rfl (Nat.le_of_ble_eq_true rfl) dX0_init_25 (fun H locs hP hD hS => ?_)
  have hP : va_P (dC, dI) vwCl [(h 102, .inr (0, [.null, .ref q7, .ref q15, .ref q23, .null, .int 0, .int 0, .int 0])), (q7, .inl (cs 0, 40, .inl (fun _ => 0))), (q15, .inl (cs 0, 40, .inl (fun _ => 0))), (q23, .inl (cs 0, 40, .inl (fun _ => 0)))] H := hP
  have hD : va_D A0 [(h 102, .inr (0, [.null, .ref q7, .ref q15, .ref q23, .null, .int 0, .int 0, .int 0])), (q7, .inl (cs 0, 40, .inl (fun _ => 0))), (q15, .inl (cs 0, 40, .inl (fun _ => 0))), (q23, .inl (cs 0, 40, .inl (fun _ => 0)))] := hD
  refine lv_aload_n hx hb dX0_init_28 rfl (lv_at hl 0 rfl) ?_
  refine lv_bipush (v := nI 40) hx hb dX0_init_29 (by decide) ?_
  refine xn_newa (atype := .int) (ty := .int) (cA := cs 0) (n := nI 40) (a0 := (40, .inl (fun _ => 0))) (N' := 40) hx hb (hts (.arrayClass .int) (by decide +kernel)) rfl hK hP hD hS hA 0 rfl (fun _ => vp_cell_i _ _ _) (by decide) (by decide) (by decide) (Nat.le_of_ble_eq_true rfl) (Nat.le_of_ble_eq_true rfl) dX0_init_31 (fun q31 H hP hD hS => ?_)
  have hP : va_P (dC, dI) vwCl [(h 102, .inr (0, [.null, .ref q7, .ref q15, .ref q23, .null, .int 0, .int 0, .int 0])), (q7, .inl (cs 0, 40, .inl (fun _ => 0))), (q15, .inl (cs 0, 40, .inl (fun _ => 0))), (q23, .inl (cs 0, 40, .inl (fun _ => 0))), (q31, .inl (cs 0, 40, .inl (fun _ => 0)))] H := hP
  have hD : va_D A0 [(h 102, .inr (0, [.null, .ref q7, .ref q15, .ref q23, .null, .int 0, .int 0, .int 0])), (q7, .inl (cs 0, 40, .inl (fun _ => 0))), (q15, .inl (cs 0, 40, .inl (fun _ => 0))), (q23, .inl (cs 0, 40, .inl (fun _ => 0))), (q31, .inl (cs 0, 40, .inl (fun _ => 0)))] := hD
  refine va_putF (D := (dC, dI)) (ci := 0) (v := .ref q31) (ty := .array .int) (C := RX0) (T := TX0) (N := 8) hx hb hts hinX0 tyX0 tyX0_ok nmX0 hown hK hP hD hS 0 rfl rfl 4 (by decide) (hts (.fieldLink RX0 19 "MixedWords$Acts" "after" "[I") (by decide +kernel)) (fun _ h9 => h9) rfl hin rfl (by decide +kernel) rfl rfl (Nat.le_of_ble_eq_true rfl) dX0_init_33 (fun H locs hP hD hS => ?_)
  have hP : va_P (dC, dI) vwCl [(h 102, .inr (0, [.null, .ref q7, .ref q15, .ref q23, .ref q31, .int 0, .int 0, .int 0])), (q7, .inl (cs 0, 40, .inl (fun _ => 0))), (q15, .inl (cs 0, 40, .inl (fun _ => 0))), (q23, .inl (cs 0, 40, .inl (fun _ => 0))), (q31, .inl (cs 0, 40, .inl (fun _ => 0)))] H := hP
  have hD : va_D A0 [(h 102, .inr (0, [.null, .ref q7, .ref q15, .ref q23, .ref q31, .int 0, .int 0, .int 0])), (q7, .inl (cs 0, 40, .inl (fun _ => 0))), (q15, .inl (cs 0, 40, .inl (fun _ => 0))), (q23, .inl (cs 0, 40, .inl (fun _ => 0))), (q31, .inl (cs 0, 40, .inl (fun _ => 0)))] := hD
  refine lv_aload_n hx hb dX0_init_36 rfl (lv_at hl 0 rfl) ?_
  refine lv_iconst (v := nI 0) hx hb dX0_init_37 (by decide) ?_
  refine va_put (D := (dC, dI)) (ci := 0) (v := .int (nI 0)) (ty := .int) (C := RX0) (T := TX0) (N := 8) hx hb hts hinX0 tyX0 tyX0_ok nmX0 hown hK hP hD hS 0 rfl rfl 5 (by decide) (hts (.fieldLink RX0 22 "MixedWords$Acts" "oldest" "I") (by decide +kernel)) (fun _ h9 => h9) rfl (by decide +kernel) rfl rfl (Nat.le_of_ble_eq_true rfl) dX0_init_38 (fun H locs hP hD hS => ?_)
  have hP : va_P (dC, dI) vwCl [(h 102, .inr (0, [.null, .ref q7, .ref q15, .ref q23, .ref q31, .int (nI 0), .int 0, .int 0])), (q7, .inl (cs 0, 40, .inl (fun _ => 0))), (q15, .inl (cs 0, 40, .inl (fun _ => 0))), (q23, .inl (cs 0, 40, .inl (fun _ => 0))), (q31, .inl (cs 0, 40, .inl (fun _ => 0)))] H := hP
  have hD : va_D A0 [(h 102, .inr (0, [.null, .ref q7, .ref q15, .ref q23, .ref q31, .int (nI 0), .int 0, .int 0])), (q7, .inl (cs 0, 40, .inl (fun _ => 0))), (q15, .inl (cs 0, 40, .inl (fun _ => 0))), (q23, .inl (cs 0, 40, .inl (fun _ => 0))), (q31, .inl (cs 0, 40, .inl (fun _ => 0)))] := hD
  refine lv_aload_n hx hb dX0_init_41 rfl (lv_at hl 0 rfl) ?_
  refine lv_iconst (v := nI 0) hx hb dX0_init_42 (by decide) ?_
  refine va_put (D := (dC, dI)) (ci := 0) (v := .int (nI 0)) (ty := .int) (C := RX0) (T := TX0) (N := 8) hx hb hts hinX0 tyX0 tyX0_ok nmX0 hown hK hP hD hS 0 rfl rfl 6 (by decide) (hts (.fieldLink RX0 26 "MixedWords$Acts" "back" "I") (by decide +kernel)) (fun _ h9 => h9) rfl (by decide +kernel) rfl rfl (Nat.le_of_ble_eq_true rfl) dX0_init_43 (fun H locs hP hD hS => ?_)
  have hP : va_P (dC, dI) vwCl [(h 102, .inr (0, [.null, .ref q7, .ref q15, .ref q23, .ref q31, .int (nI 0), .int (nI 0), .int 0])), (q7, .inl (cs 0, 40, .inl (fun _ => 0))), (q15, .inl (cs 0, 40, .inl (fun _ => 0))), (q23, .inl (cs 0, 40, .inl (fun _ => 0))), (q31, .inl (cs 0, 40, .inl (fun _ => 0)))] H := hP
  have hD : va_D A0 [(h 102, .inr (0, [.null, .ref q7, .ref q15, .ref q23, .ref q31, .int (nI 0), .int (nI 0), .int 0])), (q7, .inl (cs 0, 40, .inl (fun _ => 0))), (q15, .inl (cs 0, 40, .inl (fun _ => 0))), (q23, .inl (cs 0, 40, .inl (fun _ => 0))), (q31, .inl (cs 0, 40, .inl (fun _ => 0)))] := hD
  refine lv_aload_n hx hb dX0_init_46 rfl (lv_at hl 0 rfl) ?_
  refine lv_iconst (v := nI 0) hx hb dX0_init_47 (by decide) ?_
  refine va_put (D := (dC, dI)) (ci := 0) (v := .int (nI 0)) (ty := .int) (C := RX0) (T := TX0) (N := 8) hx hb hts hinX0 tyX0 tyX0_ok nmX0 hown hK hP hD hS 0 rfl rfl 7 (by decide) (hts (.fieldLink RX0 29 "MixedWords$Acts" "on" "I") (by decide +kernel)) (fun _ h9 => h9) rfl (by decide +kernel) rfl rfl (Nat.le_of_ble_eq_true rfl) dX0_init_48 (fun H locs hP hD hS => ?_)
  have hP : va_P (dC, dI) vwCl [(h 102, .inr (0, [.null, .ref q7, .ref q15, .ref q23, .ref q31, .int (nI 0), .int (nI 0), .int (nI 0)])), (q7, .inl (cs 0, 40, .inl (fun _ => 0))), (q15, .inl (cs 0, 40, .inl (fun _ => 0))), (q23, .inl (cs 0, 40, .inl (fun _ => 0))), (q31, .inl (cs 0, 40, .inl (fun _ => 0)))] H := hP
  have hD : va_D A0 [(h 102, .inr (0, [.null, .ref q7, .ref q15, .ref q23, .ref q31, .int (nI 0), .int (nI 0), .int (nI 0)])), (q7, .inl (cs 0, 40, .inl (fun _ => 0))), (q15, .inl (cs 0, 40, .inl (fun _ => 0))), (q23, .inl (cs 0, 40, .inl (fun _ => 0))), (q31, .inl (cs 0, 40, .inl (fun _ => 0)))] := hD
  refine lv_aload_n hx hb dX0_init_51 rfl (lv_at hl 0 rfl) ?_
  refine lv_aload_n hx hb dX0_init_52 rfl (lv_at hl 1 rfl) ?_
  refine va_putF (D := (dC, dI)) (ci := 0) (v := .ref (h 101)) (ty := .object "MixedWords$Mix") (C := RX0) (T := TX0) (N := 8) hx hb hts hinX0 tyX0 tyX0_ok nmX0 hown hK hP hD hS 0 rfl rfl 0 (by decide) (hts (.fieldLink RX0 32 "MixedWords$Acts" "mix" "LMixedWords$Mix;") (by decide +kernel)) (fun _ h9 => h9) rfl hin rfl (by decide +kernel) rfl rfl (Nat.le_of_ble_eq_true rfl) dX0_init_53 (fun H locs hP hD hS => ?_)
  have hP : va_P (dC, dI) vwCl [(h 102, .inr (0, [.ref (h 101), .ref q7, .ref q15, .ref q23, .ref q31, .int (nI 0), .int (nI 0), .int (nI 0)])), (q7, .inl (cs 0, 40, .inl (fun _ => 0))), (q15, .inl (cs 0, 40, .inl (fun _ => 0))), (q23, .inl (cs 0, 40, .inl (fun _ => 0))), (q31, .inl (cs 0, 40, .inl (fun _ => 0)))] H := hP
  have hD : va_D A0 [(h 102, .inr (0, [.ref (h 101), .ref q7, .ref q15, .ref q23, .ref q31, .int (nI 0), .int (nI 0), .int (nI 0)])), (q7, .inl (cs 0, 40, .inl (fun _ => 0))), (q15, .inl (cs 0, 40, .inl (fun _ => 0))), (q23, .inl (cs 0, 40, .inl (fun _ => 0))), (q31, .inl (cs 0, 40, .inl (fun _ => 0)))] := hD
  have hP := xP_sub (wc := [(h 102, .inr (0, [.ref (h 101), .ref ((adr [(140, q7), (141, q15), (142, q23), (143, q31)]) 140), .ref ((adr [(140, q7), (141, q15), (142, q23), (143, q31)]) 141), .ref ((adr [(140, q7), (141, q15), (142, q23), (143, q31)]) 142), .ref ((adr [(140, q7), (141, q15), (142, q23), (143, q31)]) 143), .int (fI 144), .int (fI 145), .int (fI 146)])), ((adr [(140, q7), (141, q15), (142, q23), (143, q31)]) 140, .inl (cs 0, 40, .inl (fA 140))), ((adr [(140, q7), (141, q15), (142, q23), (143, q31)]) 141, .inl (cs 0, 40, .inl (fA 141))), ((adr [(140, q7), (141, q15), (142, q23), (143, q31)]) 142, .inl (cs 0, 40, .inl (fA 142))), ((adr [(140, q7), (141, q15), (142, q23), (143, q31)]) 143, .inl (cs 0, 40, .inl (fA 143)))]) hP [0, 1, 2, 3, 4] rfl
  have hD : va_D A0 [(h 102, .inr (0, [.ref (h 101), .ref ((adr [(140, q7), (141, q15), (142, q23), (143, q31)]) 140), .ref ((adr [(140, q7), (141, q15), (142, q23), (143, q31)]) 141), .ref ((adr [(140, q7), (141, q15), (142, q23), (143, q31)]) 142), .ref ((adr [(140, q7), (141, q15), (142, q23), (143, q31)]) 143), .int (fI 144), .int (fI 145), .int (fI 146)])), ((adr [(140, q7), (141, q15), (142, q23), (143, q31)]) 140, .inl (cs 0, 40, .inl (fA 140))), ((adr [(140, q7), (141, q15), (142, q23), (143, q31)]) 141, .inl (cs 0, 40, .inl (fA 141))), ((adr [(140, q7), (141, q15), (142, q23), (143, q31)]) 142, .inl (cs 0, 40, .inl (fA 142))), ((adr [(140, q7), (141, q15), (142, q23), (143, q31)]) 143, .inl (cs 0, 40, .inl (fA 143)))] := hD.sub [0, 1, 2, 3, 4] (by decide +kernel) rfl
  exact xr_v hx hb hr hlocks hK hS dX0_init_56 (adr [(140, q7), (141, q15), (142, q23), (143, q31)]) trivial hP hD
theorem bdX7_init_0 : (decode cX7_init 0 = .ok (.aload_n 0, 1)) ∧ (decode cX7_init 1 = .ok (.invokespecial 1, 3)) ∧ (decode cX7_init 4 = .ok (.aload_n 0, 1)) ∧ (decode cX7_init 5 = .ok (.bipush 90, 2)) ∧ (decode cX7_init 7 = .ok (.newarray .byte, 2)) ∧ (decode cX7_init 9 = .ok (.putfield 9, 3)) ∧ (decode cX7_init 12 = .ok (.aload_n 0, 1)) ∧ (decode cX7_init 13 = .ok (.iconst 0, 1)) ∧ (decode cX7_init 14 = .ok (.putfield 13, 3)) ∧ (decode cX7_init 17 = .ok (.return_, 1)) := by decide +kernel
theorem dX7_init_0 : decode cX7_init 0 = .ok (.aload_n 0, 1) := bdX7_init_0.1
theorem dX7_init_1 : decode cX7_init 1 = .ok (.invokespecial 1, 3) := bdX7_init_0.2.1
theorem dX7_init_4 : decode cX7_init 4 = .ok (.aload_n 0, 1) := bdX7_init_0.2.2.1
theorem dX7_init_5 : decode cX7_init 5 = .ok (.bipush 90, 2) := bdX7_init_0.2.2.2.1
theorem dX7_init_7 : decode cX7_init 7 = .ok (.newarray .byte, 2) := bdX7_init_0.2.2.2.2.1
theorem dX7_init_9 : decode cX7_init 9 = .ok (.putfield 9, 3) := bdX7_init_0.2.2.2.2.2.1
theorem dX7_init_12 : decode cX7_init 12 = .ok (.aload_n 0, 1) := bdX7_init_0.2.2.2.2.2.2.1
theorem dX7_init_13 : decode cX7_init 13 = .ok (.iconst 0, 1) := bdX7_init_0.2.2.2.2.2.2.2.1
theorem dX7_init_14 : decode cX7_init 14 = .ok (.putfield 13, 3) := bdX7_init_0.2.2.2.2.2.2.2.2.1
theorem dX7_init_17 : decode cX7_init 17 = .ok (.return_, 1) := bdX7_init_0.2.2.2.2.2.2.2.2.2
set_option maxHeartbeats 4000000 in
set_option maxRecDepth 100000 in
theorem k_X7_init (l : Launch) (dC : Nat → ClassId) (dI : Nat → Nat → Nat) (h : Nat → Nat) (cs : Nat → ClassId) (sz : Nat) : Met l yX7_init wsX7_init ({ frames := 1, cells := 1, slots := 90, locals := 12 }) (va_Pc [.ref (h 103)] (xPreI (dC, dI) [(h 103, .inr (7, [.null, .int 0]))] (tysA cs) sz)) (va_Qv (fun u : Nat → Nat => True) (xB (dC, dI) (tysA cs) (va_A [(h 103, .inr (7, [.null, .int 0]))] sz) (fun u : Nat → Nat => [(h 103, .inr (7, [.ref (u 150), .int (fI 151)])), (u 150, .inl (cs 2, 90, .inl (fA 150)))])) (va_A [(h 103, .inr (7, [.null, .int 0]))] sz)) 1 90 (va_A [(h 103, .inr (7, [.null, .int 0]))] sz) := by
  refine Met.ofW (cc := cX7_init) (maxL := 1) (ret := none) (by decide) rfl ?_
  intro p e s m args below meth c s₁ B hml hv
  obtain ⟨rfl, ⟨hsz, hP, hK, hD0, hN⟩, hO⟩ := hv
  have hx := B.exec
  have hb := B.bytes
  have hr := B.returns
  have hts := atoms_spec (ws := wsX7_init) B.pre
  have hown : s.vm.findClass RX7 = some m.cls := findClass_of_methodNamed B.named
  have hlocks := B.notSynchronized
  subst hsz
  have hD := hD0.self (sz := s.heap.size)
  generalize hAe : va_A [(h 103, .inr (7, [.null, .int 0]))] s.heap.size = A0 at hD ⊢
  have hA : ∀ q : Nat, s.heap.size ≤ q → A0 q := fun q h => by rw [← hAe]; exact Or.inr h
  have hin : meth.name = "<init>" := (name_of_methodNamed B.named B.method).1
  have hl := lv_entry ([.ref (h 103)]) (n := 1) (Nat.le_of_ble_eq_true rfl)
  rw [lg_entry_eq]
  generalize (lg_sl ([.ref (h 103)]) ++ List.replicate (1 - (lg_sl ([.ref (h 103)])).length) Slot.unset).toArray = ls at hl ⊢
  have hl : lv_has ls 1 [(0, .ref (h 103))] := hl
  generalize hH : s.heap = H at hP ⊢
  have hS : va_S A0 s.heap H [] := by rw [← hH]; exact va_S.rf
  have hinX7 : ∀ w ∈ wsX70, w ∈ wsX7_init := by decide +kernel
  refine lv_aload_n hx hb dX7_init_0 rfl (lv_at hl 0 rfl) ?_
  refine W.objInit hx hb hown (hts (.methodLink RX7 1 objectInit) (by decide +kernel)) (hts (.instanceMethod objectInit) (by decide +kernel)) (hts _ (by decide +kernel : Cond.code objectInit ⟨#[0xb1]⟩ 1 none ∈ wsX7_init)) rfl (by rw [hml]; exact hl.1) rfl dX7_init_1 (Nat.le_of_ble_eq_true rfl) (Nat.le_of_ble_eq_true rfl) ?_
  refine W.eq (g2 := F0 m 4 ls []) rfl ?_
  refine lv_aload_n hx hb dX7_init_4 rfl (lv_at hl 0 rfl) ?_
  refine lv_bipush (v := nI 90) hx hb dX7_init_5 (by decide) ?_
  refine xn_newa (atype := .byte) (ty := .byte) (cA := cs 2) (n := nI 90) (a0 := (90, .inl (fun _ => 0))) (N' := 90) hx hb (hts (.arrayClass .byte) (by decide +kernel)) rfl hK hP hD hS hA 2 rfl (fun _ => vp_cell_i _ _ _) (by decide) (by decide) (by decide) (Nat.le_of_ble_eq_true rfl) (Nat.le_of_ble_eq_true rfl) dX7_init_7 (fun q7 H hP hD hS => ?_)
  have hP : va_P (dC, dI) vwCl [(h 103, .inr (7, [.null, .int 0])), (q7, .inl (cs 2, 90, .inl (fun _ => 0)))] H := hP
  have hD : va_D A0 [(h 103, .inr (7, [.null, .int 0])), (q7, .inl (cs 2, 90, .inl (fun _ => 0)))] := hD
  refine va_putF (D := (dC, dI)) (ci := 7) (v := .ref q7) (ty := .array .byte) (C := RX7) (T := TX7) (N := 2) hx hb hts hinX7 tyX7 tyX7_ok nmX7 hown hK hP hD hS 0 rfl rfl 0 (by decide) (hts (.fieldLink RX7 9 "MixedWords$Tape" "bytes" "[B") (by decide +kernel)) (fun _ h9 => h9) rfl hin rfl (by decide +kernel) rfl rfl (Nat.le_of_ble_eq_true rfl) dX7_init_9 (fun H locs hP hD hS => ?_)
  have hP : va_P (dC, dI) vwCl [(h 103, .inr (7, [.ref q7, .int 0])), (q7, .inl (cs 2, 90, .inl (fun _ => 0)))] H := hP
  have hD : va_D A0 [(h 103, .inr (7, [.ref q7, .int 0])), (q7, .inl (cs 2, 90, .inl (fun _ => 0)))] := hD
  refine lv_aload_n hx hb dX7_init_12 rfl (lv_at hl 0 rfl) ?_
  refine lv_iconst (v := nI 0) hx hb dX7_init_13 (by decide) ?_
  refine va_put (D := (dC, dI)) (ci := 7) (v := .int (nI 0)) (ty := .int) (C := RX7) (T := TX7) (N := 2) hx hb hts hinX7 tyX7 tyX7_ok nmX7 hown hK hP hD hS 0 rfl rfl 1 (by decide) (hts (.fieldLink RX7 13 "MixedWords$Tape" "length" "I") (by decide +kernel)) (fun _ h9 => h9) rfl (by decide +kernel) rfl rfl (Nat.le_of_ble_eq_true rfl) dX7_init_14 (fun H locs hP hD hS => ?_)
  have hP : va_P (dC, dI) vwCl [(h 103, .inr (7, [.ref q7, .int (nI 0)])), (q7, .inl (cs 2, 90, .inl (fun _ => 0)))] H := hP
  have hD : va_D A0 [(h 103, .inr (7, [.ref q7, .int (nI 0)])), (q7, .inl (cs 2, 90, .inl (fun _ => 0)))] := hD
  have hP := xP_sub (wc := [(h 103, .inr (7, [.ref ((adr [(150, q7)]) 150), .int (fI 151)])), ((adr [(150, q7)]) 150, .inl (cs 2, 90, .inl (fA 150)))]) hP [0, 1] rfl
  have hD : va_D A0 [(h 103, .inr (7, [.ref ((adr [(150, q7)]) 150), .int (fI 151)])), ((adr [(150, q7)]) 150, .inl (cs 2, 90, .inl (fA 150)))] := hD.sub [0, 1] (by decide +kernel) rfl
  exact xr_v hx hb hr hlocks hK hS dX7_init_17 (adr [(150, q7)]) trivial hP hD
theorem bdX4_init_0 : (decode cX4_init 0 = .ok (.aload_n 0, 1)) ∧ (decode cX4_init 1 = .ok (.invokespecial 3, 3)) ∧ (decode cX4_init 4 = .ok (.aload_n 0, 1)) ∧ (decode cX4_init 5 = .ok (.iconst 5, 1)) ∧ (decode cX4_init 6 = .ok (.iconst 4, 1)) ∧ (decode cX4_init 7 = .ok (.multianewarray 9 2, 4)) ∧ (decode cX4_init 11 = .ok (.putfield 11, 3)) ∧ (decode cX4_init 14 = .ok (.aload_n 0, 1)) ∧ (decode cX4_init 15 = .ok (.aload_n 1, 1)) ∧ (decode cX4_init 16 = .ok (.putfield 16, 3)) ∧ (decode cX4_init 19 = .ok (.return_, 1)) := by decide +kernel
theorem dX4_init_0 : decode cX4_init 0 = .ok (.aload_n 0, 1) := bdX4_init_0.1
theorem dX4_init_1 : decode cX4_init 1 = .ok (.invokespecial 3, 3) := bdX4_init_0.2.1
theorem dX4_init_4 : decode cX4_init 4 = .ok (.aload_n 0, 1) := bdX4_init_0.2.2.1
theorem dX4_init_5 : decode cX4_init 5 = .ok (.iconst 5, 1) := bdX4_init_0.2.2.2.1
theorem dX4_init_6 : decode cX4_init 6 = .ok (.iconst 4, 1) := bdX4_init_0.2.2.2.2.1
theorem dX4_init_7 : decode cX4_init 7 = .ok (.multianewarray 9 2, 4) := bdX4_init_0.2.2.2.2.2.1
theorem dX4_init_11 : decode cX4_init 11 = .ok (.putfield 11, 3) := bdX4_init_0.2.2.2.2.2.2.1
theorem dX4_init_14 : decode cX4_init 14 = .ok (.aload_n 0, 1) := bdX4_init_0.2.2.2.2.2.2.2.1
theorem dX4_init_15 : decode cX4_init 15 = .ok (.aload_n 1, 1) := bdX4_init_0.2.2.2.2.2.2.2.2.1
theorem dX4_init_16 : decode cX4_init 16 = .ok (.putfield 16, 3) := bdX4_init_0.2.2.2.2.2.2.2.2.2.1
theorem dX4_init_19 : decode cX4_init 19 = .ok (.return_, 1) := bdX4_init_0.2.2.2.2.2.2.2.2.2.2
set_option maxHeartbeats 4000000 in
set_option maxRecDepth 100000 in
theorem k_X4_init (l : Launch) (dC : Nat → ClassId) (dI : Nat → Nat → Nat) (h : Nat → Nat) (cs : Nat → ClassId) (sz : Nat) : Met l yX4_init wsX4_init ({ frames := 1, cells := 6, slots := 25, locals := 12 }) (va_Pc [.ref (h 104), .ref (h 103)] (xPreI (dC, dI) [(h 104, .inr (4, [.null, .null, .int 0, .int 0, .int 0, .int 0]))] (tysA cs) sz)) (va_Qv (fun u : Nat → Nat => True) (xB (dC, dI) (tysA cs) (va_A [(h 104, .inr (4, [.null, .null, .int 0, .int 0, .int 0, .int 0]))] sz) (fun u : Nat → Nat => [(h 104, .inr (4, [.ref (h 103), .ref (u 160), .int (fI 166), .int (fI 167), .int (fI 168), .int (fI 169)])), (u 160, .inl (cs 3, 5, .inr (.inr (.inr (.inr (fun i => if i < 5 then some (u (i + 161)) else none)))))), (u 161, .inl (cs 0, 4, .inl ((fG 1) 0))), (u 162, .inl (cs 0, 4, .inl ((fG 1) 1))), (u 163, .inl (cs 0, 4, .inl ((fG 1) 2))), (u 164, .inl (cs 0, 4, .inl ((fG 1) 3))), (u 165, .inl (cs 0, 4, .inl ((fG 1) 4)))])) (va_A [(h 104, .inr (4, [.null, .null, .int 0, .int 0, .int 0, .int 0]))] sz)) 6 25 (va_A [(h 104, .inr (4, [.null, .null, .int 0, .int 0, .int 0, .int 0]))] sz) := by
  refine Met.ofW (cc := cX4_init) (maxL := 2) (ret := none) (by decide) rfl ?_
  intro p e s m args below meth c s₁ B hml hv
  obtain ⟨rfl, ⟨hsz, hP, hK, hD0, hN⟩, hO⟩ := hv
  have hx := B.exec
  have hb := B.bytes
  have hr := B.returns
  have hts := atoms_spec (ws := wsX4_init) B.pre
  have hown : s.vm.findClass RX4 = some m.cls := findClass_of_methodNamed B.named
  have hlocks := B.notSynchronized
  subst hsz
  have hD := hD0.self (sz := s.heap.size)
  generalize hAe : va_A [(h 104, .inr (4, [.null, .null, .int 0, .int 0, .int 0, .int 0]))] s.heap.size = A0 at hD ⊢
  have hA : ∀ q : Nat, s.heap.size ≤ q → A0 q := fun q h => by rw [← hAe]; exact Or.inr h
  have hin : meth.name = "<init>" := (name_of_methodNamed B.named B.method).1
  have hl := lv_entry ([.ref (h 104), .ref (h 103)]) (n := 2) (Nat.le_of_ble_eq_true rfl)
  rw [lg_entry_eq]
  generalize (lg_sl ([.ref (h 104), .ref (h 103)]) ++ List.replicate (2 - (lg_sl ([.ref (h 104), .ref (h 103)])).length) Slot.unset).toArray = ls at hl ⊢
  have hl : lv_has ls 2 [(0, .ref (h 104)), (1, .ref (h 103))] := hl
  generalize hH : s.heap = H at hP ⊢
  have hS : va_S A0 s.heap H [] := by rw [← hH]; exact va_S.rf
  have hinX4 : ∀ w ∈ wsX40, w ∈ wsX4_init := by decide +kernel
  refine lv_aload_n hx hb dX4_init_0 rfl (lv_at hl 0 rfl) ?_
  refine W.objInit hx hb hown (hts (.methodLink RX4 3 objectInit) (by decide +kernel)) (hts (.instanceMethod objectInit) (by decide +kernel)) (hts _ (by decide +kernel : Cond.code objectInit ⟨#[0xb1]⟩ 1 none ∈ wsX4_init)) rfl (by rw [hml]; exact hl.1) rfl dX4_init_1 (Nat.le_of_ble_eq_true rfl) (Nat.le_of_ble_eq_true rfl) ?_
  refine W.eq (g2 := F0 m 4 ls []) rfl ?_
  refine lv_aload_n hx hb dX4_init_4 rfl (lv_at hl 0 rfl) ?_
  refine lv_iconst (v := nI 5) hx hb dX4_init_5 (by decide) ?_
  refine lv_iconst (v := nI 4) hx hb dX4_init_6 (by decide) ?_
  refine xn_mna (N' := 5) (K' := 4) (ty := .int) (z := (4, .inl (fun _ => 0))) hx hb hown (hts (.classLink RX4 9 "[[I") (by decide +kernel)) hO.1 (hts (.arrayClass .int) (by decide +kernel)) (hK.2 0 _ rfl).2 hK hP hD hS hA 3 rfl (by decide) (by decide) (by decide) (by decide) (by decide) (by decide) (by decide) rfl rfl (Nat.le_of_ble_eq_true rfl) (Nat.le_of_ble_eq_true rfl) (fun _ => by simp [Jvm.Free.Multi.innerC, vp_cell, ← arrV_new, defaultValue]) dX4_init_7 (fun q7 r7 H hP hD hS => ?_)
  have hP : va_P (dC, dI) vwCl [(h 104, .inr (4, [.null, .null, .int 0, .int 0, .int 0, .int 0])), (q7, .inl (cs 3, 5, .inr (.inr (.inr (.inr (fun i => if i < 5 then some (r7 i) else none)))))), (r7 0, .inl (cs 0, 4, .inl (fun _ => 0))), (r7 1, .inl (cs 0, 4, .inl (fun _ => 0))), (r7 2, .inl (cs 0, 4, .inl (fun _ => 0))), (r7 3, .inl (cs 0, 4, .inl (fun _ => 0))), (r7 4, .inl (cs 0, 4, .inl (fun _ => 0)))] H := hP
  have hD : va_D A0 [(h 104, .inr (4, [.null, .null, .int 0, .int 0, .int 0, .int 0])), (q7, .inl (cs 3, 5, .inr (.inr (.inr (.inr (fun i => if i < 5 then some (r7 i) else none)))))), (r7 0, .inl (cs 0, 4, .inl (fun _ => 0))), (r7 1, .inl (cs 0, 4, .inl (fun _ => 0))), (r7 2, .inl (cs 0, 4, .inl (fun _ => 0))), (r7 3, .inl (cs 0, 4, .inl (fun _ => 0))), (r7 4, .inl (cs 0, 4, .inl (fun _ => 0)))] := hD
  refine va_putF (D := (dC, dI)) (ci := 4) (v := .ref q7) (ty := .array (.array .int)) (C := RX4) (T := TX4) (N := 6) hx hb hts hinX4 tyX4 tyX4_ok nmX4 hown hK hP hD hS 0 rfl rfl 1 (by decide) (hts (.fieldLink RX4 11 "MixedWords$Reader" "cells" "[[I") (by decide +kernel)) (fun _ h9 => h9) rfl hin rfl (by decide +kernel) rfl rfl (Nat.le_of_ble_eq_true rfl) dX4_init_11 (fun H locs hP hD hS => ?_)
  have hP : va_P (dC, dI) vwCl [(h 104, .inr (4, [.null, .ref q7, .int 0, .int 0, .int 0, .int 0])), (q7, .inl (cs 3, 5, .inr (.inr (.inr (.inr (fun i => if i < 5 then some (r7 i) else none)))))), (r7 0, .inl (cs 0, 4, .inl (fun _ => 0))), (r7 1, .inl (cs 0, 4, .inl (fun _ => 0))), (r7 2, .inl (cs 0, 4, .inl (fun _ => 0))), (r7 3, .inl (cs 0, 4, .inl (fun _ => 0))), (r7 4, .inl (cs 0, 4, .inl (fun _ => 0)))] H := hP
  have hD : va_D A0 [(h 104, .inr (4, [.null, .ref q7, .int 0, .int 0, .int 0, .int 0])), (q7, .inl (cs 3, 5, .inr (.inr (.inr (.inr (fun i => if i < 5 then some (r7 i) else none)))))), (r7 0, .inl (cs 0, 4, .inl (fun _ => 0))), (r7 1, .inl (cs 0, 4, .inl (fun _ => 0))), (r7 2, .inl (cs 0, 4, .inl (fun _ => 0))), (r7 3, .inl (cs 0, 4, .inl (fun _ => 0))), (r7 4, .inl (cs 0, 4, .inl (fun _ => 0)))] := hD
  refine lv_aload_n hx hb dX4_init_14 rfl (lv_at hl 0 rfl) ?_
  refine lv_aload_n hx hb dX4_init_15 rfl (lv_at hl 1 rfl) ?_
  refine va_putF (D := (dC, dI)) (ci := 4) (v := .ref (h 103)) (ty := .object "MixedWords$Tape") (C := RX4) (T := TX4) (N := 6) hx hb hts hinX4 tyX4 tyX4_ok nmX4 hown hK hP hD hS 0 rfl rfl 0 (by decide) (hts (.fieldLink RX4 16 "MixedWords$Reader" "tape" "LMixedWords$Tape;") (by decide +kernel)) (fun _ h9 => h9) rfl hin rfl (by decide +kernel) rfl rfl (Nat.le_of_ble_eq_true rfl) dX4_init_16 (fun H locs hP hD hS => ?_)
  have hP : va_P (dC, dI) vwCl [(h 104, .inr (4, [.ref (h 103), .ref q7, .int 0, .int 0, .int 0, .int 0])), (q7, .inl (cs 3, 5, .inr (.inr (.inr (.inr (fun i => if i < 5 then some (r7 i) else none)))))), (r7 0, .inl (cs 0, 4, .inl (fun _ => 0))), (r7 1, .inl (cs 0, 4, .inl (fun _ => 0))), (r7 2, .inl (cs 0, 4, .inl (fun _ => 0))), (r7 3, .inl (cs 0, 4, .inl (fun _ => 0))), (r7 4, .inl (cs 0, 4, .inl (fun _ => 0)))] H := hP
  have hD : va_D A0 [(h 104, .inr (4, [.ref (h 103), .ref q7, .int 0, .int 0, .int 0, .int 0])), (q7, .inl (cs 3, 5, .inr (.inr (.inr (.inr (fun i => if i < 5 then some (r7 i) else none)))))), (r7 0, .inl (cs 0, 4, .inl (fun _ => 0))), (r7 1, .inl (cs 0, 4, .inl (fun _ => 0))), (r7 2, .inl (cs 0, 4, .inl (fun _ => 0))), (r7 3, .inl (cs 0, 4, .inl (fun _ => 0))), (r7 4, .inl (cs 0, 4, .inl (fun _ => 0)))] := hD
  rw [rowsF (g := (adr [(160, q7), (161, (r7 0)), (162, (r7 1)), (163, (r7 2)), (164, (r7 3)), (165, (r7 4))])) (r := r7) (n := 5) (b := 161) (fun i hi => by rcases (show i = 0 ∨ i = 1 ∨ i = 2 ∨ i = 3 ∨ i = 4 by omega) with rfl | rfl | rfl | rfl | rfl <;> rfl)] at hP hD
  have hP := xP_sub (wc := [(h 104, .inr (4, [.ref (h 103), .ref ((adr [(160, q7), (161, (r7 0)), (162, (r7 1)), (163, (r7 2)), (164, (r7 3)), (165, (r7 4))]) 160), .int (fI 166), .int (fI 167), .int (fI 168), .int (fI 169)])), ((adr [(160, q7), (161, (r7 0)), (162, (r7 1)), (163, (r7 2)), (164, (r7 3)), (165, (r7 4))]) 160, .inl (cs 3, 5, .inr (.inr (.inr (.inr (fun i => if i < 5 then some ((adr [(160, q7), (161, (r7 0)), (162, (r7 1)), (163, (r7 2)), (164, (r7 3)), (165, (r7 4))]) (i + 161)) else none)))))), ((adr [(160, q7), (161, (r7 0)), (162, (r7 1)), (163, (r7 2)), (164, (r7 3)), (165, (r7 4))]) 161, .inl (cs 0, 4, .inl ((fG 1) 0))), ((adr [(160, q7), (161, (r7 0)), (162, (r7 1)), (163, (r7 2)), (164, (r7 3)), (165, (r7 4))]) 162, .inl (cs 0, 4, .inl ((fG 1) 1))), ((adr [(160, q7), (161, (r7 0)), (162, (r7 1)), (163, (r7 2)), (164, (r7 3)), (165, (r7 4))]) 163, .inl (cs 0, 4, .inl ((fG 1) 2))), ((adr [(160, q7), (161, (r7 0)), (162, (r7 1)), (163, (r7 2)), (164, (r7 3)), (165, (r7 4))]) 164, .inl (cs 0, 4, .inl ((fG 1) 3))), ((adr [(160, q7), (161, (r7 0)), (162, (r7 1)), (163, (r7 2)), (164, (r7 3)), (165, (r7 4))]) 165, .inl (cs 0, 4, .inl ((fG 1) 4)))]) hP [0, 1, 2, 3, 4, 5, 6] rfl
  have hD : va_D A0 [(h 104, .inr (4, [.ref (h 103), .ref ((adr [(160, q7), (161, (r7 0)), (162, (r7 1)), (163, (r7 2)), (164, (r7 3)), (165, (r7 4))]) 160), .int (fI 166), .int (fI 167), .int (fI 168), .int (fI 169)])), ((adr [(160, q7), (161, (r7 0)), (162, (r7 1)), (163, (r7 2)), (164, (r7 3)), (165, (r7 4))]) 160, .inl (cs 3, 5, .inr (.inr (.inr (.inr (fun i => if i < 5 then some ((adr [(160, q7), (161, (r7 0)), (162, (r7 1)), (163, (r7 2)), (164, (r7 3)), (165, (r7 4))]) (i + 161)) else none)))))), ((adr [(160, q7), (161, (r7 0)), (162, (r7 1)), (163, (r7 2)), (164, (r7 3)), (165, (r7 4))]) 161, .inl (cs 0, 4, .inl ((fG 1) 0))), ((adr [(160, q7), (161, (r7 0)), (162, (r7 1)), (163, (r7 2)), (164, (r7 3)), (165, (r7 4))]) 162, .inl (cs 0, 4, .inl ((fG 1) 1))), ((adr [(160, q7), (161, (r7 0)), (162, (r7 1)), (163, (r7 2)), (164, (r7 3)), (165, (r7 4))]) 163, .inl (cs 0, 4, .inl ((fG 1) 2))), ((adr [(160, q7), (161, (r7 0)), (162, (r7 1)), (163, (r7 2)), (164, (r7 3)), (165, (r7 4))]) 164, .inl (cs 0, 4, .inl ((fG 1) 3))), ((adr [(160, q7), (161, (r7 0)), (162, (r7 1)), (163, (r7 2)), (164, (r7 3)), (165, (r7 4))]) 165, .inl (cs 0, 4, .inl ((fG 1) 4)))] := hD.sub [0, 1, 2, 3, 4, 5, 6] (by decide +kernel) rfl
  exact xr_v hx hb hr hlocks hK hS dX4_init_19 (adr [(160, q7), (161, (r7 0)), (162, (r7 1)), (163, (r7 2)), (164, (r7 3)), (165, (r7 4))]) trivial hP hD
theorem bdX8_init_0 : (decode cX8_init 0 = .ok (.aload_n 0, 1)) ∧ (decode cX8_init 1 = .ok (.invokespecial 3, 3)) ∧ (decode cX8_init 4 = .ok (.aload_n 0, 1)) ∧ (decode cX8_init 5 = .ok (.sipush 256, 3)) ∧ (decode cX8_init 8 = .ok (.newarray .int, 2)) ∧ (decode cX8_init 10 = .ok (.putfield 9, 3)) ∧ (decode cX8_init 13 = .ok (.aload_n 0, 1)) ∧ (decode cX8_init 14 = .ok (.sipush 256, 3)) ∧ (decode cX8_init 17 = .ok (.newarray .int, 2)) ∧ (decode cX8_init 19 = .ok (.putfield 15, 3)) ∧ (decode cX8_init 22 = .ok (.aload_n 0, 1)) ∧ (decode cX8_init 23 = .ok (.sipush 256, 3)) ∧ (decode cX8_init 26 = .ok (.newarray .int, 2)) ∧ (decode cX8_init 28 = .ok (.putfield 18, 3)) ∧ (decode cX8_init 31 = .ok (.aload_n 0, 1)) ∧ (decode cX8_init 32 = .ok (.iconst 0, 1)) := by decide +kernel
theorem dX8_init_0 : decode cX8_init 0 = .ok (.aload_n 0, 1) := bdX8_init_0.1
theorem dX8_init_1 : decode cX8_init 1 = .ok (.invokespecial 3, 3) := bdX8_init_0.2.1
theorem dX8_init_4 : decode cX8_init 4 = .ok (.aload_n 0, 1) := bdX8_init_0.2.2.1
theorem dX8_init_5 : decode cX8_init 5 = .ok (.sipush 256, 3) := bdX8_init_0.2.2.2.1
theorem dX8_init_8 : decode cX8_init 8 = .ok (.newarray .int, 2) := bdX8_init_0.2.2.2.2.1
theorem dX8_init_10 : decode cX8_init 10 = .ok (.putfield 9, 3) := bdX8_init_0.2.2.2.2.2.1
theorem dX8_init_13 : decode cX8_init 13 = .ok (.aload_n 0, 1) := bdX8_init_0.2.2.2.2.2.2.1
theorem dX8_init_14 : decode cX8_init 14 = .ok (.sipush 256, 3) := bdX8_init_0.2.2.2.2.2.2.2.1
theorem dX8_init_17 : decode cX8_init 17 = .ok (.newarray .int, 2) := bdX8_init_0.2.2.2.2.2.2.2.2.1
theorem dX8_init_19 : decode cX8_init 19 = .ok (.putfield 15, 3) := bdX8_init_0.2.2.2.2.2.2.2.2.2.1
theorem dX8_init_22 : decode cX8_init 22 = .ok (.aload_n 0, 1) := bdX8_init_0.2.2.2.2.2.2.2.2.2.2.1
theorem dX8_init_23 : decode cX8_init 23 = .ok (.sipush 256, 3) := bdX8_init_0.2.2.2.2.2.2.2.2.2.2.2.1
theorem dX8_init_26 : decode cX8_init 26 = .ok (.newarray .int, 2) := bdX8_init_0.2.2.2.2.2.2.2.2.2.2.2.2.1
theorem dX8_init_28 : decode cX8_init 28 = .ok (.putfield 18, 3) := bdX8_init_0.2.2.2.2.2.2.2.2.2.2.2.2.2.1
theorem dX8_init_31 : decode cX8_init 31 = .ok (.aload_n 0, 1) := bdX8_init_0.2.2.2.2.2.2.2.2.2.2.2.2.2.2.1
theorem dX8_init_32 : decode cX8_init 32 = .ok (.iconst 0, 1) := bdX8_init_0.2.2.2.2.2.2.2.2.2.2.2.2.2.2.2
theorem bdX8_init_33 : (decode cX8_init 33 = .ok (.putfield 21, 3)) ∧ (decode cX8_init 36 = .ok (.aload_n 0, 1)) ∧ (decode cX8_init 37 = .ok (.iconst 0, 1)) ∧ (decode cX8_init 38 = .ok (.putfield 25, 3)) ∧ (decode cX8_init 41 = .ok (.aload_n 0, 1)) ∧ (decode cX8_init 42 = .ok (.aload_n 1, 1)) ∧ (decode cX8_init 43 = .ok (.putfield 28, 3)) ∧ (decode cX8_init 46 = .ok (.return_, 1)) := by decide +kernel
theorem dX8_init_33 : decode cX8_init 33 = .ok (.putfield 21, 3) := bdX8_init_33.1
theorem dX8_init_36 : decode cX8_init 36 = .ok (.aload_n 0, 1) := bdX8_init_33.2.1
theorem dX8_init_37 : decode cX8_init 37 = .ok (.iconst 0, 1) := bdX8_init_33.2.2.1
theorem dX8_init_38 : decode cX8_init 38 = .ok (.putfield 25, 3) := bdX8_init_33.2.2.2.1
theorem dX8_init_41 : decode cX8_init 41 = .ok (.aload_n 0, 1) := bdX8_init_33.2.2.2.2.1
theorem dX8_init_42 : decode cX8_init 42 = .ok (.aload_n 1, 1) := bdX8_init_33.2.2.2.2.2.1
theorem dX8_init_43 : decode cX8_init 43 = .ok (.putfield 28, 3) := bdX8_init_33.2.2.2.2.2.2.1
theorem dX8_init_46 : decode cX8_init 46 = .ok (.return_, 1) := bdX8_init_33.2.2.2.2.2.2.2
set_option maxHeartbeats 4000000 in
set_option maxRecDepth 100000 in
theorem k_X8_init (l : Launch) (dC : Nat → ClassId) (dI : Nat → Nat → Nat) (h : Nat → Nat) (cs : Nat → ClassId) (sz : Nat) : Met l yX8_init wsX8_init ({ frames := 1, cells := 3, slots := 768, locals := 12 }) (va_Pc [.ref (h 105), .ref (h 101)] (xPreI (dC, dI) [(h 105, .inr (8, [.null, .null, .null, .null, .int 0, .int 0]))] (tysA cs) sz)) (va_Qv (fun u : Nat → Nat => True) (xB (dC, dI) (tysA cs) (va_A [(h 105, .inr (8, [.null, .null, .null, .null, .int 0, .int 0]))] sz) (fun u : Nat → Nat => [(h 105, .inr (8, [.ref (h 101), .ref (u 170), .ref (u 171), .ref (u 172), .int (fI 173), .int (fI 174)])), (u 170, .inl (cs 0, 256, .inl (fA 170))), (u 171, .inl (cs 0, 256, .inl (fA 171))), (u 172, .inl (cs 0, 256, .inl (fA 172)))])) (va_A [(h 105, .inr (8, [.null, .null, .null, .null, .int 0, .int 0]))] sz)) 3 768 (va_A [(h 105, .inr (8, [.null, .null, .null, .null, .int 0, .int 0]))] sz) := by
  refine Met.ofW (cc := cX8_init) (maxL := 2) (ret := none) (by decide) rfl ?_
  intro p e s m args below meth c s₁ B hml hv
  obtain ⟨rfl, ⟨hsz, hP, hK, hD0, hN⟩, hO⟩ := hv
  have hx := B.exec
  have hb := B.bytes
  have hr := B.returns
  have hts := atoms_spec (ws := wsX8_init) B.pre
  have hown : s.vm.findClass RX8 = some m.cls := findClass_of_methodNamed B.named
  have hlocks := B.notSynchronized
  subst hsz
  have hD := hD0.self (sz := s.heap.size)
  generalize hAe : va_A [(h 105, .inr (8, [.null, .null, .null, .null, .int 0, .int 0]))] s.heap.size = A0 at hD ⊢
  have hA : ∀ q : Nat, s.heap.size ≤ q → A0 q := fun q h => by rw [← hAe]; exact Or.inr h
  have hin : meth.name = "<init>" := (name_of_methodNamed B.named B.method).1
  have hl := lv_entry ([.ref (h 105), .ref (h 101)]) (n := 2) (Nat.le_of_ble_eq_true rfl)
  rw [lg_entry_eq]
  generalize (lg_sl ([.ref (h 105), .ref (h 101)]) ++ List.replicate (2 - (lg_sl ([.ref (h 105), .ref (h 101)])).length) Slot.unset).toArray = ls at hl ⊢
  have hl : lv_has ls 2 [(0, .ref (h 105)), (1, .ref (h 101))] := hl
  generalize hH : s.heap = H at hP ⊢
  have hS : va_S A0 s.heap H [] := by rw [← hH]; exact va_S.rf
  have hinX8 : ∀ w ∈ wsX80, w ∈ wsX8_init := by decide +kernel
  refine lv_aload_n hx hb dX8_init_0 rfl (lv_at hl 0 rfl) ?_
  refine W.objInit hx hb hown (hts (.methodLink RX8 3 objectInit) (by decide +kernel)) (hts (.instanceMethod objectInit) (by decide +kernel)) (hts _ (by decide +kernel : Cond.code objectInit ⟨#[0xb1]⟩ 1 none ∈ wsX8_init)) rfl (by rw [hml]; exact hl.1) rfl dX8_init_1 (Nat.le_of_ble_eq_true rfl) (Nat.le_of_ble_eq_true rfl) ?_
  refine W.eq (g2 := F0 m 4 ls []) rfl ?_
  refine lv_aload_n hx hb dX8_init_4 rfl (lv_at hl 0 rfl) ?_
  refine lv_sipush (v := nI 256) hx hb dX8_init_5 (by decide) ?_
  refine xn_newa (atype := .int) (ty := .int) (cA := cs 0) (n := nI 256) (a0 := (256, .inl (fun _ => 0))) (N' := 256) hx hb (hts (.arrayClass .int) (by decide +kernel)) rfl hK hP hD hS hA 0 rfl (fun _ => vp_cell_i _ _ _) (by decide) (by decide) (by decide) (Nat.le_of_ble_eq_true rfl) (Nat.le_of_ble_eq_true rfl) dX8_init_8 (fun q8 H hP hD hS => ?_)
  have hP : va_P (dC, dI) vwCl [(h 105, .inr (8, [.null, .null, .null, .null, .int 0, .int 0])), (q8, .inl (cs 0, 256, .inl (fun _ => 0)))] H := hP
  have hD : va_D A0 [(h 105, .inr (8, [.null, .null, .null, .null, .int 0, .int 0])), (q8, .inl (cs 0, 256, .inl (fun _ => 0)))] := hD
  refine va_putF (D := (dC, dI)) (ci := 8) (v := .ref q8) (ty := .array .int) (C := RX8) (T := TX8) (N := 6) hx hb hts hinX8 tyX8 tyX8_ok nmX8 hown hK hP hD hS 0 rfl rfl 1 (by decide) (hts (.fieldLink RX8 9 "MixedWords$Words" "offs" "[I") (by decide +kernel)) (fun _ h9 => h9) rfl hin rfl (by decide +kernel) rfl rfl (Nat.le_of_ble_eq_true rfl) dX8_init_10 (fun H locs hP hD hS => ?_)
  have hP : va_P (dC, dI) vwCl [(h 105, .inr (8, [.null, .ref q8, .null, .null, .int 0, .int 0])), (q8, .inl (cs 0, 256, .inl (fun _ => 0)))] H := hP
  have hD : va_D A0 [(h 105, .inr (8, [.null, .ref q8, .null, .null, .int 0, .int 0])), (q8, .inl (cs 0, 256, .inl (fun _ => 0)))] := hD
  refine lv_aload_n hx hb dX8_init_13 rfl (lv_at hl 0 rfl) ?_
  refine lv_sipush (v := nI 256) hx hb dX8_init_14 (by decide) ?_
  refine xn_newa (atype := .int) (ty := .int) (cA := cs 0) (n := nI 256) (a0 := (256, .inl (fun _ => 0))) (N' := 256) hx hb (hts (.arrayClass .int) (by decide +kernel)) rfl hK hP hD hS hA 0 rfl (fun _ => vp_cell_i _ _ _) (by decide) (by decide) (by decide) (Nat.le_of_ble_eq_true rfl) (Nat.le_of_ble_eq_true rfl) dX8_init_17 (fun q17 H hP hD hS => ?_)
  have hP : va_P (dC, dI) vwCl [(h 105, .inr (8, [.null, .ref q8, .null, .null, .int 0, .int 0])), (q8, .inl (cs 0, 256, .inl (fun _ => 0))), (q17, .inl (cs 0, 256, .inl (fun _ => 0)))] H := hP
  have hD : va_D A0 [(h 105, .inr (8, [.null, .ref q8, .null, .null, .int 0, .int 0])), (q8, .inl (cs 0, 256, .inl (fun _ => 0))), (q17, .inl (cs 0, 256, .inl (fun _ => 0)))] := hD
  refine va_putF (D := (dC, dI)) (ci := 8) (v := .ref q17) (ty := .array .int) (C := RX8) (T := TX8) (N := 6) hx hb hts hinX8 tyX8 tyX8_ok nmX8 hown hK hP hD hS 0 rfl rfl 2 (by decide) (hts (.fieldLink RX8 15 "MixedWords$Words" "byOff" "[I") (by decide +kernel)) (fun _ h9 => h9) rfl hin rfl (by decide +kernel) rfl rfl (Nat.le_of_ble_eq_true rfl) dX8_init_19 (fun H locs hP hD hS => ?_)
  have hP : va_P (dC, dI) vwCl [(h 105, .inr (8, [.null, .ref q8, .ref q17, .null, .int 0, .int 0])), (q8, .inl (cs 0, 256, .inl (fun _ => 0))), (q17, .inl (cs 0, 256, .inl (fun _ => 0)))] H := hP
  have hD : va_D A0 [(h 105, .inr (8, [.null, .ref q8, .ref q17, .null, .int 0, .int 0])), (q8, .inl (cs 0, 256, .inl (fun _ => 0))), (q17, .inl (cs 0, 256, .inl (fun _ => 0)))] := hD
  refine lv_aload_n hx hb dX8_init_22 rfl (lv_at hl 0 rfl) ?_
  refine lv_sipush (v := nI 256) hx hb dX8_init_23 (by decide) ?_
  refine xn_newa (atype := .int) (ty := .int) (cA := cs 0) (n := nI 256) (a0 := (256, .inl (fun _ => 0))) (N' := 256) hx hb (hts (.arrayClass .int) (by decide +kernel)) rfl hK hP hD hS hA 0 rfl (fun _ => vp_cell_i _ _ _) (by decide) (by decide) (by decide) (Nat.le_of_ble_eq_true rfl) (Nat.le_of_ble_eq_true rfl) dX8_init_26 (fun q26 H hP hD hS => ?_)
  have hP : va_P (dC, dI) vwCl [(h 105, .inr (8, [.null, .ref q8, .ref q17, .null, .int 0, .int 0])), (q8, .inl (cs 0, 256, .inl (fun _ => 0))), (q17, .inl (cs 0, 256, .inl (fun _ => 0))), (q26, .inl (cs 0, 256, .inl (fun _ => 0)))] H := hP
  have hD : va_D A0 [(h 105, .inr (8, [.null, .ref q8, .ref q17, .null, .int 0, .int 0])), (q8, .inl (cs 0, 256, .inl (fun _ => 0))), (q17, .inl (cs 0, 256, .inl (fun _ => 0))), (q26, .inl (cs 0, 256, .inl (fun _ => 0)))] := hD
  refine va_putF (D := (dC, dI)) (ci := 8) (v := .ref q26) (ty := .array .int) (C := RX8) (T := TX8) (N := 6) hx hb hts hinX8 tyX8 tyX8_ok nmX8 hown hK hP hD hS 0 rfl rfl 3 (by decide) (hts (.fieldLink RX8 18 "MixedWords$Words" "spare" "[I") (by decide +kernel)) (fun _ h9 => h9) rfl hin rfl (by decide +kernel) rfl rfl (Nat.le_of_ble_eq_true rfl) dX8_init_28 (fun H locs hP hD hS => ?_)
  have hP : va_P (dC, dI) vwCl [(h 105, .inr (8, [.null, .ref q8, .ref q17, .ref q26, .int 0, .int 0])), (q8, .inl (cs 0, 256, .inl (fun _ => 0))), (q17, .inl (cs 0, 256, .inl (fun _ => 0))), (q26, .inl (cs 0, 256, .inl (fun _ => 0)))] H := hP
  have hD : va_D A0 [(h 105, .inr (8, [.null, .ref q8, .ref q17, .ref q26, .int 0, .int 0])), (q8, .inl (cs 0, 256, .inl (fun _ => 0))), (q17, .inl (cs 0, 256, .inl (fun _ => 0))), (q26, .inl (cs 0, 256, .inl (fun _ => 0)))] := hD
  refine lv_aload_n hx hb dX8_init_31 rfl (lv_at hl 0 rfl) ?_
  refine lv_iconst (v := nI 0) hx hb dX8_init_32 (by decide) ?_
  refine va_put (D := (dC, dI)) (ci := 8) (v := .int (nI 0)) (ty := .int) (C := RX8) (T := TX8) (N := 6) hx hb hts hinX8 tyX8 tyX8_ok nmX8 hown hK hP hD hS 0 rfl rfl 4 (by decide) (hts (.fieldLink RX8 21 "MixedWords$Words" "offsStamp" "I") (by decide +kernel)) (fun _ h9 => h9) rfl (by decide +kernel) rfl rfl (Nat.le_of_ble_eq_true rfl) dX8_init_33 (fun H locs hP hD hS => ?_)
  have hP : va_P (dC, dI) vwCl [(h 105, .inr (8, [.null, .ref q8, .ref q17, .ref q26, .int (nI 0), .int 0])), (q8, .inl (cs 0, 256, .inl (fun _ => 0))), (q17, .inl (cs 0, 256, .inl (fun _ => 0))), (q26, .inl (cs 0, 256, .inl (fun _ => 0)))] H := hP
  have hD : va_D A0 [(h 105, .inr (8, [.null, .ref q8, .ref q17, .ref q26, .int (nI 0), .int 0])), (q8, .inl (cs 0, 256, .inl (fun _ => 0))), (q17, .inl (cs 0, 256, .inl (fun _ => 0))), (q26, .inl (cs 0, 256, .inl (fun _ => 0)))] := hD
  refine lv_aload_n hx hb dX8_init_36 rfl (lv_at hl 0 rfl) ?_
  refine lv_iconst (v := nI 0) hx hb dX8_init_37 (by decide) ?_
  refine va_put (D := (dC, dI)) (ci := 8) (v := .int (nI 0)) (ty := .int) (C := RX8) (T := TX8) (N := 6) hx hb hts hinX8 tyX8 tyX8_ok nmX8 hown hK hP hD hS 0 rfl rfl 5 (by decide) (hts (.fieldLink RX8 25 "MixedWords$Words" "byOffStamp" "I") (by decide +kernel)) (fun _ h9 => h9) rfl (by decide +kernel) rfl rfl (Nat.le_of_ble_eq_true rfl) dX8_init_38 (fun H locs hP hD hS => ?_)
  have hP : va_P (dC, dI) vwCl [(h 105, .inr (8, [.null, .ref q8, .ref q17, .ref q26, .int (nI 0), .int (nI 0)])), (q8, .inl (cs 0, 256, .inl (fun _ => 0))), (q17, .inl (cs 0, 256, .inl (fun _ => 0))), (q26, .inl (cs 0, 256, .inl (fun _ => 0)))] H := hP
  have hD : va_D A0 [(h 105, .inr (8, [.null, .ref q8, .ref q17, .ref q26, .int (nI 0), .int (nI 0)])), (q8, .inl (cs 0, 256, .inl (fun _ => 0))), (q17, .inl (cs 0, 256, .inl (fun _ => 0))), (q26, .inl (cs 0, 256, .inl (fun _ => 0)))] := hD
  refine lv_aload_n hx hb dX8_init_41 rfl (lv_at hl 0 rfl) ?_
  refine lv_aload_n hx hb dX8_init_42 rfl (lv_at hl 1 rfl) ?_
  refine va_putF (D := (dC, dI)) (ci := 8) (v := .ref (h 101)) (ty := .object "MixedWords$Mix") (C := RX8) (T := TX8) (N := 6) hx hb hts hinX8 tyX8 tyX8_ok nmX8 hown hK hP hD hS 0 rfl rfl 0 (by decide) (hts (.fieldLink RX8 28 "MixedWords$Words" "mix" "LMixedWords$Mix;") (by decide +kernel)) (fun _ h9 => h9) rfl hin rfl (by decide +kernel) rfl rfl (Nat.le_of_ble_eq_true rfl) dX8_init_43 (fun H locs hP hD hS => ?_)
  have hP : va_P (dC, dI) vwCl [(h 105, .inr (8, [.ref (h 101), .ref q8, .ref q17, .ref q26, .int (nI 0), .int (nI 0)])), (q8, .inl (cs 0, 256, .inl (fun _ => 0))), (q17, .inl (cs 0, 256, .inl (fun _ => 0))), (q26, .inl (cs 0, 256, .inl (fun _ => 0)))] H := hP
  have hD : va_D A0 [(h 105, .inr (8, [.ref (h 101), .ref q8, .ref q17, .ref q26, .int (nI 0), .int (nI 0)])), (q8, .inl (cs 0, 256, .inl (fun _ => 0))), (q17, .inl (cs 0, 256, .inl (fun _ => 0))), (q26, .inl (cs 0, 256, .inl (fun _ => 0)))] := hD
  have hP := xP_sub (wc := [(h 105, .inr (8, [.ref (h 101), .ref ((adr [(170, q8), (171, q17), (172, q26)]) 170), .ref ((adr [(170, q8), (171, q17), (172, q26)]) 171), .ref ((adr [(170, q8), (171, q17), (172, q26)]) 172), .int (fI 173), .int (fI 174)])), ((adr [(170, q8), (171, q17), (172, q26)]) 170, .inl (cs 0, 256, .inl (fA 170))), ((adr [(170, q8), (171, q17), (172, q26)]) 171, .inl (cs 0, 256, .inl (fA 171))), ((adr [(170, q8), (171, q17), (172, q26)]) 172, .inl (cs 0, 256, .inl (fA 172)))]) hP [0, 1, 2, 3] rfl
  have hD : va_D A0 [(h 105, .inr (8, [.ref (h 101), .ref ((adr [(170, q8), (171, q17), (172, q26)]) 170), .ref ((adr [(170, q8), (171, q17), (172, q26)]) 171), .ref ((adr [(170, q8), (171, q17), (172, q26)]) 172), .int (fI 173), .int (fI 174)])), ((adr [(170, q8), (171, q17), (172, q26)]) 170, .inl (cs 0, 256, .inl (fA 170))), ((adr [(170, q8), (171, q17), (172, q26)]) 171, .inl (cs 0, 256, .inl (fA 171))), ((adr [(170, q8), (171, q17), (172, q26)]) 172, .inl (cs 0, 256, .inl (fA 172)))] := hD.sub [0, 1, 2, 3] (by decide +kernel) rfl
  exact xr_v hx hb hr hlocks hK hS dX8_init_46 (adr [(170, q8), (171, q17), (172, q26)]) trivial hP hD
theorem bdX2_init_0 : (decode cX2_init 0 = .ok (.aload_n 0, 1)) ∧ (decode cX2_init 1 = .ok (.invokespecial 3, 3)) ∧ (decode cX2_init 4 = .ok (.aload_n 0, 1)) ∧ (decode cX2_init 5 = .ok (.iconst 4, 1)) ∧ (decode cX2_init 6 = .ok (.iconst 4, 1)) ∧ (decode cX2_init 7 = .ok (.multianewarray 9 2, 4)) ∧ (decode cX2_init 11 = .ok (.putfield 11, 3)) ∧ (decode cX2_init 14 = .ok (.aload_n 0, 1)) ∧ (decode cX2_init 15 = .ok (.iconst 4, 1)) ∧ (decode cX2_init 16 = .ok (.newarray .long, 2)) ∧ (decode cX2_init 18 = .ok (.putfield 16, 3)) ∧ (decode cX2_init 21 = .ok (.aload_n 0, 1)) ∧ (decode cX2_init 22 = .ok (.iconst 4, 1)) ∧ (decode cX2_init 23 = .ok (.newarray .int, 2)) ∧ (decode cX2_init 25 = .ok (.putfield 20, 3)) ∧ (decode cX2_init 28 = .ok (.aload_n 0, 1)) := by decide +kernel
theorem dX2_init_0 : decode cX2_init 0 = .ok (.aload_n 0, 1) := bdX2_init_0.1
theorem dX2_init_1 : decode cX2_init 1 = .ok (.invokespecial 3, 3) := bdX2_init_0.2.1
theorem dX2_init_4 : decode cX2_init 4 = .ok (.aload_n 0, 1) := bdX2_init_0.2.2.1
theorem dX2_init_5 : decode cX2_init 5 = .ok (.iconst 4, 1) := bdX2_init_0.2.2.2.1
theorem dX2_init_6 : decode cX2_init 6 = .ok (.iconst 4, 1) := bdX2_init_0.2.2.2.2.1
theorem dX2_init_7 : decode cX2_init 7 = .ok (.multianewarray 9 2, 4) := bdX2_init_0.2.2.2.2.2.1
theorem dX2_init_11 : decode cX2_init 11 = .ok (.putfield 11, 3) := bdX2_init_0.2.2.2.2.2.2.1
theorem dX2_init_14 : decode cX2_init 14 = .ok (.aload_n 0, 1) := bdX2_init_0.2.2.2.2.2.2.2.1
theorem dX2_init_15 : decode cX2_init 15 = .ok (.iconst 4, 1) := bdX2_init_0.2.2.2.2.2.2.2.2.1
theorem dX2_init_16 : decode cX2_init 16 = .ok (.newarray .long, 2) := bdX2_init_0.2.2.2.2.2.2.2.2.2.1
theorem dX2_init_18 : decode cX2_init 18 = .ok (.putfield 16, 3) := bdX2_init_0.2.2.2.2.2.2.2.2.2.2.1
theorem dX2_init_21 : decode cX2_init 21 = .ok (.aload_n 0, 1) := bdX2_init_0.2.2.2.2.2.2.2.2.2.2.2.1
theorem dX2_init_22 : decode cX2_init 22 = .ok (.iconst 4, 1) := bdX2_init_0.2.2.2.2.2.2.2.2.2.2.2.2.1
theorem dX2_init_23 : decode cX2_init 23 = .ok (.newarray .int, 2) := bdX2_init_0.2.2.2.2.2.2.2.2.2.2.2.2.2.1
theorem dX2_init_25 : decode cX2_init 25 = .ok (.putfield 20, 3) := bdX2_init_0.2.2.2.2.2.2.2.2.2.2.2.2.2.2.1
theorem dX2_init_28 : decode cX2_init 28 = .ok (.aload_n 0, 1) := bdX2_init_0.2.2.2.2.2.2.2.2.2.2.2.2.2.2.2
theorem bdX2_init_29 : (decode cX2_init 29 = .ok (.iconst 4, 1)) ∧ (decode cX2_init 30 = .ok (.newarray .long, 2)) ∧ (decode cX2_init 32 = .ok (.putfield 24, 3)) ∧ (decode cX2_init 35 = .ok (.return_, 1)) := by decide +kernel
theorem dX2_init_29 : decode cX2_init 29 = .ok (.iconst 4, 1) := bdX2_init_29.1
theorem dX2_init_30 : decode cX2_init 30 = .ok (.newarray .long, 2) := bdX2_init_29.2.1
theorem dX2_init_32 : decode cX2_init 32 = .ok (.putfield 24, 3) := bdX2_init_29.2.2.1
theorem dX2_init_35 : decode cX2_init 35 = .ok (.return_, 1) := bdX2_init_29.2.2.2
set_option maxHeartbeats 4000000 in
set_option maxRecDepth 100000 in
theorem k_X2_init (l : Launch) (dC : Nat → ClassId) (dI : Nat → Nat → Nat) (h : Nat → Nat) (cs : Nat → ClassId) (sz : Nat) : Met l yX2_init wsX2_init ({ frames := 1, cells := 8, slots := 32, locals := 12 }) (va_Pc [.ref (h 106)] (xPreI (dC, dI) [(h 106, .inr (2, [.null, .null, .null, .null, .long 0]))] (tysA cs) sz)) (va_Qv (fun u : Nat → Nat => True) (xB (dC, dI) (tysA cs) (va_A [(h 106, .inr (2, [.null, .null, .null, .null, .long 0]))] sz) (fun u : Nat → Nat => [(h 106, .inr (2, [.ref (u 180), .ref (u 185), .ref (u 186), .ref (u 187), .long (fL 188)])), (u 180, .inl (cs 4, 4, .inr (.inr (.inr (.inr (fun i => if i < 4 then some (u (i + 181)) else none)))))), (u 181, .inl (cs 1, 4, .inr (.inl ((fJ 0) 0)))), (u 182, .inl (cs 1, 4, .inr (.inl ((fJ 0) 1)))), (u 183, .inl (cs 1, 4, .inr (.inl ((fJ 0) 2)))), (u 184, .inl (cs 1, 4, .inr (.inl ((fJ 0) 3)))), (u 185, .inl (cs 1, 4, .inr (.inl (fQ 185)))), (u 186, .inl (cs 0, 4, .inl (fA 186))), (u 187, .inl (cs 1, 4, .inr (.inl (fQ 187))))])) (va_A [(h 106, .inr (2, [.null, .null, .null, .null, .long 0]))] sz)) 8 32 (va_A [(h 106, .inr (2, [.null, .null, .null, .null, .long 0]))] sz) := by
  refine Met.ofW (cc := cX2_init) (maxL := 1) (ret := none) (by decide) rfl ?_
  intro p e s m args below meth c s₁ B hml hv
  obtain ⟨rfl, ⟨hsz, hP, hK, hD0, hN⟩, hO⟩ := hv
  have hx := B.exec
  have hb := B.bytes
  have hr := B.returns
  have hts := atoms_spec (ws := wsX2_init) B.pre
  have hown : s.vm.findClass RX2 = some m.cls := findClass_of_methodNamed B.named
  have hlocks := B.notSynchronized
  subst hsz
  have hD := hD0.self (sz := s.heap.size)
  generalize hAe : va_A [(h 106, .inr (2, [.null, .null, .null, .null, .long 0]))] s.heap.size = A0 at hD ⊢
  have hA : ∀ q : Nat, s.heap.size ≤ q → A0 q := fun q h => by rw [← hAe]; exact Or.inr h
  have hin : meth.name = "<init>" := (name_of_methodNamed B.named B.method).1
  have hl := lv_entry ([.ref (h 106)]) (n := 1) (Nat.le_of_ble_eq_true rfl)
  rw [lg_entry_eq]
  generalize (lg_sl ([.ref (h 106)]) ++ List.replicate (1 - (lg_sl ([.ref (h 106)])).length) Slot.unset).toArray = ls at hl ⊢
  have hl : lv_has ls 1 [(0, .ref (h 106))] := hl
  generalize hH : s.heap = H at hP ⊢
  have hS : va_S A0 s.heap H [] := by rw [← hH]; exact va_S.rf
  have hinX2 : ∀ w ∈ wsX20, w ∈ wsX2_init := by decide +kernel
  refine lv_aload_n hx hb dX2_init_0 rfl (lv_at hl 0 rfl) ?_
  refine W.objInit hx hb hown (hts (.methodLink RX2 3 objectInit) (by decide +kernel)) (hts (.instanceMethod objectInit) (by decide +kernel)) (hts _ (by decide +kernel : Cond.code objectInit ⟨#[0xb1]⟩ 1 none ∈ wsX2_init)) rfl (by rw [hml]; exact hl.1) rfl dX2_init_1 (Nat.le_of_ble_eq_true rfl) (Nat.le_of_ble_eq_true rfl) ?_
  refine W.eq (g2 := F0 m 4 ls []) rfl ?_
  refine lv_aload_n hx hb dX2_init_4 rfl (lv_at hl 0 rfl) ?_
  refine lv_iconst (v := nI 4) hx hb dX2_init_5 (by decide) ?_
  refine lv_iconst (v := nI 4) hx hb dX2_init_6 (by decide) ?_
  refine xn_mna (N' := 4) (K' := 4) (ty := .long) (z := (4, .inr (.inl (fun _ => 0)))) hx hb hown (hts (.classLink RX2 9 "[[J") (by decide +kernel)) hO.2.1 (hts (.arrayClass .long) (by decide +kernel)) (hK.2 1 _ rfl).2 hK hP hD hS hA 4 rfl (by decide) (by decide) (by decide) (by decide) (by decide) (by decide) (by decide) rfl rfl (Nat.le_of_ble_eq_true rfl) (Nat.le_of_ble_eq_true rfl) (fun _ => by simp [Jvm.Free.Multi.innerC, vp_cell, ← arrV_new, defaultValue]) dX2_init_7 (fun q7 r7 H hP hD hS => ?_)
  have hP : va_P (dC, dI) vwCl [(h 106, .inr (2, [.null, .null, .null, .null, .long 0])), (q7, .inl (cs 4, 4, .inr (.inr (.inr (.inr (fun i => if i < 4 then some (r7 i) else none)))))), (r7 0, .inl (cs 1, 4, .inr (.inl (fun _ => 0)))), (r7 1, .inl (cs 1, 4, .inr (.inl (fun _ => 0)))), (r7 2, .inl (cs 1, 4, .inr (.inl (fun _ => 0)))), (r7 3, .inl (cs 1, 4, .inr (.inl (fun _ => 0))))] H := hP
  have hD : va_D A0 [(h 106, .inr (2, [.null, .null, .null, .null, .long 0])), (q7, .inl (cs 4, 4, .inr (.inr (.inr (.inr (fun i => if i < 4 then some (r7 i) else none)))))), (r7 0, .inl (cs 1, 4, .inr (.inl (fun _ => 0)))), (r7 1, .inl (cs 1, 4, .inr (.inl (fun _ => 0)))), (r7 2, .inl (cs 1, 4, .inr (.inl (fun _ => 0)))), (r7 3, .inl (cs 1, 4, .inr (.inl (fun _ => 0))))] := hD
  refine va_putF (D := (dC, dI)) (ci := 2) (v := .ref q7) (ty := .array (.array .long)) (C := RX2) (T := TX2) (N := 5) hx hb hts hinX2 tyX2 tyX2_ok nmX2 hown hK hP hD hS 0 rfl rfl 0 (by decide) (hts (.fieldLink RX2 11 "MixedWords$Least" "square" "[[J") (by decide +kernel)) (fun _ h9 => h9) rfl hin rfl (by decide +kernel) rfl rfl (Nat.le_of_ble_eq_true rfl) dX2_init_11 (fun H locs hP hD hS => ?_)
  have hP : va_P (dC, dI) vwCl [(h 106, .inr (2, [.ref q7, .null, .null, .null, .long 0])), (q7, .inl (cs 4, 4, .inr (.inr (.inr (.inr (fun i => if i < 4 then some (r7 i) else none)))))), (r7 0, .inl (cs 1, 4, .inr (.inl (fun _ => 0)))), (r7 1, .inl (cs 1, 4, .inr (.inl (fun _ => 0)))), (r7 2, .inl (cs 1, 4, .inr (.inl (fun _ => 0)))), (r7 3, .inl (cs 1, 4, .inr (.inl (fun _ => 0))))] H := hP
  have hD : va_D A0 [(h 106, .inr (2, [.ref q7, .null, .null, .null, .long 0])), (q7, .inl (cs 4, 4, .inr (.inr (.inr (.inr (fun i => if i < 4 then some (r7 i) else none)))))), (r7 0, .inl (cs 1, 4, .inr (.inl (fun _ => 0)))), (r7 1, .inl (cs 1, 4, .inr (.inl (fun _ => 0)))), (r7 2, .inl (cs 1, 4, .inr (.inl (fun _ => 0)))), (r7 3, .inl (cs 1, 4, .inr (.inl (fun _ => 0))))] := hD
  refine lv_aload_n hx hb dX2_init_14 rfl (lv_at hl 0 rfl) ?_
  refine lv_iconst (v := nI 4) hx hb dX2_init_15 (by decide) ?_
  refine xn_newa (atype := .long) (ty := .long) (cA := cs 1) (n := nI 4) (a0 := (4, .inr (.inl (fun _ => 0)))) (N' := 4) hx hb (hts (.arrayClass .long) (by decide +kernel)) rfl hK hP hD hS hA 1 rfl (fun _ => vp_cell_l _ _ _) (by decide) (by decide) (by decide) (Nat.le_of_ble_eq_true rfl) (Nat.le_of_ble_eq_true rfl) dX2_init_16 (fun q16 H hP hD hS => ?_)
  have hP : va_P (dC, dI) vwCl [(h 106, .inr (2, [.ref q7, .null, .null, .null, .long 0])), (q7, .inl (cs 4, 4, .inr (.inr (.inr (.inr (fun i => if i < 4 then some (r7 i) else none)))))), (r7 0, .inl (cs 1, 4, .inr (.inl (fun _ => 0)))), (r7 1, .inl (cs 1, 4, .inr (.inl (fun _ => 0)))), (r7 2, .inl (cs 1, 4, .inr (.inl (fun _ => 0)))), (r7 3, .inl (cs 1, 4, .inr (.inl (fun _ => 0)))), (q16, .inl (cs 1, 4, .inr (.inl (fun _ => 0))))] H := hP
  have hD : va_D A0 [(h 106, .inr (2, [.ref q7, .null, .null, .null, .long 0])), (q7, .inl (cs 4, 4, .inr (.inr (.inr (.inr (fun i => if i < 4 then some (r7 i) else none)))))), (r7 0, .inl (cs 1, 4, .inr (.inl (fun _ => 0)))), (r7 1, .inl (cs 1, 4, .inr (.inl (fun _ => 0)))), (r7 2, .inl (cs 1, 4, .inr (.inl (fun _ => 0)))), (r7 3, .inl (cs 1, 4, .inr (.inl (fun _ => 0)))), (q16, .inl (cs 1, 4, .inr (.inl (fun _ => 0))))] := hD
  refine va_putF (D := (dC, dI)) (ci := 2) (v := .ref q16) (ty := .array .long) (C := RX2) (T := TX2) (N := 5) hx hb hts hinX2 tyX2 tyX2_ok nmX2 hown hK hP hD hS 0 rfl rfl 1 (by decide) (hts (.fieldLink RX2 16 "MixedWords$Least" "right" "[J") (by decide +kernel)) (fun _ h9 => h9) rfl hin rfl (by decide +kernel) rfl rfl (Nat.le_of_ble_eq_true rfl) dX2_init_18 (fun H locs hP hD hS => ?_)
  have hP : va_P (dC, dI) vwCl [(h 106, .inr (2, [.ref q7, .ref q16, .null, .null, .long 0])), (q7, .inl (cs 4, 4, .inr (.inr (.inr (.inr (fun i => if i < 4 then some (r7 i) else none)))))), (r7 0, .inl (cs 1, 4, .inr (.inl (fun _ => 0)))), (r7 1, .inl (cs 1, 4, .inr (.inl (fun _ => 0)))), (r7 2, .inl (cs 1, 4, .inr (.inl (fun _ => 0)))), (r7 3, .inl (cs 1, 4, .inr (.inl (fun _ => 0)))), (q16, .inl (cs 1, 4, .inr (.inl (fun _ => 0))))] H := hP
  have hD : va_D A0 [(h 106, .inr (2, [.ref q7, .ref q16, .null, .null, .long 0])), (q7, .inl (cs 4, 4, .inr (.inr (.inr (.inr (fun i => if i < 4 then some (r7 i) else none)))))), (r7 0, .inl (cs 1, 4, .inr (.inl (fun _ => 0)))), (r7 1, .inl (cs 1, 4, .inr (.inl (fun _ => 0)))), (r7 2, .inl (cs 1, 4, .inr (.inl (fun _ => 0)))), (r7 3, .inl (cs 1, 4, .inr (.inl (fun _ => 0)))), (q16, .inl (cs 1, 4, .inr (.inl (fun _ => 0))))] := hD
  refine lv_aload_n hx hb dX2_init_21 rfl (lv_at hl 0 rfl) ?_
  refine lv_iconst (v := nI 4) hx hb dX2_init_22 (by decide) ?_
  refine xn_newa (atype := .int) (ty := .int) (cA := cs 0) (n := nI 4) (a0 := (4, .inl (fun _ => 0))) (N' := 4) hx hb (hts (.arrayClass .int) (by decide +kernel)) rfl hK hP hD hS hA 0 rfl (fun _ => vp_cell_i _ _ _) (by decide) (by decide) (by decide) (Nat.le_of_ble_eq_true rfl) (Nat.le_of_ble_eq_true rfl) dX2_init_23 (fun q23 H hP hD hS => ?_)
  have hP : va_P (dC, dI) vwCl [(h 106, .inr (2, [.ref q7, .ref q16, .null, .null, .long 0])), (q7, .inl (cs 4, 4, .inr (.inr (.inr (.inr (fun i => if i < 4 then some (r7 i) else none)))))), (r7 0, .inl (cs 1, 4, .inr (.inl (fun _ => 0)))), (r7 1, .inl (cs 1, 4, .inr (.inl (fun _ => 0)))), (r7 2, .inl (cs 1, 4, .inr (.inl (fun _ => 0)))), (r7 3, .inl (cs 1, 4, .inr (.inl (fun _ => 0)))), (q16, .inl (cs 1, 4, .inr (.inl (fun _ => 0)))), (q23, .inl (cs 0, 4, .inl (fun _ => 0)))] H := hP
  have hD : va_D A0 [(h 106, .inr (2, [.ref q7, .ref q16, .null, .null, .long 0])), (q7, .inl (cs 4, 4, .inr (.inr (.inr (.inr (fun i => if i < 4 then some (r7 i) else none)))))), (r7 0, .inl (cs 1, 4, .inr (.inl (fun _ => 0)))), (r7 1, .inl (cs 1, 4, .inr (.inl (fun _ => 0)))), (r7 2, .inl (cs 1, 4, .inr (.inl (fun _ => 0)))), (r7 3, .inl (cs 1, 4, .inr (.inl (fun _ => 0)))), (q16, .inl (cs 1, 4, .inr (.inl (fun _ => 0)))), (q23, .inl (cs 0, 4, .inl (fun _ => 0)))] := hD
  refine va_putF (D := (dC, dI)) (ci := 2) (v := .ref q23) (ty := .array .int) (C := RX2) (T := TX2) (N := 5) hx hb hts hinX2 tyX2 tyX2_ok nmX2 hown hK hP hD hS 0 rfl rfl 2 (by decide) (hts (.fieldLink RX2 20 "MixedWords$Least" "picked" "[I") (by decide +kernel)) (fun _ h9 => h9) rfl hin rfl (by decide +kernel) rfl rfl (Nat.le_of_ble_eq_true rfl) dX2_init_25 (fun H locs hP hD hS => ?_)
  have hP : va_P (dC, dI) vwCl [(h 106, .inr (2, [.ref q7, .ref q16, .ref q23, .null, .long 0])), (q7, .inl (cs 4, 4, .inr (.inr (.inr (.inr (fun i => if i < 4 then some (r7 i) else none)))))), (r7 0, .inl (cs 1, 4, .inr (.inl (fun _ => 0)))), (r7 1, .inl (cs 1, 4, .inr (.inl (fun _ => 0)))), (r7 2, .inl (cs 1, 4, .inr (.inl (fun _ => 0)))), (r7 3, .inl (cs 1, 4, .inr (.inl (fun _ => 0)))), (q16, .inl (cs 1, 4, .inr (.inl (fun _ => 0)))), (q23, .inl (cs 0, 4, .inl (fun _ => 0)))] H := hP
  have hD : va_D A0 [(h 106, .inr (2, [.ref q7, .ref q16, .ref q23, .null, .long 0])), (q7, .inl (cs 4, 4, .inr (.inr (.inr (.inr (fun i => if i < 4 then some (r7 i) else none)))))), (r7 0, .inl (cs 1, 4, .inr (.inl (fun _ => 0)))), (r7 1, .inl (cs 1, 4, .inr (.inl (fun _ => 0)))), (r7 2, .inl (cs 1, 4, .inr (.inl (fun _ => 0)))), (r7 3, .inl (cs 1, 4, .inr (.inl (fun _ => 0)))), (q16, .inl (cs 1, 4, .inr (.inl (fun _ => 0)))), (q23, .inl (cs 0, 4, .inl (fun _ => 0)))] := hD
  refine lv_aload_n hx hb dX2_init_28 rfl (lv_at hl 0 rfl) ?_
  refine lv_iconst (v := nI 4) hx hb dX2_init_29 (by decide) ?_
  refine xn_newa (atype := .long) (ty := .long) (cA := cs 1) (n := nI 4) (a0 := (4, .inr (.inl (fun _ => 0)))) (N' := 4) hx hb (hts (.arrayClass .long) (by decide +kernel)) rfl hK hP hD hS hA 1 rfl (fun _ => vp_cell_l _ _ _) (by decide) (by decide) (by decide) (Nat.le_of_ble_eq_true rfl) (Nat.le_of_ble_eq_true rfl) dX2_init_30 (fun q30 H hP hD hS => ?_)
  have hP : va_P (dC, dI) vwCl [(h 106, .inr (2, [.ref q7, .ref q16, .ref q23, .null, .long 0])), (q7, .inl (cs 4, 4, .inr (.inr (.inr (.inr (fun i => if i < 4 then some (r7 i) else none)))))), (r7 0, .inl (cs 1, 4, .inr (.inl (fun _ => 0)))), (r7 1, .inl (cs 1, 4, .inr (.inl (fun _ => 0)))), (r7 2, .inl (cs 1, 4, .inr (.inl (fun _ => 0)))), (r7 3, .inl (cs 1, 4, .inr (.inl (fun _ => 0)))), (q16, .inl (cs 1, 4, .inr (.inl (fun _ => 0)))), (q23, .inl (cs 0, 4, .inl (fun _ => 0))), (q30, .inl (cs 1, 4, .inr (.inl (fun _ => 0))))] H := hP
  have hD : va_D A0 [(h 106, .inr (2, [.ref q7, .ref q16, .ref q23, .null, .long 0])), (q7, .inl (cs 4, 4, .inr (.inr (.inr (.inr (fun i => if i < 4 then some (r7 i) else none)))))), (r7 0, .inl (cs 1, 4, .inr (.inl (fun _ => 0)))), (r7 1, .inl (cs 1, 4, .inr (.inl (fun _ => 0)))), (r7 2, .inl (cs 1, 4, .inr (.inl (fun _ => 0)))), (r7 3, .inl (cs 1, 4, .inr (.inl (fun _ => 0)))), (q16, .inl (cs 1, 4, .inr (.inl (fun _ => 0)))), (q23, .inl (cs 0, 4, .inl (fun _ => 0))), (q30, .inl (cs 1, 4, .inr (.inl (fun _ => 0))))] := hD
  refine va_putF (D := (dC, dI)) (ci := 2) (v := .ref q30) (ty := .array .long) (C := RX2) (T := TX2) (N := 5) hx hb hts hinX2 tyX2 tyX2_ok nmX2 hown hK hP hD hS 0 rfl rfl 3 (by decide) (hts (.fieldLink RX2 24 "MixedWords$Least" "above" "[J") (by decide +kernel)) (fun _ h9 => h9) rfl hin rfl (by decide +kernel) rfl rfl (Nat.le_of_ble_eq_true rfl) dX2_init_32 (fun H locs hP hD hS => ?_)
  have hP : va_P (dC, dI) vwCl [(h 106, .inr (2, [.ref q7, .ref q16, .ref q23, .ref q30, .long 0])), (q7, .inl (cs 4, 4, .inr (.inr (.inr (.inr (fun i => if i < 4 then some (r7 i) else none)))))), (r7 0, .inl (cs 1, 4, .inr (.inl (fun _ => 0)))), (r7 1, .inl (cs 1, 4, .inr (.inl (fun _ => 0)))), (r7 2, .inl (cs 1, 4, .inr (.inl (fun _ => 0)))), (r7 3, .inl (cs 1, 4, .inr (.inl (fun _ => 0)))), (q16, .inl (cs 1, 4, .inr (.inl (fun _ => 0)))), (q23, .inl (cs 0, 4, .inl (fun _ => 0))), (q30, .inl (cs 1, 4, .inr (.inl (fun _ => 0))))] H := hP
  have hD : va_D A0 [(h 106, .inr (2, [.ref q7, .ref q16, .ref q23, .ref q30, .long 0])), (q7, .inl (cs 4, 4, .inr (.inr (.inr (.inr (fun i => if i < 4 then some (r7 i) else none)))))), (r7 0, .inl (cs 1, 4, .inr (.inl (fun _ => 0)))), (r7 1, .inl (cs 1, 4, .inr (.inl (fun _ => 0)))), (r7 2, .inl (cs 1, 4, .inr (.inl (fun _ => 0)))), (r7 3, .inl (cs 1, 4, .inr (.inl (fun _ => 0)))), (q16, .inl (cs 1, 4, .inr (.inl (fun _ => 0)))), (q23, .inl (cs 0, 4, .inl (fun _ => 0))), (q30, .inl (cs 1, 4, .inr (.inl (fun _ => 0))))] := hD
  rw [rowsF (g := (adr [(180, q7), (181, (r7 0)), (182, (r7 1)), (183, (r7 2)), (184, (r7 3)), (185, q16), (186, q23), (187, q30)])) (r := r7) (n := 4) (b := 181) (fun i hi => by rcases (show i = 0 ∨ i = 1 ∨ i = 2 ∨ i = 3 by omega) with rfl | rfl | rfl | rfl <;> rfl)] at hP hD
  have hP := xP_sub (wc := [(h 106, .inr (2, [.ref ((adr [(180, q7), (181, (r7 0)), (182, (r7 1)), (183, (r7 2)), (184, (r7 3)), (185, q16), (186, q23), (187, q30)]) 180), .ref ((adr [(180, q7), (181, (r7 0)), (182, (r7 1)), (183, (r7 2)), (184, (r7 3)), (185, q16), (186, q23), (187, q30)]) 185), .ref ((adr [(180, q7), (181, (r7 0)), (182, (r7 1)), (183, (r7 2)), (184, (r7 3)), (185, q16), (186, q23), (187, q30)]) 186), .ref ((adr [(180, q7), (181, (r7 0)), (182, (r7 1)), (183, (r7 2)), (184, (r7 3)), (185, q16), (186, q23), (187, q30)]) 187), .long (fL 188)])), ((adr [(180, q7), (181, (r7 0)), (182, (r7 1)), (183, (r7 2)), (184, (r7 3)), (185, q16), (186, q23), (187, q30)]) 180, .inl (cs 4, 4, .inr (.inr (.inr (.inr (fun i => if i < 4 then some ((adr [(180, q7), (181, (r7 0)), (182, (r7 1)), (183, (r7 2)), (184, (r7 3)), (185, q16), (186, q23), (187, q30)]) (i + 181)) else none)))))), ((adr [(180, q7), (181, (r7 0)), (182, (r7 1)), (183, (r7 2)), (184, (r7 3)), (185, q16), (186, q23), (187, q30)]) 181, .inl (cs 1, 4, .inr (.inl ((fJ 0) 0)))), ((adr [(180, q7), (181, (r7 0)), (182, (r7 1)), (183, (r7 2)), (184, (r7 3)), (185, q16), (186, q23), (187, q30)]) 182, .inl (cs 1, 4, .inr (.inl ((fJ 0) 1)))), ((adr [(180, q7), (181, (r7 0)), (182, (r7 1)), (183, (r7 2)), (184, (r7 3)), (185, q16), (186, q23), (187, q30)]) 183, .inl (cs 1, 4, .inr (.inl ((fJ 0) 2)))), ((adr [(180, q7), (181, (r7 0)), (182, (r7 1)), (183, (r7 2)), (184, (r7 3)), (185, q16), (186, q23), (187, q30)]) 184, .inl (cs 1, 4, .inr (.inl ((fJ 0) 3)))), ((adr [(180, q7), (181, (r7 0)), (182, (r7 1)), (183, (r7 2)), (184, (r7 3)), (185, q16), (186, q23), (187, q30)]) 185, .inl (cs 1, 4, .inr (.inl (fQ 185)))), ((adr [(180, q7), (181, (r7 0)), (182, (r7 1)), (183, (r7 2)), (184, (r7 3)), (185, q16), (186, q23), (187, q30)]) 186, .inl (cs 0, 4, .inl (fA 186))), ((adr [(180, q7), (181, (r7 0)), (182, (r7 1)), (183, (r7 2)), (184, (r7 3)), (185, q16), (186, q23), (187, q30)]) 187, .inl (cs 1, 4, .inr (.inl (fQ 187))))]) hP [0, 1, 2, 3, 4, 5, 6, 7, 8] rfl
  have hD : va_D A0 [(h 106, .inr (2, [.ref ((adr [(180, q7), (181, (r7 0)), (182, (r7 1)), (183, (r7 2)), (184, (r7 3)), (185, q16), (186, q23), (187, q30)]) 180), .ref ((adr [(180, q7), (181, (r7 0)), (182, (r7 1)), (183, (r7 2)), (184, (r7 3)), (185, q16), (186, q23), (187, q30)]) 185), .ref ((adr [(180, q7), (181, (r7 0)), (182, (r7 1)), (183, (r7 2)), (184, (r7 3)), (185, q16), (186, q23), (187, q30)]) 186), .ref ((adr [(180, q7), (181, (r7 0)), (182, (r7 1)), (183, (r7 2)), (184, (r7 3)), (185, q16), (186, q23), (187, q30)]) 187), .long (fL 188)])), ((adr [(180, q7), (181, (r7 0)), (182, (r7 1)), (183, (r7 2)), (184, (r7 3)), (185, q16), (186, q23), (187, q30)]) 180, .inl (cs 4, 4, .inr (.inr (.inr (.inr (fun i => if i < 4 then some ((adr [(180, q7), (181, (r7 0)), (182, (r7 1)), (183, (r7 2)), (184, (r7 3)), (185, q16), (186, q23), (187, q30)]) (i + 181)) else none)))))), ((adr [(180, q7), (181, (r7 0)), (182, (r7 1)), (183, (r7 2)), (184, (r7 3)), (185, q16), (186, q23), (187, q30)]) 181, .inl (cs 1, 4, .inr (.inl ((fJ 0) 0)))), ((adr [(180, q7), (181, (r7 0)), (182, (r7 1)), (183, (r7 2)), (184, (r7 3)), (185, q16), (186, q23), (187, q30)]) 182, .inl (cs 1, 4, .inr (.inl ((fJ 0) 1)))), ((adr [(180, q7), (181, (r7 0)), (182, (r7 1)), (183, (r7 2)), (184, (r7 3)), (185, q16), (186, q23), (187, q30)]) 183, .inl (cs 1, 4, .inr (.inl ((fJ 0) 2)))), ((adr [(180, q7), (181, (r7 0)), (182, (r7 1)), (183, (r7 2)), (184, (r7 3)), (185, q16), (186, q23), (187, q30)]) 184, .inl (cs 1, 4, .inr (.inl ((fJ 0) 3)))), ((adr [(180, q7), (181, (r7 0)), (182, (r7 1)), (183, (r7 2)), (184, (r7 3)), (185, q16), (186, q23), (187, q30)]) 185, .inl (cs 1, 4, .inr (.inl (fQ 185)))), ((adr [(180, q7), (181, (r7 0)), (182, (r7 1)), (183, (r7 2)), (184, (r7 3)), (185, q16), (186, q23), (187, q30)]) 186, .inl (cs 0, 4, .inl (fA 186))), ((adr [(180, q7), (181, (r7 0)), (182, (r7 1)), (183, (r7 2)), (184, (r7 3)), (185, q16), (186, q23), (187, q30)]) 187, .inl (cs 1, 4, .inr (.inl (fQ 187))))] := hD.sub [0, 1, 2, 3, 4, 5, 6, 7, 8] (by decide +kernel) rfl
  exact xr_v hx hb hr hlocks hK hS dX2_init_35 (adr [(180, q7), (181, (r7 0)), (182, (r7 1)), (183, (r7 2)), (184, (r7 3)), (185, q16), (186, q23), (187, q30)]) trivial hP hD
theorem bdX6_init_0 : (decode cX6_init 0 = .ok (.aload_n 0, 1)) ∧ (decode cX6_init 1 = .ok (.invokespecial 3, 3)) ∧ (decode cX6_init 4 = .ok (.aload_n 0, 1)) ∧ (decode cX6_init 5 = .ok (.iconst 5, 1)) ∧ (decode cX6_init 6 = .ok (.newarray .int, 2)) ∧ (decode cX6_init 8 = .ok (.putfield 9, 3)) ∧ (decode cX6_init 11 = .ok (.aload_n 0, 1)) ∧ (decode cX6_init 12 = .ok (.iconst 4, 1)) ∧ (decode cX6_init 13 = .ok (.newarray .int, 2)) ∧ (decode cX6_init 15 = .ok (.putfield 15, 3)) ∧ (decode cX6_init 18 = .ok (.aload_n 0, 1)) ∧ (decode cX6_init 19 = .ok (.iconst 4, 1)) ∧ (decode cX6_init 20 = .ok (.newarray .int, 2)) ∧ (decode cX6_init 22 = .ok (.putfield 18, 3)) ∧ (decode cX6_init 25 = .ok (.aload_n 0, 1)) ∧ (decode cX6_init 26 = .ok (.aload_n 1, 1)) := by decide +kernel
theorem dX6_init_0 : decode cX6_init 0 = .ok (.aload_n 0, 1) := bdX6_init_0.1
theorem dX6_init_1 : decode cX6_init 1 = .ok (.invokespecial 3, 3) := bdX6_init_0.2.1
theorem dX6_init_4 : decode cX6_init 4 = .ok (.aload_n 0, 1) := bdX6_init_0.2.2.1
theorem dX6_init_5 : decode cX6_init 5 = .ok (.iconst 5, 1) := bdX6_init_0.2.2.2.1
theorem dX6_init_6 : decode cX6_init 6 = .ok (.newarray .int, 2) := bdX6_init_0.2.2.2.2.1
theorem dX6_init_8 : decode cX6_init 8 = .ok (.putfield 9, 3) := bdX6_init_0.2.2.2.2.2.1
theorem dX6_init_11 : decode cX6_init 11 = .ok (.aload_n 0, 1) := bdX6_init_0.2.2.2.2.2.2.1
theorem dX6_init_12 : decode cX6_init 12 = .ok (.iconst 4, 1) := bdX6_init_0.2.2.2.2.2.2.2.1
theorem dX6_init_13 : decode cX6_init 13 = .ok (.newarray .int, 2) := bdX6_init_0.2.2.2.2.2.2.2.2.1
theorem dX6_init_15 : decode cX6_init 15 = .ok (.putfield 15, 3) := bdX6_init_0.2.2.2.2.2.2.2.2.2.1
theorem dX6_init_18 : decode cX6_init 18 = .ok (.aload_n 0, 1) := bdX6_init_0.2.2.2.2.2.2.2.2.2.2.1
theorem dX6_init_19 : decode cX6_init 19 = .ok (.iconst 4, 1) := bdX6_init_0.2.2.2.2.2.2.2.2.2.2.2.1
theorem dX6_init_20 : decode cX6_init 20 = .ok (.newarray .int, 2) := bdX6_init_0.2.2.2.2.2.2.2.2.2.2.2.2.1
theorem dX6_init_22 : decode cX6_init 22 = .ok (.putfield 18, 3) := bdX6_init_0.2.2.2.2.2.2.2.2.2.2.2.2.2.1
theorem dX6_init_25 : decode cX6_init 25 = .ok (.aload_n 0, 1) := bdX6_init_0.2.2.2.2.2.2.2.2.2.2.2.2.2.2.1
theorem dX6_init_26 : decode cX6_init 26 = .ok (.aload_n 1, 1) := bdX6_init_0.2.2.2.2.2.2.2.2.2.2.2.2.2.2.2
theorem dX6_init_27 : decode cX6_init 27 = .ok (.putfield 21, 3) := by decide +kernel
theorem dX6_init_30 : decode cX6_init 30 = .ok (.return_, 1) := by decide +kernel
set_option maxHeartbeats 4000000 in
set_option maxRecDepth 100000 in
theorem k_X6_init (l : Launch) (dC : Nat → ClassId) (dI : Nat → Nat → Nat) (h : Nat → Nat) (cs : Nat → ClassId) (sz : Nat) : Met l yX6_init wsX6_init ({ frames := 1, cells := 3, slots := 13, locals := 12 }) (va_Pc [.ref (h 107), .ref (h 101)] (xPreI (dC, dI) [(h 107, .inr (6, [.null, .null, .null, .null]))] (tysA cs) sz)) (va_Qv (fun u : Nat → Nat => True) (xB (dC, dI) (tysA cs) (va_A [(h 107, .inr (6, [.null, .null, .null, .null]))] sz) (fun u : Nat → Nat => [(h 107, .inr (6, [.ref (h 101), .ref (u 190), .ref (u 191), .ref (u 192)])), (u 190, .inl (cs 0, 5, .inl (fA 190))), (u 191, .inl (cs 0, 4, .inl (fA 191))), (u 192, .inl (cs 0, 4, .inl (fA 192)))])) (va_A [(h 107, .inr (6, [.null, .null, .null, .null]))] sz)) 3 13 (va_A [(h 107, .inr (6, [.null, .null, .null, .null]))] sz) := by
  refine Met.ofW (cc := cX6_init) (maxL := 2) (ret := none) (by decide) rfl ?_
  intro p e s m args below meth c s₁ B hml hv
  obtain ⟨rfl, ⟨hsz, hP, hK, hD0, hN⟩, hO⟩ := hv
  have hx := B.exec
  have hb := B.bytes
  have hr := B.returns
  have hts := atoms_spec (ws := wsX6_init) B.pre
  have hown : s.vm.findClass RX6 = some m.cls := findClass_of_methodNamed B.named
  have hlocks := B.notSynchronized
  subst hsz
  have hD := hD0.self (sz := s.heap.size)
  generalize hAe : va_A [(h 107, .inr (6, [.null, .null, .null, .null]))] s.heap.size = A0 at hD ⊢
  have hA : ∀ q : Nat, s.heap.size ≤ q → A0 q := fun q h => by rw [← hAe]; exact Or.inr h
  have hin : meth.name = "<init>" := (name_of_methodNamed B.named B.method).1
  have hl := lv_entry ([.ref (h 107), .ref (h 101)]) (n := 2) (Nat.le_of_ble_eq_true rfl)
  rw [lg_entry_eq]
  generalize (lg_sl ([.ref (h 107), .ref (h 101)]) ++ List.replicate (2 - (lg_sl ([.ref (h 107), .ref (h 101)])).length) Slot.unset).toArray = ls at hl ⊢
  have hl : lv_has ls 2 [(0, .ref (h 107)), (1, .ref (h 101))] := hl
  generalize hH : s.heap = H at hP ⊢
  have hS : va_S A0 s.heap H [] := by rw [← hH]; exact va_S.rf
  have hinX6 : ∀ w ∈ wsX60, w ∈ wsX6_init := by decide +kernel
  refine lv_aload_n hx hb dX6_init_0 rfl (lv_at hl 0 rfl) ?_
  refine W.objInit hx hb hown (hts (.methodLink RX6 3 objectInit) (by decide +kernel)) (hts (.instanceMethod objectInit) (by decide +kernel)) (hts _ (by decide +kernel : Cond.code objectInit ⟨#[0xb1]⟩ 1 none ∈ wsX6_init)) rfl (by rw [hml]; exact hl.1) rfl dX6_init_1 (Nat.le_of_ble_eq_true rfl) (Nat.le_of_ble_eq_true rfl) ?_
  refine W.eq (g2 := F0 m 4 ls []) rfl ?_
  refine lv_aload_n hx hb dX6_init_4 rfl (lv_at hl 0 rfl) ?_
  refine lv_iconst (v := nI 5) hx hb dX6_init_5 (by decide) ?_
  refine xn_newa (atype := .int) (ty := .int) (cA := cs 0) (n := nI 5) (a0 := (5, .inl (fun _ => 0))) (N' := 5) hx hb (hts (.arrayClass .int) (by decide +kernel)) rfl hK hP hD hS hA 0 rfl (fun _ => vp_cell_i _ _ _) (by decide) (by decide) (by decide) (Nat.le_of_ble_eq_true rfl) (Nat.le_of_ble_eq_true rfl) dX6_init_6 (fun q6 H hP hD hS => ?_)
  have hP : va_P (dC, dI) vwCl [(h 107, .inr (6, [.null, .null, .null, .null])), (q6, .inl (cs 0, 5, .inl (fun _ => 0)))] H := hP
  have hD : va_D A0 [(h 107, .inr (6, [.null, .null, .null, .null])), (q6, .inl (cs 0, 5, .inl (fun _ => 0)))] := hD
  refine va_putF (D := (dC, dI)) (ci := 6) (v := .ref q6) (ty := .array .int) (C := RX6) (T := TX6) (N := 4) hx hb hts hinX6 tyX6 tyX6_ok nmX6 hown hK hP hD hS 0 rfl rfl 1 (by decide) (hts (.fieldLink RX6 9 "MixedWords$Taker" "left" "[I") (by decide +kernel)) (fun _ h9 => h9) rfl hin rfl (by decide +kernel) rfl rfl (Nat.le_of_ble_eq_true rfl) dX6_init_8 (fun H locs hP hD hS => ?_)
  have hP : va_P (dC, dI) vwCl [(h 107, .inr (6, [.null, .ref q6, .null, .null])), (q6, .inl (cs 0, 5, .inl (fun _ => 0)))] H := hP
  have hD : va_D A0 [(h 107, .inr (6, [.null, .ref q6, .null, .null])), (q6, .inl (cs 0, 5, .inl (fun _ => 0)))] := hD
  refine lv_aload_n hx hb dX6_init_11 rfl (lv_at hl 0 rfl) ?_
  refine lv_iconst (v := nI 4) hx hb dX6_init_12 (by decide) ?_
  refine xn_newa (atype := .int) (ty := .int) (cA := cs 0) (n := nI 4) (a0 := (4, .inl (fun _ => 0))) (N' := 4) hx hb (hts (.arrayClass .int) (by decide +kernel)) rfl hK hP hD hS hA 0 rfl (fun _ => vp_cell_i _ _ _) (by decide) (by decide) (by decide) (Nat.le_of_ble_eq_true rfl) (Nat.le_of_ble_eq_true rfl) dX6_init_13 (fun q13 H hP hD hS => ?_)
  have hP : va_P (dC, dI) vwCl [(h 107, .inr (6, [.null, .ref q6, .null, .null])), (q6, .inl (cs 0, 5, .inl (fun _ => 0))), (q13, .inl (cs 0, 4, .inl (fun _ => 0)))] H := hP
  have hD : va_D A0 [(h 107, .inr (6, [.null, .ref q6, .null, .null])), (q6, .inl (cs 0, 5, .inl (fun _ => 0))), (q13, .inl (cs 0, 4, .inl (fun _ => 0)))] := hD
  refine va_putF (D := (dC, dI)) (ci := 6) (v := .ref q13) (ty := .array .int) (C := RX6) (T := TX6) (N := 4) hx hb hts hinX6 tyX6 tyX6_ok nmX6 hown hK hP hD hS 0 rfl rfl 2 (by decide) (hts (.fieldLink RX6 15 "MixedWords$Taker" "sequence" "[I") (by decide +kernel)) (fun _ h9 => h9) rfl hin rfl (by decide +kernel) rfl rfl (Nat.le_of_ble_eq_true rfl) dX6_init_15 (fun H locs hP hD hS => ?_)
  have hP : va_P (dC, dI) vwCl [(h 107, .inr (6, [.null, .ref q6, .ref q13, .null])), (q6, .inl (cs 0, 5, .inl (fun _ => 0))), (q13, .inl (cs 0, 4, .inl (fun _ => 0)))] H := hP
  have hD : va_D A0 [(h 107, .inr (6, [.null, .ref q6, .ref q13, .null])), (q6, .inl (cs 0, 5, .inl (fun _ => 0))), (q13, .inl (cs 0, 4, .inl (fun _ => 0)))] := hD
  refine lv_aload_n hx hb dX6_init_18 rfl (lv_at hl 0 rfl) ?_
  refine lv_iconst (v := nI 4) hx hb dX6_init_19 (by decide) ?_
  refine xn_newa (atype := .int) (ty := .int) (cA := cs 0) (n := nI 4) (a0 := (4, .inl (fun _ => 0))) (N' := 4) hx hb (hts (.arrayClass .int) (by decide +kernel)) rfl hK hP hD hS hA 0 rfl (fun _ => vp_cell_i _ _ _) (by decide) (by decide) (by decide) (Nat.le_of_ble_eq_true rfl) (Nat.le_of_ble_eq_true rfl) dX6_init_20 (fun q20 H hP hD hS => ?_)
  have hP : va_P (dC, dI) vwCl [(h 107, .inr (6, [.null, .ref q6, .ref q13, .null])), (q6, .inl (cs 0, 5, .inl (fun _ => 0))), (q13, .inl (cs 0, 4, .inl (fun _ => 0))), (q20, .inl (cs 0, 4, .inl (fun _ => 0)))] H := hP
  have hD : va_D A0 [(h 107, .inr (6, [.null, .ref q6, .ref q13, .null])), (q6, .inl (cs 0, 5, .inl (fun _ => 0))), (q13, .inl (cs 0, 4, .inl (fun _ => 0))), (q20, .inl (cs 0, 4, .inl (fun _ => 0)))] := hD
  refine va_putF (D := (dC, dI)) (ci := 6) (v := .ref q20) (ty := .array .int) (C := RX6) (T := TX6) (N := 4) hx hb hts hinX6 tyX6 tyX6_ok nmX6 hown hK hP hD hS 0 rfl rfl 3 (by decide) (hts (.fieldLink RX6 18 "MixedWords$Taker" "indexes" "[I") (by decide +kernel)) (fun _ h9 => h9) rfl hin rfl (by decide +kernel) rfl rfl (Nat.le_of_ble_eq_true rfl) dX6_init_22 (fun H locs hP hD hS => ?_)
  have hP : va_P (dC, dI) vwCl [(h 107, .inr (6, [.null, .ref q6, .ref q13, .ref q20])), (q6, .inl (cs 0, 5, .inl (fun _ => 0))), (q13, .inl (cs 0, 4, .inl (fun _ => 0))), (q20, .inl (cs 0, 4, .inl (fun _ => 0)))] H := hP
  have hD : va_D A0 [(h 107, .inr (6, [.null, .ref q6, .ref q13, .ref q20])), (q6, .inl (cs 0, 5, .inl (fun _ => 0))), (q13, .inl (cs 0, 4, .inl (fun _ => 0))), (q20, .inl (cs 0, 4, .inl (fun _ => 0)))] := hD
  refine lv_aload_n hx hb dX6_init_25 rfl (lv_at hl 0 rfl) ?_
  refine lv_aload_n hx hb dX6_init_26 rfl (lv_at hl 1 rfl) ?_
  refine va_putF (D := (dC, dI)) (ci := 6) (v := .ref (h 101)) (ty := .object "MixedWords$Mix") (C := RX6) (T := TX6) (N := 4) hx hb hts hinX6 tyX6 tyX6_ok nmX6 hown hK hP hD hS 0 rfl rfl 0 (by decide) (hts (.fieldLink RX6 21 "MixedWords$Taker" "mix" "LMixedWords$Mix;") (by decide +kernel)) (fun _ h9 => h9) rfl hin rfl (by decide +kernel) rfl rfl (Nat.le_of_ble_eq_true rfl) dX6_init_27 (fun H locs hP hD hS => ?_)
  have hP : va_P (dC, dI) vwCl [(h 107, .inr (6, [.ref (h 101), .ref q6, .ref q13, .ref q20])), (q6, .inl (cs 0, 5, .inl (fun _ => 0))), (q13, .inl (cs 0, 4, .inl (fun _ => 0))), (q20, .inl (cs 0, 4, .inl (fun _ => 0)))] H := hP
  have hD : va_D A0 [(h 107, .inr (6, [.ref (h 101), .ref q6, .ref q13, .ref q20])), (q6, .inl (cs 0, 5, .inl (fun _ => 0))), (q13, .inl (cs 0, 4, .inl (fun _ => 0))), (q20, .inl (cs 0, 4, .inl (fun _ => 0)))] := hD
  have hP := xP_sub (wc := [(h 107, .inr (6, [.ref (h 101), .ref ((adr [(190, q6), (191, q13), (192, q20)]) 190), .ref ((adr [(190, q6), (191, q13), (192, q20)]) 191), .ref ((adr [(190, q6), (191, q13), (192, q20)]) 192)])), ((adr [(190, q6), (191, q13), (192, q20)]) 190, .inl (cs 0, 5, .inl (fA 190))), ((adr [(190, q6), (191, q13), (192, q20)]) 191, .inl (cs 0, 4, .inl (fA 191))), ((adr [(190, q6), (191, q13), (192, q20)]) 192, .inl (cs 0, 4, .inl (fA 192)))]) hP [0, 1, 2, 3] rfl
  have hD : va_D A0 [(h 107, .inr (6, [.ref (h 101), .ref ((adr [(190, q6), (191, q13), (192, q20)]) 190), .ref ((adr [(190, q6), (191, q13), (192, q20)]) 191), .ref ((adr [(190, q6), (191, q13), (192, q20)]) 192)])), ((adr [(190, q6), (191, q13), (192, q20)]) 190, .inl (cs 0, 5, .inl (fA 190))), ((adr [(190, q6), (191, q13), (192, q20)]) 191, .inl (cs 0, 4, .inl (fA 191))), ((adr [(190, q6), (191, q13), (192, q20)]) 192, .inl (cs 0, 4, .inl (fA 192)))] := hD.sub [0, 1, 2, 3] (by decide +kernel) rfl
  exact xr_v hx hb hr hlocks hK hS dX6_init_30 (adr [(190, q6), (191, q13), (192, q20)]) trivial hP hD
theorem bdX1_init_0 : (decode cX1_init 0 = .ok (.aload_n 0, 1)) ∧ (decode cX1_init 1 = .ok (.invokespecial 3, 3)) ∧ (decode cX1_init 4 = .ok (.aload_n 0, 1)) ∧ (decode cX1_init 5 = .ok (.iconst 5, 1)) ∧ (decode cX1_init 6 = .ok (.iconst 4, 1)) ∧ (decode cX1_init 7 = .ok (.multianewarray 9 2, 4)) ∧ (decode cX1_init 11 = .ok (.putfield 11, 3)) ∧ (decode cX1_init 14 = .ok (.aload_n 0, 1)) ∧ (decode cX1_init 15 = .ok (.iconst 4, 1)) ∧ (decode cX1_init 16 = .ok (.iconst 4, 1)) ∧ (decode cX1_init 17 = .ok (.multianewarray 9 2, 4)) ∧ (decode cX1_init 21 = .ok (.putfield 16, 3)) ∧ (decode cX1_init 24 = .ok (.aload_n 0, 1)) ∧ (decode cX1_init 25 = .ok (.iconst 5, 1)) ∧ (decode cX1_init 26 = .ok (.newarray .int, 2)) ∧ (decode cX1_init 28 = .ok (.putfield 19, 3)) := by decide +kernel
theorem dX1_init_0 : decode cX1_init 0 = .ok (.aload_n 0, 1) := bdX1_init_0.1
theorem dX1_init_1 : decode cX1_init 1 = .ok (.invokespecial 3, 3) := bdX1_init_0.2.1
theorem dX1_init_4 : decode cX1_init 4 = .ok (.aload_n 0, 1) := bdX1_init_0.2.2.1
theorem dX1_init_5 : decode cX1_init 5 = .ok (.iconst 5, 1) := bdX1_init_0.2.2.2.1
theorem dX1_init_6 : decode cX1_init 6 = .ok (.iconst 4, 1) := bdX1_init_0.2.2.2.2.1
theorem dX1_init_7 : decode cX1_init 7 = .ok (.multianewarray 9 2, 4) := bdX1_init_0.2.2.2.2.2.1
theorem dX1_init_11 : decode cX1_init 11 = .ok (.putfield 11, 3) := bdX1_init_0.2.2.2.2.2.2.1
theorem dX1_init_14 : decode cX1_init 14 = .ok (.aload_n 0, 1) := bdX1_init_0.2.2.2.2.2.2.2.1
theorem dX1_init_15 : decode cX1_init 15 = .ok (.iconst 4, 1) := bdX1_init_0.2.2.2.2.2.2.2.2.1
theorem dX1_init_16 : decode cX1_init 16 = .ok (.iconst 4, 1) := bdX1_init_0.2.2.2.2.2.2.2.2.2.1
theorem dX1_init_17 : decode cX1_init 17 = .ok (.multianewarray 9 2, 4) := bdX1_init_0.2.2.2.2.2.2.2.2.2.2.1
theorem dX1_init_21 : decode cX1_init 21 = .ok (.putfield 16, 3) := bdX1_init_0.2.2.2.2.2.2.2.2.2.2.2.1
theorem dX1_init_24 : decode cX1_init 24 = .ok (.aload_n 0, 1) := bdX1_init_0.2.2.2.2.2.2.2.2.2.2.2.2.1
theorem dX1_init_25 : decode cX1_init 25 = .ok (.iconst 5, 1) := bdX1_init_0.2.2.2.2.2.2.2.2.2.2.2.2.2.1
theorem dX1_init_26 : decode cX1_init 26 = .ok (.newarray .int, 2) := bdX1_init_0.2.2.2.2.2.2.2.2.2.2.2.2.2.2.1
theorem dX1_init_28 : decode cX1_init 28 = .ok (.putfield 19, 3) := bdX1_init_0.2.2.2.2.2.2.2.2.2.2.2.2.2.2.2
theorem bdX1_init_31 : (decode cX1_init 31 = .ok (.aload_n 0, 1)) ∧ (decode cX1_init 32 = .ok (.iconst 0, 1)) ∧ (decode cX1_init 33 = .ok (.putfield 23, 3)) ∧ (decode cX1_init 36 = .ok (.aload_n 0, 1)) ∧ (decode cX1_init 37 = .ok (.aload_n 1, 1)) ∧ (decode cX1_init 38 = .ok (.putfield 27, 3)) ∧ (decode cX1_init 41 = .ok (.return_, 1)) := by decide +kernel
theorem dX1_init_31 : decode cX1_init 31 = .ok (.aload_n 0, 1) := bdX1_init_31.1
theorem dX1_init_32 : decode cX1_init 32 = .ok (.iconst 0, 1) := bdX1_init_31.2.1
theorem dX1_init_33 : decode cX1_init 33 = .ok (.putfield 23, 3) := bdX1_init_31.2.2.1
theorem dX1_init_36 : decode cX1_init 36 = .ok (.aload_n 0, 1) := bdX1_init_31.2.2.2.1
theorem dX1_init_37 : decode cX1_init 37 = .ok (.aload_n 1, 1) := bdX1_init_31.2.2.2.2.1
theorem dX1_init_38 : decode cX1_init 38 = .ok (.putfield 27, 3) := bdX1_init_31.2.2.2.2.2.1
theorem dX1_init_41 : decode cX1_init 41 = .ok (.return_, 1) := bdX1_init_31.2.2.2.2.2.2
set_option maxHeartbeats 4000000 in
set_option maxRecDepth 100000 in
theorem k_X1_init (l : Launch) (dC : Nat → ClassId) (dI : Nat → Nat → Nat) (h : Nat → Nat) (cs : Nat → ClassId) (sz : Nat) : Met l yX1_init wsX1_init ({ frames := 1, cells := 12, slots := 50, locals := 12 }) (va_Pc [.ref (h 108), .ref (h 101)] (xPreI (dC, dI) [(h 108, .inr (1, [.null, .null, .null, .null, .int 0, .int 0]))] (tysA cs) sz)) (va_Qv (fun u : Nat → Nat => True) (xB (dC, dI) (tysA cs) (va_A [(h 108, .inr (1, [.null, .null, .null, .null, .int 0, .int 0]))] sz) (fun u : Nat → Nat => [(h 108, .inr (1, [.ref (h 101), .ref (u 200), .ref (u 206), .ref (u 211), .int (fI 212), .int (fI 213)])), (u 200, .inl (cs 3, 5, .inr (.inr (.inr (.inr (fun i => if i < 5 then some (u (i + 201)) else none)))))), (u 201, .inl (cs 0, 4, .inl ((fG 2) 0))), (u 202, .inl (cs 0, 4, .inl ((fG 2) 1))), (u 203, .inl (cs 0, 4, .inl ((fG 2) 2))), (u 204, .inl (cs 0, 4, .inl ((fG 2) 3))), (u 205, .inl (cs 0, 4, .inl ((fG 2) 4))), (u 206, .inl (cs 3, 4, .inr (.inr (.inr (.inr (fun i => if i < 4 then some (u (i + 207)) else none)))))), (u 207, .inl (cs 0, 4, .inl ((fG 3) 0))), (u 208, .inl (cs 0, 4, .inl ((fG 3) 1))), (u 209, .inl (cs 0, 4, .inl ((fG 3) 2))), (u 210, .inl (cs 0, 4, .inl ((fG 3) 3))), (u 211, .inl (cs 0, 5, .inl (fA 211)))])) (va_A [(h 108, .inr (1, [.null, .null, .null, .null, .int 0, .int 0]))] sz)) 12 50 (va_A [(h 108, .inr (1, [.null, .null, .null, .null, .int 0, .int 0]))] sz) := by
  refine Met.ofW (cc := cX1_init) (maxL := 2) (ret := none) (by decide) rfl ?_
  intro p e s m args below meth c s₁ B hml hv
  obtain ⟨rfl, ⟨hsz, hP, hK, hD0, hN⟩, hO⟩ := hv
  have hx := B.exec
  have hb := B.bytes
  have hr := B.returns
  have hts := atoms_spec (ws := wsX1_init) B.pre
  have hown : s.vm.findClass RX1 = some m.cls := findClass_of_methodNamed B.named
  have hlocks := B.notSynchronized
  subst hsz
  have hD := hD0.self (sz := s.heap.size)
  generalize hAe : va_A [(h 108, .inr (1, [.null, .null, .null, .null, .int 0, .int 0]))] s.heap.size = A0 at hD ⊢
  have hA : ∀ q : Nat, s.heap.size ≤ q → A0 q := fun q h => by rw [← hAe]; exact Or.inr h
  have hin : meth.name = "<init>" := (name_of_methodNamed B.named B.method).1
  have hl := lv_entry ([.ref (h 108), .ref (h 101)]) (n := 2) (Nat.le_of_ble_eq_true rfl)
  rw [lg_entry_eq]
  generalize (lg_sl ([.ref (h 108), .ref (h 101)]) ++ List.replicate (2 - (lg_sl ([.ref (h 108), .ref (h 101)])).length) Slot.unset).toArray = ls at hl ⊢
  have hl : lv_has ls 2 [(0, .ref (h 108)), (1, .ref (h 101))] := hl
  generalize hH : s.heap = H at hP ⊢
  have hS : va_S A0 s.heap H [] := by rw [← hH]; exact va_S.rf
  have hinX1 : ∀ w ∈ wsX10, w ∈ wsX1_init := by decide +kernel
  refine lv_aload_n hx hb dX1_init_0 rfl (lv_at hl 0 rfl) ?_
  refine W.objInit hx hb hown (hts (.methodLink RX1 3 objectInit) (by decide +kernel)) (hts (.instanceMethod objectInit) (by decide +kernel)) (hts _ (by decide +kernel : Cond.code objectInit ⟨#[0xb1]⟩ 1 none ∈ wsX1_init)) rfl (by rw [hml]; exact hl.1) rfl dX1_init_1 (Nat.le_of_ble_eq_true rfl) (Nat.le_of_ble_eq_true rfl) ?_
  refine W.eq (g2 := F0 m 4 ls []) rfl ?_
  refine lv_aload_n hx hb dX1_init_4 rfl (lv_at hl 0 rfl) ?_
  refine lv_iconst (v := nI 5) hx hb dX1_init_5 (by decide) ?_
  refine lv_iconst (v := nI 4) hx hb dX1_init_6 (by decide) ?_
  refine xn_mna (N' := 5) (K' := 4) (ty := .int) (z := (4, .inl (fun _ => 0))) hx hb hown (hts (.classLink RX1 9 "[[I") (by decide +kernel)) hO.1 (hts (.arrayClass .int) (by decide +kernel)) (hK.2 0 _ rfl).2 hK hP hD hS hA 3 rfl (by decide) (by decide) (by decide) (by decide) (by decide) (by decide) (by decide) rfl rfl (Nat.le_of_ble_eq_true rfl) (Nat.le_of_ble_eq_true rfl) (fun _ => by simp [Jvm.Free.Multi.innerC, vp_cell, ← arrV_new, defaultValue]) dX1_init_7 (fun q7 r7 H hP hD hS => ?_)
  have hP : va_P (dC, dI) vwCl [(h 108, .inr (1, [.null, .null, .null, .null, .int 0, .int 0])), (q7, .inl (cs 3, 5, .inr (.inr (.inr (.inr (fun i => if i < 5 then some (r7 i) else none)))))), (r7 0, .inl (cs 0, 4, .inl (fun _ => 0))), (r7 1, .inl (cs 0, 4, .inl (fun _ => 0))), (r7 2, .inl (cs 0, 4, .inl (fun _ => 0))), (r7 3, .inl (cs 0, 4, .inl (fun _ => 0))), (r7 4, .inl (cs 0, 4, .inl (fun _ => 0)))] H := hP
  have hD : va_D A0 [(h 108, .inr (1, [.null, .null, .null, .null, .int 0, .int 0])), (q7, .inl (cs 3, 5, .inr (.inr (.inr (.inr (fun i => if i < 5 then some (r7 i) else none)))))), (r7 0, .inl (cs 0, 4, .inl (fun _ => 0))), (r7 1, .inl (cs 0, 4, .inl (fun _ => 0))), (r7 2, .inl (cs 0, 4, .inl (fun _ => 0))), (r7 3, .inl (cs 0, 4, .inl (fun _ => 0))), (r7 4, .inl (cs 0, 4, .inl (fun _ => 0)))] := hD
  refine va_putF (D := (dC, dI)) (ci := 1) (v := .ref q7) (ty := .array (.array .int)) (C := RX1) (T := TX1) (N := 6) hx hb hts hinX1 tyX1 tyX1_ok nmX1 hown hK hP hD hS 0 rfl rfl 1 (by decide) (hts (.fieldLink RX1 11 "MixedWords$Leader" "columns" "[[I") (by decide +kernel)) (fun _ h9 => h9) rfl hin rfl (by decide +kernel) rfl rfl (Nat.le_of_ble_eq_true rfl) dX1_init_11 (fun H locs hP hD hS => ?_)
  have hP : va_P (dC, dI) vwCl [(h 108, .inr (1, [.null, .ref q7, .null, .null, .int 0, .int 0])), (q7, .inl (cs 3, 5, .inr (.inr (.inr (.inr (fun i => if i < 5 then some (r7 i) else none)))))), (r7 0, .inl (cs 0, 4, .inl (fun _ => 0))), (r7 1, .inl (cs 0, 4, .inl (fun _ => 0))), (r7 2, .inl (cs 0, 4, .inl (fun _ => 0))), (r7 3, .inl (cs 0, 4, .inl (fun _ => 0))), (r7 4, .inl (cs 0, 4, .inl (fun _ => 0)))] H := hP
  have hD : va_D A0 [(h 108, .inr (1, [.null, .ref q7, .null, .null, .int 0, .int 0])), (q7, .inl (cs 3, 5, .inr (.inr (.inr (.inr (fun i => if i < 5 then some (r7 i) else none)))))), (r7 0, .inl (cs 0, 4, .inl (fun _ => 0))), (r7 1, .inl (cs 0, 4, .inl (fun _ => 0))), (r7 2, .inl (cs 0, 4, .inl (fun _ => 0))), (r7 3, .inl (cs 0, 4, .inl (fun _ => 0))), (r7 4, .inl (cs 0, 4, .inl (fun _ => 0)))] := hD
  refine lv_aload_n hx hb dX1_init_14 rfl (lv_at hl 0 rfl) ?_
  refine lv_iconst (v := nI 4) hx hb dX1_init_15 (by decide) ?_
  refine lv_iconst (v := nI 4) hx hb dX1_init_16 (by decide) ?_
  refine xn_mna (N' := 4) (K' := 4) (ty := .int) (z := (4, .inl (fun _ => 0))) hx hb hown (hts (.classLink RX1 9 "[[I") (by decide +kernel)) hO.1 (hts (.arrayClass .int) (by decide +kernel)) (hK.2 0 _ rfl).2 hK hP hD hS hA 3 rfl (by decide) (by decide) (by decide) (by decide) (by decide) (by decide) (by decide) rfl rfl (Nat.le_of_ble_eq_true rfl) (Nat.le_of_ble_eq_true rfl) (fun _ => by simp [Jvm.Free.Multi.innerC, vp_cell, ← arrV_new, defaultValue]) dX1_init_17 (fun q17 r17 H hP hD hS => ?_)
  have hP : va_P (dC, dI) vwCl [(h 108, .inr (1, [.null, .ref q7, .null, .null, .int 0, .int 0])), (q7, .inl (cs 3, 5, .inr (.inr (.inr (.inr (fun i => if i < 5 then some (r7 i) else none)))))), (r7 0, .inl (cs 0, 4, .inl (fun _ => 0))), (r7 1, .inl (cs 0, 4, .inl (fun _ => 0))), (r7 2, .inl (cs 0, 4, .inl (fun _ => 0))), (r7 3, .inl (cs 0, 4, .inl (fun _ => 0))), (r7 4, .inl (cs 0, 4, .inl (fun _ => 0))), (q17, .inl (cs 3, 4, .inr (.inr (.inr (.inr (fun i => if i < 4 then some (r17 i) else none)))))), (r17 0, .inl (cs 0, 4, .inl (fun _ => 0))), (r17 1, .inl (cs 0, 4, .inl (fun _ => 0))), (r17 2, .inl (cs 0, 4, .inl (fun _ => 0))), (r17 3, .inl (cs 0, 4, .inl (fun _ => 0)))] H := hP
  have hD : va_D A0 [(h 108, .inr (1, [.null, .ref q7, .null, .null, .int 0, .int 0])), (q7, .inl (cs 3, 5, .inr (.inr (.inr (.inr (fun i => if i < 5 then some (r7 i) else none)))))), (r7 0, .inl (cs 0, 4, .inl (fun _ => 0))), (r7 1, .inl (cs 0, 4, .inl (fun _ => 0))), (r7 2, .inl (cs 0, 4, .inl (fun _ => 0))), (r7 3, .inl (cs 0, 4, .inl (fun _ => 0))), (r7 4, .inl (cs 0, 4, .inl (fun _ => 0))), (q17, .inl (cs 3, 4, .inr (.inr (.inr (.inr (fun i => if i < 4 then some (r17 i) else none)))))), (r17 0, .inl (cs 0, 4, .inl (fun _ => 0))), (r17 1, .inl (cs 0, 4, .inl (fun _ => 0))), (r17 2, .inl (cs 0, 4, .inl (fun _ => 0))), (r17 3, .inl (cs 0, 4, .inl (fun _ => 0)))] := hD
  refine va_putF (D := (dC, dI)) (ci := 1) (v := .ref q17) (ty := .array (.array .int)) (C := RX1) (T := TX1) (N := 6) hx hb hts hinX1 tyX1 tyX1_ok nmX1 hown hK hP hD hS 0 rfl rfl 2 (by decide) (hts (.fieldLink RX1 16 "MixedWords$Leader" "steps" "[[I") (by decide +kernel)) (fun _ h9 => h9) rfl hin rfl (by decide +kernel) rfl rfl (Nat.le_of_ble_eq_true rfl) dX1_init_21 (fun H locs hP hD hS => ?_)
  have hP : va_P (dC, dI) vwCl [(h 108, .inr (1, [.null, .ref q7, .ref q17, .null, .int 0, .int 0])), (q7, .inl (cs 3, 5, .inr (.inr (.inr (.inr (fun i => if i < 5 then some (r7 i) else none)))))), (r7 0, .inl (cs 0, 4, .inl (fun _ => 0))), (r7 1, .inl (cs 0, 4, .inl (fun _ => 0))), (r7 2, .inl (cs 0, 4, .inl (fun _ => 0))), (r7 3, .inl (cs 0, 4, .inl (fun _ => 0))), (r7 4, .inl (cs 0, 4, .inl (fun _ => 0))), (q17, .inl (cs 3, 4, .inr (.inr (.inr (.inr (fun i => if i < 4 then some (r17 i) else none)))))), (r17 0, .inl (cs 0, 4, .inl (fun _ => 0))), (r17 1, .inl (cs 0, 4, .inl (fun _ => 0))), (r17 2, .inl (cs 0, 4, .inl (fun _ => 0))), (r17 3, .inl (cs 0, 4, .inl (fun _ => 0)))] H := hP
  have hD : va_D A0 [(h 108, .inr (1, [.null, .ref q7, .ref q17, .null, .int 0, .int 0])), (q7, .inl (cs 3, 5, .inr (.inr (.inr (.inr (fun i => if i < 5 then some (r7 i) else none)))))), (r7 0, .inl (cs 0, 4, .inl (fun _ => 0))), (r7 1, .inl (cs 0, 4, .inl (fun _ => 0))), (r7 2, .inl (cs 0, 4, .inl (fun _ => 0))), (r7 3, .inl (cs 0, 4, .inl (fun _ => 0))), (r7 4, .inl (cs 0, 4, .inl (fun _ => 0))), (q17, .inl (cs 3, 4, .inr (.inr (.inr (.inr (fun i => if i < 4 then some (r17 i) else none)))))), (r17 0, .inl (cs 0, 4, .inl (fun _ => 0))), (r17 1, .inl (cs 0, 4, .inl (fun _ => 0))), (r17 2, .inl (cs 0, 4, .inl (fun _ => 0))), (r17 3, .inl (cs 0, 4, .inl (fun _ => 0)))] := hD
  refine lv_aload_n hx hb dX1_init_24 rfl (lv_at hl 0 rfl) ?_
  refine lv_iconst (v := nI 5) hx hb dX1_init_25 (by decide) ?_
  refine xn_newa (atype := .int) (ty := .int) (cA := cs 0) (n := nI 5) (a0 := (5, .inl (fun _ => 0))) (N' := 5) hx hb (hts (.arrayClass .int) (by decide +kernel)) rfl hK hP hD hS hA 0 rfl (fun _ => vp_cell_i _ _ _) (by decide) (by decide) (by decide) (Nat.le_of_ble_eq_true rfl) (Nat.le_of_ble_eq_true rfl) dX1_init_26 (fun q26 H hP hD hS => ?_)
  have hP : va_P (dC, dI) vwCl [(h 108, .inr (1, [.null, .ref q7, .ref q17, .null, .int 0, .int 0])), (q7, .inl (cs 3, 5, .inr (.inr (.inr (.inr (fun i => if i < 5 then some (r7 i) else none)))))), (r7 0, .inl (cs 0, 4, .inl (fun _ => 0))), (r7 1, .inl (cs 0, 4, .inl (fun _ => 0))), (r7 2, .inl (cs 0, 4, .inl (fun _ => 0))), (r7 3, .inl (cs 0, 4, .inl (fun _ => 0))), (r7 4, .inl (cs 0, 4, .inl (fun _ => 0))), (q17, .inl (cs 3, 4, .inr (.inr (.inr (.inr (fun i => if i < 4 then some (r17 i) else none)))))), (r17 0, .inl (cs 0, 4, .inl (fun _ => 0))), (r17 1, .inl (cs 0, 4, .inl (fun _ => 0))), (r17 2, .inl (cs 0, 4, .inl (fun _ => 0))), (r17 3, .inl (cs 0, 4, .inl (fun _ => 0))), (q26, .inl (cs 0, 5, .inl (fun _ => 0)))] H := hP
  have hD : va_D A0 [(h 108, .inr (1, [.null, .ref q7, .ref q17, .null, .int 0, .int 0])), (q7, .inl (cs 3, 5, .inr (.inr (.inr (.inr (fun i => if i < 5 then some (r7 i) else none)))))), (r7 0, .inl (cs 0, 4, .inl (fun _ => 0))), (r7 1, .inl (cs 0, 4, .inl (fun _ => 0))), (r7 2, .inl (cs 0, 4, .inl (fun _ => 0))), (r7 3, .inl (cs 0, 4, .inl (fun _ => 0))), (r7 4, .inl (cs 0, 4, .inl (fun _ => 0))), (q17, .inl (cs 3, 4, .inr (.inr (.inr (.inr (fun i => if i < 4 then some (r17 i) else none)))))), (r17 0, .inl (cs 0, 4, .inl (fun _ => 0))), (r17 1, .inl (cs 0, 4, .inl (fun _ => 0))), (r17 2, .inl (cs 0, 4, .inl (fun _ => 0))), (r17 3, .inl (cs 0, 4, .inl (fun _ => 0))), (q26, .inl (cs 0, 5, .inl (fun _ => 0)))] := hD
  refine va_putF (D := (dC, dI)) (ci := 1) (v := .ref q26) (ty := .array .int) (C := RX1) (T := TX1) (N := 6) hx hb hts hinX1 tyX1 tyX1_ok nmX1 hown hK hP hD hS 0 rfl rfl 3 (by decide) (hts (.fieldLink RX1 19 "MixedWords$Leader" "target" "[I") (by decide +kernel)) (fun _ h9 => h9) rfl hin rfl (by decide +kernel) rfl rfl (Nat.le_of_ble_eq_true rfl) dX1_init_28 (fun H locs hP hD hS => ?_)
  have hP : va_P (dC, dI) vwCl [(h 108, .inr (1, [.null, .ref q7, .ref q17, .ref q26, .int 0, .int 0])), (q7, .inl (cs 3, 5, .inr (.inr (.inr (.inr (fun i => if i < 5 then some (r7 i) else none)))))), (r7 0, .inl (cs 0, 4, .inl (fun _ => 0))), (r7 1, .inl (cs 0, 4, .inl (fun _ => 0))), (r7 2, .inl (cs 0, 4, .inl (fun _ => 0))), (r7 3, .inl (cs 0, 4, .inl (fun _ => 0))), (r7 4, .inl (cs 0, 4, .inl (fun _ => 0))), (q17, .inl (cs 3, 4, .inr (.inr (.inr (.inr (fun i => if i < 4 then some (r17 i) else none)))))), (r17 0, .inl (cs 0, 4, .inl (fun _ => 0))), (r17 1, .inl (cs 0, 4, .inl (fun _ => 0))), (r17 2, .inl (cs 0, 4, .inl (fun _ => 0))), (r17 3, .inl (cs 0, 4, .inl (fun _ => 0))), (q26, .inl (cs 0, 5, .inl (fun _ => 0)))] H := hP
  have hD : va_D A0 [(h 108, .inr (1, [.null, .ref q7, .ref q17, .ref q26, .int 0, .int 0])), (q7, .inl (cs 3, 5, .inr (.inr (.inr (.inr (fun i => if i < 5 then some (r7 i) else none)))))), (r7 0, .inl (cs 0, 4, .inl (fun _ => 0))), (r7 1, .inl (cs 0, 4, .inl (fun _ => 0))), (r7 2, .inl (cs 0, 4, .inl (fun _ => 0))), (r7 3, .inl (cs 0, 4, .inl (fun _ => 0))), (r7 4, .inl (cs 0, 4, .inl (fun _ => 0))), (q17, .inl (cs 3, 4, .inr (.inr (.inr (.inr (fun i => if i < 4 then some (r17 i) else none)))))), (r17 0, .inl (cs 0, 4, .inl (fun _ => 0))), (r17 1, .inl (cs 0, 4, .inl (fun _ => 0))), (r17 2, .inl (cs 0, 4, .inl (fun _ => 0))), (r17 3, .inl (cs 0, 4, .inl (fun _ => 0))), (q26, .inl (cs 0, 5, .inl (fun _ => 0)))] := hD
  refine lv_aload_n hx hb dX1_init_31 rfl (lv_at hl 0 rfl) ?_
  refine lv_iconst (v := nI 0) hx hb dX1_init_32 (by decide) ?_
  refine va_put (D := (dC, dI)) (ci := 1) (v := .int (nI 0)) (ty := .int) (C := RX1) (T := TX1) (N := 6) hx hb hts hinX1 tyX1 tyX1_ok nmX1 hown hK hP hD hS 0 rfl rfl 5 (by decide) (hts (.fieldLink RX1 23 "MixedWords$Leader" "stamp" "I") (by decide +kernel)) (fun _ h9 => h9) rfl (by decide +kernel) rfl rfl (Nat.le_of_ble_eq_true rfl) dX1_init_33 (fun H locs hP hD hS => ?_)
  have hP : va_P (dC, dI) vwCl [(h 108, .inr (1, [.null, .ref q7, .ref q17, .ref q26, .int 0, .int (nI 0)])), (q7, .inl (cs 3, 5, .inr (.inr (.inr (.inr (fun i => if i < 5 then some (r7 i) else none)))))), (r7 0, .inl (cs 0, 4, .inl (fun _ => 0))), (r7 1, .inl (cs 0, 4, .inl (fun _ => 0))), (r7 2, .inl (cs 0, 4, .inl (fun _ => 0))), (r7 3, .inl (cs 0, 4, .inl (fun _ => 0))), (r7 4, .inl (cs 0, 4, .inl (fun _ => 0))), (q17, .inl (cs 3, 4, .inr (.inr (.inr (.inr (fun i => if i < 4 then some (r17 i) else none)))))), (r17 0, .inl (cs 0, 4, .inl (fun _ => 0))), (r17 1, .inl (cs 0, 4, .inl (fun _ => 0))), (r17 2, .inl (cs 0, 4, .inl (fun _ => 0))), (r17 3, .inl (cs 0, 4, .inl (fun _ => 0))), (q26, .inl (cs 0, 5, .inl (fun _ => 0)))] H := hP
  have hD : va_D A0 [(h 108, .inr (1, [.null, .ref q7, .ref q17, .ref q26, .int 0, .int (nI 0)])), (q7, .inl (cs 3, 5, .inr (.inr (.inr (.inr (fun i => if i < 5 then some (r7 i) else none)))))), (r7 0, .inl (cs 0, 4, .inl (fun _ => 0))), (r7 1, .inl (cs 0, 4, .inl (fun _ => 0))), (r7 2, .inl (cs 0, 4, .inl (fun _ => 0))), (r7 3, .inl (cs 0, 4, .inl (fun _ => 0))), (r7 4, .inl (cs 0, 4, .inl (fun _ => 0))), (q17, .inl (cs 3, 4, .inr (.inr (.inr (.inr (fun i => if i < 4 then some (r17 i) else none)))))), (r17 0, .inl (cs 0, 4, .inl (fun _ => 0))), (r17 1, .inl (cs 0, 4, .inl (fun _ => 0))), (r17 2, .inl (cs 0, 4, .inl (fun _ => 0))), (r17 3, .inl (cs 0, 4, .inl (fun _ => 0))), (q26, .inl (cs 0, 5, .inl (fun _ => 0)))] := hD
  refine lv_aload_n hx hb dX1_init_36 rfl (lv_at hl 0 rfl) ?_
  refine lv_aload_n hx hb dX1_init_37 rfl (lv_at hl 1 rfl) ?_
  refine va_putF (D := (dC, dI)) (ci := 1) (v := .ref (h 101)) (ty := .object "MixedWords$Mix") (C := RX1) (T := TX1) (N := 6) hx hb hts hinX1 tyX1 tyX1_ok nmX1 hown hK hP hD hS 0 rfl rfl 0 (by decide) (hts (.fieldLink RX1 27 "MixedWords$Leader" "mix" "LMixedWords$Mix;") (by decide +kernel)) (fun _ h9 => h9) rfl hin rfl (by decide +kernel) rfl rfl (Nat.le_of_ble_eq_true rfl) dX1_init_38 (fun H locs hP hD hS => ?_)
  have hP : va_P (dC, dI) vwCl [(h 108, .inr (1, [.ref (h 101), .ref q7, .ref q17, .ref q26, .int 0, .int (nI 0)])), (q7, .inl (cs 3, 5, .inr (.inr (.inr (.inr (fun i => if i < 5 then some (r7 i) else none)))))), (r7 0, .inl (cs 0, 4, .inl (fun _ => 0))), (r7 1, .inl (cs 0, 4, .inl (fun _ => 0))), (r7 2, .inl (cs 0, 4, .inl (fun _ => 0))), (r7 3, .inl (cs 0, 4, .inl (fun _ => 0))), (r7 4, .inl (cs 0, 4, .inl (fun _ => 0))), (q17, .inl (cs 3, 4, .inr (.inr (.inr (.inr (fun i => if i < 4 then some (r17 i) else none)))))), (r17 0, .inl (cs 0, 4, .inl (fun _ => 0))), (r17 1, .inl (cs 0, 4, .inl (fun _ => 0))), (r17 2, .inl (cs 0, 4, .inl (fun _ => 0))), (r17 3, .inl (cs 0, 4, .inl (fun _ => 0))), (q26, .inl (cs 0, 5, .inl (fun _ => 0)))] H := hP
  have hD : va_D A0 [(h 108, .inr (1, [.ref (h 101), .ref q7, .ref q17, .ref q26, .int 0, .int (nI 0)])), (q7, .inl (cs 3, 5, .inr (.inr (.inr (.inr (fun i => if i < 5 then some (r7 i) else none)))))), (r7 0, .inl (cs 0, 4, .inl (fun _ => 0))), (r7 1, .inl (cs 0, 4, .inl (fun _ => 0))), (r7 2, .inl (cs 0, 4, .inl (fun _ => 0))), (r7 3, .inl (cs 0, 4, .inl (fun _ => 0))), (r7 4, .inl (cs 0, 4, .inl (fun _ => 0))), (q17, .inl (cs 3, 4, .inr (.inr (.inr (.inr (fun i => if i < 4 then some (r17 i) else none)))))), (r17 0, .inl (cs 0, 4, .inl (fun _ => 0))), (r17 1, .inl (cs 0, 4, .inl (fun _ => 0))), (r17 2, .inl (cs 0, 4, .inl (fun _ => 0))), (r17 3, .inl (cs 0, 4, .inl (fun _ => 0))), (q26, .inl (cs 0, 5, .inl (fun _ => 0)))] := hD
  rw [rowsF (g := (adr [(200, q7), (201, (r7 0)), (202, (r7 1)), (203, (r7 2)), (204, (r7 3)), (205, (r7 4)), (206, q17), (207, (r17 0)), (208, (r17 1)), (209, (r17 2)), (210, (r17 3)), (211, q26)])) (r := r7) (n := 5) (b := 201) (fun i hi => by rcases (show i = 0 ∨ i = 1 ∨ i = 2 ∨ i = 3 ∨ i = 4 by omega) with rfl | rfl | rfl | rfl | rfl <;> rfl)] at hP hD
  rw [rowsF (g := (adr [(200, q7), (201, (r7 0)), (202, (r7 1)), (203, (r7 2)), (204, (r7 3)), (205, (r7 4)), (206, q17), (207, (r17 0)), (208, (r17 1)), (209, (r17 2)), (210, (r17 3)), (211, q26)])) (r := r17) (n := 4) (b := 207) (fun i hi => by rcases (show i = 0 ∨ i = 1 ∨ i = 2 ∨ i = 3 by omega) with rfl | rfl | rfl | rfl <;> rfl)] at hP hD
  have hP := xP_sub (wc := [(h 108, .inr (1, [.ref (h 101), .ref ((adr [(200, q7), (201, (r7 0)), (202, (r7 1)), (203, (r7 2)), (204, (r7 3)), (205, (r7 4)), (206, q17), (207, (r17 0)), (208, (r17 1)), (209, (r17 2)), (210, (r17 3)), (211, q26)]) 200), .ref ((adr [(200, q7), (201, (r7 0)), (202, (r7 1)), (203, (r7 2)), (204, (r7 3)), (205, (r7 4)), (206, q17), (207, (r17 0)), (208, (r17 1)), (209, (r17 2)), (210, (r17 3)), (211, q26)]) 206), .ref ((adr [(200, q7), (201, (r7 0)), (202, (r7 1)), (203, (r7 2)), (204, (r7 3)), (205, (r7 4)), (206, q17), (207, (r17 0)), (208, (r17 1)), (209, (r17 2)), (210, (r17 3)), (211, q26)]) 211), .int (fI 212), .int (fI 213)])), ((adr [(200, q7), (201, (r7 0)), (202, (r7 1)), (203, (r7 2)), (204, (r7 3)), (205, (r7 4)), (206, q17), (207, (r17 0)), (208, (r17 1)), (209, (r17 2)), (210, (r17 3)), (211, q26)]) 200, .inl (cs 3, 5, .inr (.inr (.inr (.inr (fun i => if i < 5 then some ((adr [(200, q7), (201, (r7 0)), (202, (r7 1)), (203, (r7 2)), (204, (r7 3)), (205, (r7 4)), (206, q17), (207, (r17 0)), (208, (r17 1)), (209, (r17 2)), (210, (r17 3)), (211, q26)]) (i + 201)) else none)))))), ((adr [(200, q7), (201, (r7 0)), (202, (r7 1)), (203, (r7 2)), (204, (r7 3)), (205, (r7 4)), (206, q17), (207, (r17 0)), (208, (r17 1)), (209, (r17 2)), (210, (r17 3)), (211, q26)]) 201, .inl (cs 0, 4, .inl ((fG 2) 0))), ((adr [(200, q7), (201, (r7 0)), (202, (r7 1)), (203, (r7 2)), (204, (r7 3)), (205, (r7 4)), (206, q17), (207, (r17 0)), (208, (r17 1)), (209, (r17 2)), (210, (r17 3)), (211, q26)]) 202, .inl (cs 0, 4, .inl ((fG 2) 1))), ((adr [(200, q7), (201, (r7 0)), (202, (r7 1)), (203, (r7 2)), (204, (r7 3)), (205, (r7 4)), (206, q17), (207, (r17 0)), (208, (r17 1)), (209, (r17 2)), (210, (r17 3)), (211, q26)]) 203, .inl (cs 0, 4, .inl ((fG 2) 2))), ((adr [(200, q7), (201, (r7 0)), (202, (r7 1)), (203, (r7 2)), (204, (r7 3)), (205, (r7 4)), (206, q17), (207, (r17 0)), (208, (r17 1)), (209, (r17 2)), (210, (r17 3)), (211, q26)]) 204, .inl (cs 0, 4, .inl ((fG 2) 3))), ((adr [(200, q7), (201, (r7 0)), (202, (r7 1)), (203, (r7 2)), (204, (r7 3)), (205, (r7 4)), (206, q17), (207, (r17 0)), (208, (r17 1)), (209, (r17 2)), (210, (r17 3)), (211, q26)]) 205, .inl (cs 0, 4, .inl ((fG 2) 4))), ((adr [(200, q7), (201, (r7 0)), (202, (r7 1)), (203, (r7 2)), (204, (r7 3)), (205, (r7 4)), (206, q17), (207, (r17 0)), (208, (r17 1)), (209, (r17 2)), (210, (r17 3)), (211, q26)]) 206, .inl (cs 3, 4, .inr (.inr (.inr (.inr (fun i => if i < 4 then some ((adr [(200, q7), (201, (r7 0)), (202, (r7 1)), (203, (r7 2)), (204, (r7 3)), (205, (r7 4)), (206, q17), (207, (r17 0)), (208, (r17 1)), (209, (r17 2)), (210, (r17 3)), (211, q26)]) (i + 207)) else none)))))), ((adr [(200, q7), (201, (r7 0)), (202, (r7 1)), (203, (r7 2)), (204, (r7 3)), (205, (r7 4)), (206, q17), (207, (r17 0)), (208, (r17 1)), (209, (r17 2)), (210, (r17 3)), (211, q26)]) 207, .inl (cs 0, 4, .inl ((fG 3) 0))), ((adr [(200, q7), (201, (r7 0)), (202, (r7 1)), (203, (r7 2)), (204, (r7 3)), (205, (r7 4)), (206, q17), (207, (r17 0)), (208, (r17 1)), (209, (r17 2)), (210, (r17 3)), (211, q26)]) 208, .inl (cs 0, 4, .inl ((fG 3) 1))), ((adr [(200, q7), (201, (r7 0)), (202, (r7 1)), (203, (r7 2)), (204, (r7 3)), (205, (r7 4)), (206, q17), (207, (r17 0)), (208, (r17 1)), (209, (r17 2)), (210, (r17 3)), (211, q26)]) 209, .inl (cs 0, 4, .inl ((fG 3) 2))), ((adr [(200, q7), (201, (r7 0)), (202, (r7 1)), (203, (r7 2)), (204, (r7 3)), (205, (r7 4)), (206, q17), (207, (r17 0)), (208, (r17 1)), (209, (r17 2)), (210, (r17 3)), (211, q26)]) 210, .inl (cs 0, 4, .inl ((fG 3) 3))), ((adr [(200, q7), (201, (r7 0)), (202, (r7 1)), (203, (r7 2)), (204, (r7 3)), (205, (r7 4)), (206, q17), (207, (r17 0)), (208, (r17 1)), (209, (r17 2)), (210, (r17 3)), (211, q26)]) 211, .inl (cs 0, 5, .inl (fA 211)))]) hP [0, 1, 2, 3, 4, 5, 6, 7, 8, 9, 10, 11, 12] rfl
  have hD : va_D A0 [(h 108, .inr (1, [.ref (h 101), .ref ((adr [(200, q7), (201, (r7 0)), (202, (r7 1)), (203, (r7 2)), (204, (r7 3)), (205, (r7 4)), (206, q17), (207, (r17 0)), (208, (r17 1)), (209, (r17 2)), (210, (r17 3)), (211, q26)]) 200), .ref ((adr [(200, q7), (201, (r7 0)), (202, (r7 1)), (203, (r7 2)), (204, (r7 3)), (205, (r7 4)), (206, q17), (207, (r17 0)), (208, (r17 1)), (209, (r17 2)), (210, (r17 3)), (211, q26)]) 206), .ref ((adr [(200, q7), (201, (r7 0)), (202, (r7 1)), (203, (r7 2)), (204, (r7 3)), (205, (r7 4)), (206, q17), (207, (r17 0)), (208, (r17 1)), (209, (r17 2)), (210, (r17 3)), (211, q26)]) 211), .int (fI 212), .int (fI 213)])), ((adr [(200, q7), (201, (r7 0)), (202, (r7 1)), (203, (r7 2)), (204, (r7 3)), (205, (r7 4)), (206, q17), (207, (r17 0)), (208, (r17 1)), (209, (r17 2)), (210, (r17 3)), (211, q26)]) 200, .inl (cs 3, 5, .inr (.inr (.inr (.inr (fun i => if i < 5 then some ((adr [(200, q7), (201, (r7 0)), (202, (r7 1)), (203, (r7 2)), (204, (r7 3)), (205, (r7 4)), (206, q17), (207, (r17 0)), (208, (r17 1)), (209, (r17 2)), (210, (r17 3)), (211, q26)]) (i + 201)) else none)))))), ((adr [(200, q7), (201, (r7 0)), (202, (r7 1)), (203, (r7 2)), (204, (r7 3)), (205, (r7 4)), (206, q17), (207, (r17 0)), (208, (r17 1)), (209, (r17 2)), (210, (r17 3)), (211, q26)]) 201, .inl (cs 0, 4, .inl ((fG 2) 0))), ((adr [(200, q7), (201, (r7 0)), (202, (r7 1)), (203, (r7 2)), (204, (r7 3)), (205, (r7 4)), (206, q17), (207, (r17 0)), (208, (r17 1)), (209, (r17 2)), (210, (r17 3)), (211, q26)]) 202, .inl (cs 0, 4, .inl ((fG 2) 1))), ((adr [(200, q7), (201, (r7 0)), (202, (r7 1)), (203, (r7 2)), (204, (r7 3)), (205, (r7 4)), (206, q17), (207, (r17 0)), (208, (r17 1)), (209, (r17 2)), (210, (r17 3)), (211, q26)]) 203, .inl (cs 0, 4, .inl ((fG 2) 2))), ((adr [(200, q7), (201, (r7 0)), (202, (r7 1)), (203, (r7 2)), (204, (r7 3)), (205, (r7 4)), (206, q17), (207, (r17 0)), (208, (r17 1)), (209, (r17 2)), (210, (r17 3)), (211, q26)]) 204, .inl (cs 0, 4, .inl ((fG 2) 3))), ((adr [(200, q7), (201, (r7 0)), (202, (r7 1)), (203, (r7 2)), (204, (r7 3)), (205, (r7 4)), (206, q17), (207, (r17 0)), (208, (r17 1)), (209, (r17 2)), (210, (r17 3)), (211, q26)]) 205, .inl (cs 0, 4, .inl ((fG 2) 4))), ((adr [(200, q7), (201, (r7 0)), (202, (r7 1)), (203, (r7 2)), (204, (r7 3)), (205, (r7 4)), (206, q17), (207, (r17 0)), (208, (r17 1)), (209, (r17 2)), (210, (r17 3)), (211, q26)]) 206, .inl (cs 3, 4, .inr (.inr (.inr (.inr (fun i => if i < 4 then some ((adr [(200, q7), (201, (r7 0)), (202, (r7 1)), (203, (r7 2)), (204, (r7 3)), (205, (r7 4)), (206, q17), (207, (r17 0)), (208, (r17 1)), (209, (r17 2)), (210, (r17 3)), (211, q26)]) (i + 207)) else none)))))), ((adr [(200, q7), (201, (r7 0)), (202, (r7 1)), (203, (r7 2)), (204, (r7 3)), (205, (r7 4)), (206, q17), (207, (r17 0)), (208, (r17 1)), (209, (r17 2)), (210, (r17 3)), (211, q26)]) 207, .inl (cs 0, 4, .inl ((fG 3) 0))), ((adr [(200, q7), (201, (r7 0)), (202, (r7 1)), (203, (r7 2)), (204, (r7 3)), (205, (r7 4)), (206, q17), (207, (r17 0)), (208, (r17 1)), (209, (r17 2)), (210, (r17 3)), (211, q26)]) 208, .inl (cs 0, 4, .inl ((fG 3) 1))), ((adr [(200, q7), (201, (r7 0)), (202, (r7 1)), (203, (r7 2)), (204, (r7 3)), (205, (r7 4)), (206, q17), (207, (r17 0)), (208, (r17 1)), (209, (r17 2)), (210, (r17 3)), (211, q26)]) 209, .inl (cs 0, 4, .inl ((fG 3) 2))), ((adr [(200, q7), (201, (r7 0)), (202, (r7 1)), (203, (r7 2)), (204, (r7 3)), (205, (r7 4)), (206, q17), (207, (r17 0)), (208, (r17 1)), (209, (r17 2)), (210, (r17 3)), (211, q26)]) 210, .inl (cs 0, 4, .inl ((fG 3) 3))), ((adr [(200, q7), (201, (r7 0)), (202, (r7 1)), (203, (r7 2)), (204, (r7 3)), (205, (r7 4)), (206, q17), (207, (r17 0)), (208, (r17 1)), (209, (r17 2)), (210, (r17 3)), (211, q26)]) 211, .inl (cs 0, 5, .inl (fA 211)))] := hD.sub [0, 1, 2, 3, 4, 5, 6, 7, 8, 9, 10, 11, 12] (by decide +kernel) rfl
  exact xr_v hx hb hr hlocks hK hS dX1_init_41 (adr [(200, q7), (201, (r7 0)), (202, (r7 1)), (203, (r7 2)), (204, (r7 3)), (205, (r7 4)), (206, q17), (207, (r17 0)), (208, (r17 1)), (209, (r17 2)), (210, (r17 3)), (211, q26)]) trivial hP hD
theorem bdX5_init_0 : (decode cX5_init 0 = .ok (.aload_n 0, 1)) ∧ (decode cX5_init 1 = .ok (.invokespecial 3, 3)) ∧ (decode cX5_init 4 = .ok (.aload_n 0, 1)) ∧ (decode cX5_init 5 = .ok (.iconst (-1), 1)) ∧ (decode cX5_init 6 = .ok (.putfield 11, 3)) ∧ (decode cX5_init 9 = .ok (.aload_n 0, 1)) ∧ (decode cX5_init 10 = .ok (.iconst 0, 1)) ∧ (decode cX5_init 11 = .ok (.putfield 15, 3)) ∧ (decode cX5_init 14 = .ok (.aload_n 0, 1)) ∧ (decode cX5_init 15 = .ok (.bipush 25, 2)) ∧ (decode cX5_init 17 = .ok (.newarray .long, 2)) ∧ (decode cX5_init 19 = .ok (.putfield 18, 3)) ∧ (decode cX5_init 22 = .ok (.return_, 1)) := by decide +kernel
theorem dX5_init_0 : decode cX5_init 0 = .ok (.aload_n 0, 1) := bdX5_init_0.1
theorem dX5_init_1 : decode cX5_init 1 = .ok (.invokespecial 3, 3) := bdX5_init_0.2.1
theorem dX5_init_4 : decode cX5_init 4 = .ok (.aload_n 0, 1) := bdX5_init_0.2.2.1
theorem dX5_init_5 : decode cX5_init 5 = .ok (.iconst (-1), 1) := bdX5_init_0.2.2.2.1
theorem dX5_init_6 : decode cX5_init 6 = .ok (.putfield 11, 3) := bdX5_init_0.2.2.2.2.1
theorem dX5_init_9 : decode cX5_init 9 = .ok (.aload_n 0, 1) := bdX5_init_0.2.2.2.2.2.1
theorem dX5_init_10 : decode cX5_init 10 = .ok (.iconst 0, 1) := bdX5_init_0.2.2.2.2.2.2.1
theorem dX5_init_11 : decode cX5_init 11 = .ok (.putfield 15, 3) := bdX5_init_0.2.2.2.2.2.2.2.1
theorem dX5_init_14 : decode cX5_init 14 = .ok (.aload_n 0, 1) := bdX5_init_0.2.2.2.2.2.2.2.2.1
theorem dX5_init_15 : decode cX5_init 15 = .ok (.bipush 25, 2) := bdX5_init_0.2.2.2.2.2.2.2.2.2.1
theorem dX5_init_17 : decode cX5_init 17 = .ok (.newarray .long, 2) := bdX5_init_0.2.2.2.2.2.2.2.2.2.2.1
theorem dX5_init_19 : decode cX5_init 19 = .ok (.putfield 18, 3) := bdX5_init_0.2.2.2.2.2.2.2.2.2.2.2.1
theorem dX5_init_22 : decode cX5_init 22 = .ok (.return_, 1) := bdX5_init_0.2.2.2.2.2.2.2.2.2.2.2.2
set_option maxHeartbeats 4000000 in
set_option maxRecDepth 100000 in
theorem k_X5_init (l : Launch) (dC : Nat → ClassId) (dI : Nat → Nat → Nat) (h : Nat → Nat) (cs : Nat → ClassId) (sz : Nat) : Met l yX5_init wsX5_init ({ frames := 1, cells := 1, slots := 25, locals := 12 }) (va_Pc [.ref (h 110)] (xPreI (dC, dI) [(h 110, .inr (5, [.int 0, .int 0, .null]))] (tysA cs) sz)) (va_Qv (fun u : Nat → Nat => True) (xB (dC, dI) (tysA cs) (va_A [(h 110, .inr (5, [.int 0, .int 0, .null]))] sz) (fun u : Nat → Nat => [(h 110, .inr (5, [.int (fI 220), .int (fI 224), .ref (u 228)])), (u 228, .inl (cs 1, 25, .inr (.inl (fQ 228))))])) (va_A [(h 110, .inr (5, [.int 0, .int 0, .null]))] sz)) 1 25 (va_A [(h 110, .inr (5, [.int 0, .int 0, .null]))] sz) := by
  refine Met.ofW (cc := cX5_init) (maxL := 1) (ret := none) (by decide) rfl ?_
  intro p e s m args below meth c s₁ B hml hv
  obtain ⟨rfl, ⟨hsz, hP, hK, hD0, hN⟩, hO⟩ := hv
  have hx := B.exec
  have hb := B.bytes
  have hr := B.returns
  have hts := atoms_spec (ws := wsX5_init) B.pre
  have hown : s.vm.findClass RX5 = some m.cls := findClass_of_methodNamed B.named
  have hlocks := B.notSynchronized
  subst hsz
  have hD := hD0.self (sz := s.heap.size)
  generalize hAe : va_A [(h 110, .inr (5, [.int 0, .int 0, .null]))] s.heap.size = A0 at hD ⊢
  have hA : ∀ q : Nat, s.heap.size ≤ q → A0 q := fun q h => by rw [← hAe]; exact Or.inr h
  have hin : meth.name = "<init>" := (name_of_methodNamed B.named B.method).1
  have hl := lv_entry ([.ref (h 110)]) (n := 1) (Nat.le_of_ble_eq_true rfl)
  rw [lg_entry_eq]
  generalize (lg_sl ([.ref (h 110)]) ++ List.replicate (1 - (lg_sl ([.ref (h 110)])).length) Slot.unset).toArray = ls at hl ⊢
  have hl : lv_has ls 1 [(0, .ref (h 110))] := hl
  generalize hH : s.heap = H at hP ⊢
  have hS : va_S A0 s.heap H [] := by rw [← hH]; exact va_S.rf
  have hinX5 : ∀ w ∈ wsX50, w ∈ wsX5_init := by decide +kernel
  refine lv_aload_n hx hb dX5_init_0 rfl (lv_at hl 0 rfl) ?_
  refine W.objInit hx hb hown (hts (.methodLink RX5 3 objectInit) (by decide +kernel)) (hts (.instanceMethod objectInit) (by decide +kernel)) (hts _ (by decide +kernel : Cond.code objectInit ⟨#[0xb1]⟩ 1 none ∈ wsX5_init)) rfl (by rw [hml]; exact hl.1) rfl dX5_init_1 (Nat.le_of_ble_eq_true rfl) (Nat.le_of_ble_eq_true rfl) ?_
  refine W.eq (g2 := F0 m 4 ls []) rfl ?_
  refine lv_aload_n hx hb dX5_init_4 rfl (lv_at hl 0 rfl) ?_
  refine lv_iconst (v := (-1)) hx hb dX5_init_5 (by decide) ?_
  refine va_put (D := (dC, dI)) (ci := 5) (v := .int (-1)) (ty := .int) (C := RX5) (T := TX5) (N := 3) hx hb hts hinX5 tyX5 tyX5_ok nmX5 hown hK hP hD hS 0 rfl rfl 0 (by decide) (hts (.fieldLink RX5 11 "MixedWords$Sheet" "lane" "I") (by decide +kernel)) (fun _ h9 => h9) rfl (by decide +kernel) rfl rfl (Nat.le_of_ble_eq_true rfl) dX5_init_6 (fun H locs hP hD hS => ?_)
  have hP : va_P (dC, dI) vwCl [(h 110, .inr (5, [.int (-1), .int 0, .null]))] H := hP
  have hD : va_D A0 [(h 110, .inr (5, [.int (-1), .int 0, .null]))] := hD
  refine lv_aload_n hx hb dX5_init_9 rfl (lv_at hl 0 rfl) ?_
  refine lv_iconst (v := nI 0) hx hb dX5_init_10 (by decide) ?_
  refine va_put (D := (dC, dI)) (ci := 5) (v := .int (nI 0)) (ty := .int) (C := RX5) (T := TX5) (N := 3) hx hb hts hinX5 tyX5 tyX5_ok nmX5 hown hK hP hD hS 0 rfl rfl 1 (by decide) (hts (.fieldLink RX5 15 "MixedWords$Sheet" "length" "I") (by decide +kernel)) (fun _ h9 => h9) rfl (by decide +kernel) rfl rfl (Nat.le_of_ble_eq_true rfl) dX5_init_11 (fun H locs hP hD hS => ?_)
  have hP : va_P (dC, dI) vwCl [(h 110, .inr (5, [.int (-1), .int (nI 0), .null]))] H := hP
  have hD : va_D A0 [(h 110, .inr (5, [.int (-1), .int (nI 0), .null]))] := hD
  refine lv_aload_n hx hb dX5_init_14 rfl (lv_at hl 0 rfl) ?_
  refine lv_bipush (v := nI 25) hx hb dX5_init_15 (by decide) ?_
  refine xn_newa (atype := .long) (ty := .long) (cA := cs 1) (n := nI 25) (a0 := (25, .inr (.inl (fun _ => 0)))) (N' := 25) hx hb (hts (.arrayClass .long) (by decide +kernel)) rfl hK hP hD hS hA 1 rfl (fun _ => vp_cell_l _ _ _) (by decide) (by decide) (by decide) (Nat.le_of_ble_eq_true rfl) (Nat.le_of_ble_eq_true rfl) dX5_init_17 (fun q17 H hP hD hS => ?_)
  have hP : va_P (dC, dI) vwCl [(h 110, .inr (5, [.int (-1), .int (nI 0), .null])), (q17, .inl (cs 1, 25, .inr (.inl (fun _ => 0))))] H := hP
  have hD : va_D A0 [(h 110, .inr (5, [.int (-1), .int (nI 0), .null])), (q17, .inl (cs 1, 25, .inr (.inl (fun _ => 0))))] := hD
  refine va_putF (D := (dC, dI)) (ci := 5) (v := .ref q17) (ty := .array .long) (C := RX5) (T := TX5) (N := 3) hx hb hts hinX5 tyX5 tyX5_ok nmX5 hown hK hP hD hS 0 rfl rfl 2 (by decide) (hts (.fieldLink RX5 18 "MixedWords$Sheet" "items" "[J") (by decide +kernel)) (fun _ h9 => h9) rfl hin rfl (by decide +kernel) rfl rfl (Nat.le_of_ble_eq_true rfl) dX5_init_19 (fun H locs hP hD hS => ?_)
  have hP : va_P (dC, dI) vwCl [(h 110, .inr (5, [.int (-1), .int (nI 0), .ref q17])), (q17, .inl (cs 1, 25, .inr (.inl (fun _ => 0))))] H := hP
  have hD : va_D A0 [(h 110, .inr (5, [.int (-1), .int (nI 0), .ref q17])), (q17, .inl (cs 1, 25, .inr (.inl (fun _ => 0))))] := hD
  have hP := xP_sub (wc := [(h 110, .inr (5, [.int (fI 220), .int (fI 224), .ref ((adr [(228, q17)]) 228)])), ((adr [(228, q17)]) 228, .inl (cs 1, 25, .inr (.inl (fQ 228))))]) hP [0, 1] rfl
  have hD : va_D A0 [(h 110, .inr (5, [.int (fI 220), .int (fI 224), .ref ((adr [(228, q17)]) 228)])), ((adr [(228, q17)]) 228, .inl (cs 1, 25, .inr (.inl (fQ 228))))] := hD.sub [0, 1] (by decide +kernel) rfl
  exact xr_v hx hb hr hlocks hK hS dX5_init_22 (adr [(228, q17)]) trivial hP hD
