def hdF (x : Int64) (a : Int32) : Int32 := (if (if a.toInt64 - 1 < x then a.toInt64 - 1 else x) < 0 then (0 : Int64) else (if a.toInt64 - 1 < x then a.toInt64 - 1 else x)).toInt32
def ruF (x y : Int64) : Int64 := if 0 < y then -(Jvm.Free.JP.Math_floorDiv_JJ.val (-x) y) else 0
def nlF (x y : Int64) (a : Int32) : Int32 := if 0 < y then hdF (ruF (x + (a - nI 2).toInt64 * y) (2 * y)) a else nI 0
def nhF (x y : Int64) : Int64 := if 0 < y then ruF (x - y) (2 * y) else 0
theorem pos_ne0 {y : Int64} (h : 0 < y) : y ≠ 0 := fun e => by subst e; exact absurd h (by decide)

def mirF (x : Int32) : Nat → Int32
  | 0 => nI 0
  | n + 1 => (mirF x n <<< (nI 1 &&& 31)) ||| bt1 x n
theorem bdX9_held_0 : (decode cX9_held 0 = .ok (.lconst 0, 1)) ∧ (decode cX9_held 1 = .ok (.lload_n 0, 1)) ∧ (decode cX9_held 2 = .ok (.iload_n 2, 1)) ∧ (decode cX9_held 3 = .ok (.i2l, 1)) ∧ (decode cX9_held 4 = .ok (.lconst 1, 1)) ∧ (decode cX9_held 5 = .ok (.lsub, 1)) ∧ (decode cX9_held 6 = .ok (.invokestatic 311, 3)) ∧ (decode cX9_held 9 = .ok (.invokestatic 221, 3)) ∧ (decode cX9_held 12 = .ok (.l2i, 1)) ∧ (decode cX9_held 13 = .ok (.ireturn, 1)) := by decide +kernel
theorem dX9_held_0 : decode cX9_held 0 = .ok (.lconst 0, 1) := bdX9_held_0.1
theorem dX9_held_1 : decode cX9_held 1 = .ok (.lload_n 0, 1) := bdX9_held_0.2.1
theorem dX9_held_2 : decode cX9_held 2 = .ok (.iload_n 2, 1) := bdX9_held_0.2.2.1
theorem dX9_held_3 : decode cX9_held 3 = .ok (.i2l, 1) := bdX9_held_0.2.2.2.1
theorem dX9_held_4 : decode cX9_held 4 = .ok (.lconst 1, 1) := bdX9_held_0.2.2.2.2.1
theorem dX9_held_5 : decode cX9_held 5 = .ok (.lsub, 1) := bdX9_held_0.2.2.2.2.2.1
theorem dX9_held_6 : decode cX9_held 6 = .ok (.invokestatic 311, 3) := bdX9_held_0.2.2.2.2.2.2.1
theorem dX9_held_9 : decode cX9_held 9 = .ok (.invokestatic 221, 3) := bdX9_held_0.2.2.2.2.2.2.2.1
theorem dX9_held_12 : decode cX9_held 12 = .ok (.l2i, 1) := bdX9_held_0.2.2.2.2.2.2.2.2.1
theorem dX9_held_13 : decode cX9_held 13 = .ok (.ireturn, 1) := bdX9_held_0.2.2.2.2.2.2.2.2.2
set_option maxHeartbeats 4000000 in
set_option maxRecDepth 100000 in
theorem k_X9_held (l : Launch) (dC : Nat → ClassId) (dI : Nat → Nat → Nat) (h : Nat → Nat) (cs : Nat → ClassId) (sz : Nat) (I : Nat → Int32) (L : Nat → Int64) (A : Nat → Nat → Int32) (Q : Nat → Nat → Int64) (G : Nat → Nat → Nat → Int32) (J : Nat → Nat → Nat → Int64) (x : Int64) (a : Int32) : Met l yX9_held wsX9_held ({ frames := 1, cells := 0, slots := 0, locals := 60 }) (va_Pc [.long x, .int a] (xPre (dC, dI) ([] : va_W) (tysA cs) sz)) (va_Qi (fun (r : Int32) (u : CS) => (r = hdF x a) ∧ u = (I, L, A, Q, G, J)) (xB (dC, dI) (tysA cs) (va_A ([] : va_W) sz) (fun _ : CS => ([] : va_W))) (va_A ([] : va_W) sz)) 0 0 (va_A ([] : va_W) sz) := by
  refine Met.ofW (cc := cX9_held) (maxL := 3) (ret := (some .int)) (by decide) rfl ?_
  intro p e s m args below meth c s₁ B hml hv
  obtain ⟨rfl, hsz, hP, hK, hD0, hN⟩ := hv
  have hx := B.exec
  have hb := B.bytes
  have hr := B.returns
  have hts := atoms_spec (ws := wsX9_held) B.pre
  have hown : s.vm.findClass RX9 = some m.cls := findClass_of_methodNamed B.named
  have hlocks := B.notSynchronized
  subst hsz
  have hD := hD0.self (sz := s.heap.size)
  generalize hAe : va_A ([] : va_W) s.heap.size = A0 at hD ⊢
  have hA : ∀ q : Nat, s.heap.size ≤ q → A0 q := fun q h => by rw [← hAe]; exact Or.inr h
  have hl := lv_entry ([.long x, .int a]) (n := 3) (Nat.le_of_ble_eq_true rfl)
  rw [lg_entry_eq]
  generalize (lg_sl ([.long x, .int a]) ++ List.replicate (3 - (lg_sl ([.long x, .int a])).length) Slot.unset).toArray = ls at hl ⊢
  have hl : lv_has ls 3 [(0, .long x), (2, .int a)] := hl
  generalize hH : s.heap = H at hP ⊢
  have hS : va_S A0 s.heap H [] := by rw [← hH]; exact va_S.rf
  refine lv_lconst (v := 0) hx hb dX9_held_0 rfl ?_
  refine lv_lload_n hx hb dX9_held_1 rfl (lv_at hl 0 rfl) ?_
  refine lv_iload_n hx hb dX9_held_2 rfl (lv_at hl 1 rfl) ?_
  refine lv_i2l (v := a.toInt64) hx hb dX9_held_3 rfl ?_
  refine lv_lconst (v := 1) hx hb dX9_held_4 rfl ?_
  refine lv_lsub hx hb dX9_held_5 ?_
  refine va_mmin_long hx hb (hml.trans hl.1.symm) hown (hts (.methodLink RX9 311 Lib.MathLoose.min_long.x) (by decide +kernel)) (hts (.static Lib.MathLoose.min_long.x) (by decide +kernel)) (hts (.initialized "java/lang/Math") (by decide +kernel)) (hts (.code Lib.MathLoose.min_long.x Lib.MathLoose.min_long.code 4 (some .long)) (by decide +kernel)) (Nat.le_of_ble_eq_true rfl) (Nat.le_of_ble_eq_true rfl) (Nat.zero_le _) (Nat.zero_le _) dX9_held_6 ?_
  refine va_mmax_long hx hb (hml.trans hl.1.symm) hown (hts (.methodLink RX9 221 Lib.MathLoose.max_long.x) (by decide +kernel)) (hts (.static Lib.MathLoose.max_long.x) (by decide +kernel)) (hts (.initialized "java/lang/Math") (by decide +kernel)) (hts (.code Lib.MathLoose.max_long.x Lib.MathLoose.max_long.code 4 (some .long)) (by decide +kernel)) (Nat.le_of_ble_eq_true rfl) (Nat.le_of_ble_eq_true rfl) (Nat.zero_le _) (Nat.zero_le _) dX9_held_9 ?_
  refine lv_l2i (v := (if (if a.toInt64 - (1 : Int64) < x then a.toInt64 - (1 : Int64) else x) < (0 : Int64) then (0 : Int64) else (if a.toInt64 - (1 : Int64) < x then a.toInt64 - (1 : Int64) else x)).toInt32) hx hb dX9_held_12 rfl ?_
  exact xr_i (v := ((if (if a.toInt64 - (1 : Int64) < x then a.toInt64 - (1 : Int64) else x) < (0 : Int64) then (0 : Int64) else (if a.toInt64 - (1 : Int64) < x then a.toInt64 - (1 : Int64) else x)).toInt32)) hx hb hr hlocks hK hS dX9_held_13 (I, L, A, Q, G, J) ⟨rfl, rfl⟩ hP hD
set_option maxRecDepth 20000 in
theorem ggX9_roundedUp_J9_floorDiv_f86c9 : GoodIn wsX9_roundedUp wsJ9_floorDiv_f86c9 := goodIn_r _ [4] rfl (by decide +kernel)
set_option maxRecDepth 20000 in
theorem gX9_roundedUp_J9_floorDiv_f86c9 : GoodIn wsX9_roundedUp (va_wsS RX9 308 yJ9_floorDiv_f86c9 wsJ9_floorDiv_f86c9) := goodIn_app (goodIn_of _ (by decide +kernel)) ggX9_roundedUp_J9_floorDiv_f86c9
theorem bdX9_roundedUp_0 : (decode cX9_roundedUp 0 = .ok (.lload_n 2, 1)) ∧ (decode cX9_roundedUp 1 = .ok (.lconst 0, 1)) ∧ (decode cX9_roundedUp 2 = .ok (.lcmp, 1)) ∧ (decode cX9_roundedUp 3 = .ok (.ifCond .gt 7, 3)) ∧ (decode cX9_roundedUp 6 = .ok (.lconst 0, 1)) ∧ (decode cX9_roundedUp 7 = .ok (.goto 10, 3)) ∧ (decode cX9_roundedUp 10 = .ok (.lload_n 0, 1)) ∧ (decode cX9_roundedUp 11 = .ok (.lneg, 1)) ∧ (decode cX9_roundedUp 12 = .ok (.lload_n 2, 1)) ∧ (decode cX9_roundedUp 13 = .ok (.invokestatic 308, 3)) ∧ (decode cX9_roundedUp 16 = .ok (.lneg, 1)) ∧ (decode cX9_roundedUp 17 = .ok (.lreturn, 1)) := by decide +kernel
theorem dX9_roundedUp_0 : decode cX9_roundedUp 0 = .ok (.lload_n 2, 1) := bdX9_roundedUp_0.1
theorem dX9_roundedUp_1 : decode cX9_roundedUp 1 = .ok (.lconst 0, 1) := bdX9_roundedUp_0.2.1
theorem dX9_roundedUp_2 : decode cX9_roundedUp 2 = .ok (.lcmp, 1) := bdX9_roundedUp_0.2.2.1
theorem dX9_roundedUp_3 : decode cX9_roundedUp 3 = .ok (.ifCond .gt 7, 3) := bdX9_roundedUp_0.2.2.2.1
theorem dX9_roundedUp_6 : decode cX9_roundedUp 6 = .ok (.lconst 0, 1) := bdX9_roundedUp_0.2.2.2.2.1
theorem dX9_roundedUp_7 : decode cX9_roundedUp 7 = .ok (.goto 10, 3) := bdX9_roundedUp_0.2.2.2.2.2.1
theorem dX9_roundedUp_10 : decode cX9_roundedUp 10 = .ok (.lload_n 0, 1) := bdX9_roundedUp_0.2.2.2.2.2.2.1
theorem dX9_roundedUp_11 : decode cX9_roundedUp 11 = .ok (.lneg, 1) := bdX9_roundedUp_0.2.2.2.2.2.2.2.1
theorem dX9_roundedUp_12 : decode cX9_roundedUp 12 = .ok (.lload_n 2, 1) := bdX9_roundedUp_0.2.2.2.2.2.2.2.2.1
theorem dX9_roundedUp_13 : decode cX9_roundedUp 13 = .ok (.invokestatic 308, 3) := bdX9_roundedUp_0.2.2.2.2.2.2.2.2.2.1
theorem dX9_roundedUp_16 : decode cX9_roundedUp 16 = .ok (.lneg, 1) := bdX9_roundedUp_0.2.2.2.2.2.2.2.2.2.2.1
theorem dX9_roundedUp_17 : decode cX9_roundedUp 17 = .ok (.lreturn, 1) := bdX9_roundedUp_0.2.2.2.2.2.2.2.2.2.2.2
set_option maxHeartbeats 4000000 in
set_option maxRecDepth 100000 in
theorem k_X9_roundedUp (l : Launch) (dC : Nat → ClassId) (dI : Nat → Nat → Nat) (h : Nat → Nat) (cs : Nat → ClassId) (sz : Nat) (I : Nat → Int32) (L : Nat → Int64) (A : Nat → Nat → Int32) (Q : Nat → Nat → Int64) (G : Nat → Nat → Nat → Int32) (J : Nat → Nat → Nat → Int64) (x y : Int64) : Met l yX9_roundedUp wsX9_roundedUp ({ frames := 1, cells := 0, slots := 0, locals := 25 }) (va_Pc [.long x, .long y] (xPre (dC, dI) ([] : va_W) (tysA cs) sz)) (va_Ql (fun (r : Int64) (u : CS) => (r = ruF x y) ∧ u = (I, L, A, Q, G, J)) (xB (dC, dI) (tysA cs) (va_A ([] : va_W) sz) (fun _ : CS => ([] : va_W))) (va_A ([] : va_W) sz)) 0 0 (va_A ([] : va_W) sz) := by
  refine Met.ofW (cc := cX9_roundedUp) (maxL := 4) (ret := (some .long)) (by decide) rfl ?_
  intro p e s m args below meth c s₁ B hml hv
  obtain ⟨rfl, hsz, hP, hK, hD0, hN⟩ := hv
  have hx := B.exec
  have hb := B.bytes
  have hr := B.returns
  have hts := atoms_spec (ws := wsX9_roundedUp) B.pre
  have hown : s.vm.findClass RX9 = some m.cls := findClass_of_methodNamed B.named
  have hlocks := B.notSynchronized
  subst hsz
  have hD := hD0.self (sz := s.heap.size)
  generalize hAe : va_A ([] : va_W) s.heap.size = A0 at hD ⊢
  have hA : ∀ q : Nat, s.heap.size ≤ q → A0 q := fun q h => by rw [← hAe]; exact Or.inr h
  have hl := lv_entry ([.long x, .long y]) (n := 4) (Nat.le_of_ble_eq_true rfl)
  rw [lg_entry_eq]
  generalize (lg_sl ([.long x, .long y]) ++ List.replicate (4 - (lg_sl ([.long x, .long y])).length) Slot.unset).toArray = ls at hl ⊢
  have hl : lv_has ls 4 [(0, .long x), (2, .long y)] := hl
  generalize hH : s.heap = H at hP ⊢
  have hS : va_S A0 s.heap H [] := by rw [← hH]; exact va_S.rf
  refine lv_lload_n hx hb dX9_roundedUp_0 rfl (lv_at hl 1 rfl) ?_
  refine lv_lconst (v := 0) hx hb dX9_roundedUp_1 rfl ?_
  refine xl_gt (tgt := 10) hx hb dX9_roundedUp_2 dX9_roundedUp_3 (by decide) (fun c_2_0 => ?_) (fun c_2_0 => ?_)
  · skip
    refine lv_lload_n hx hb dX9_roundedUp_10 rfl (lv_at hl 0 rfl) ?_
    refine lv_lneg hx hb dX9_roundedUp_11 ?_
    refine lv_lload_n hx hb dX9_roundedUp_12 rfl (lv_at hl 1 rfl) ?_
    refine xa_fdiv hx hb (hml.trans hl.1.symm) hown (hts (.methodLink RX9 308 yJ9_floorDiv_f86c9) (by decide +kernel)) (hts (.static yJ9_floorDiv_f86c9) (by decide +kernel)) (hts (.initialized RJ9) (by decide +kernel)) (hts (.code yJ9_floorDiv_f86c9 cJ9_floorDiv_f86c9 6 (some .long)) (by decide +kernel)) (Nat.le_of_ble_eq_true rfl) (Nat.le_of_ble_eq_true rfl) (Nat.zero_le _) (Nat.zero_le _) (pos_ne0 (by assumption)) dX9_roundedUp_13 ?_
    refine lv_lneg hx hb dX9_roundedUp_16 ?_
    exact xr_l (v := (-(Jvm.Free.JP.Math_floorDiv_JJ.val (-x) y))) hx hb hr hlocks hK hS dX9_roundedUp_17 (I, L, A, Q, G, J) ⟨(by unfold ruF; first | rw [if_pos (by assumption)] | rw [if_neg (by assumption)]), rfl⟩ hP hD
  · skip
    refine lv_lconst (v := 0) hx hb dX9_roundedUp_6 rfl ?_
    refine lv_goto (tgt := 17) hx hb dX9_roundedUp_7 (by decide) ?_
    exact xr_l (v := (0 : Int64)) hx hb hr hlocks hK hS dX9_roundedUp_17 (I, L, A, Q, G, J) ⟨(by unfold ruF; first | rw [if_pos (by assumption)] | rw [if_neg (by assumption)]), rfl⟩ hP hD
set_option maxRecDepth 20000 in
theorem ggX9_nearestLetter_X9_roundedUp : GoodIn wsX9_nearestLetter wsX9_roundedUp := goodIn_r _ [5, 6, 7, 8, 9] rfl (by decide +kernel)
set_option maxRecDepth 20000 in
theorem gX9_nearestLetter_X9_roundedUp : GoodIn wsX9_nearestLetter (va_wsS RX9 305 yX9_roundedUp wsX9_roundedUp) := goodIn_app (goodIn_of _ (by decide +kernel)) ggX9_nearestLetter_X9_roundedUp
set_option maxRecDepth 20000 in
theorem ggX9_nearestLetter_X9_held : GoodIn wsX9_nearestLetter wsX9_held := goodIn_r _ [12, 13, 14, 15, 16, 17, 18, 19] rfl (by decide +kernel)
set_option maxRecDepth 20000 in
theorem gX9_nearestLetter_X9_held : GoodIn wsX9_nearestLetter (va_wsS RX9 255 yX9_held wsX9_held) := goodIn_app (goodIn_of _ (by decide +kernel)) ggX9_nearestLetter_X9_held
theorem bdX9_nearestLetter_0 : (decode cX9_nearestLetter 0 = .ok (.lload_n 2, 1)) ∧ (decode cX9_nearestLetter 1 = .ok (.lconst 0, 1)) ∧ (decode cX9_nearestLetter 2 = .ok (.lcmp, 1)) ∧ (decode cX9_nearestLetter 3 = .ok (.ifCond .gt 5, 3)) ∧ (decode cX9_nearestLetter 6 = .ok (.iconst 0, 1)) ∧ (decode cX9_nearestLetter 7 = .ok (.ireturn, 1)) ∧ (decode cX9_nearestLetter 8 = .ok (.lload_n 0, 1)) ∧ (decode cX9_nearestLetter 9 = .ok (.iload 4, 2)) ∧ (decode cX9_nearestLetter 11 = .ok (.iconst 2, 1)) ∧ (decode cX9_nearestLetter 12 = .ok (.isub, 1)) ∧ (decode cX9_nearestLetter 13 = .ok (.i2l, 1)) ∧ (decode cX9_nearestLetter 14 = .ok (.lload_n 2, 1)) ∧ (decode cX9_nearestLetter 15 = .ok (.lmul, 1)) ∧ (decode cX9_nearestLetter 16 = .ok (.ladd, 1)) ∧ (decode cX9_nearestLetter 17 = .ok (.ldc2_w 303, 3)) ∧ (decode cX9_nearestLetter 20 = .ok (.lload_n 2, 1)) := by decide +kernel
theorem dX9_nearestLetter_0 : decode cX9_nearestLetter 0 = .ok (.lload_n 2, 1) := bdX9_nearestLetter_0.1
theorem dX9_nearestLetter_1 : decode cX9_nearestLetter 1 = .ok (.lconst 0, 1) := bdX9_nearestLetter_0.2.1
theorem dX9_nearestLetter_2 : decode cX9_nearestLetter 2 = .ok (.lcmp, 1) := bdX9_nearestLetter_0.2.2.1
theorem dX9_nearestLetter_3 : decode cX9_nearestLetter 3 = .ok (.ifCond .gt 5, 3) := bdX9_nearestLetter_0.2.2.2.1
theorem dX9_nearestLetter_6 : decode cX9_nearestLetter 6 = .ok (.iconst 0, 1) := bdX9_nearestLetter_0.2.2.2.2.1
theorem dX9_nearestLetter_7 : decode cX9_nearestLetter 7 = .ok (.ireturn, 1) := bdX9_nearestLetter_0.2.2.2.2.2.1
theorem dX9_nearestLetter_8 : decode cX9_nearestLetter 8 = .ok (.lload_n 0, 1) := bdX9_nearestLetter_0.2.2.2.2.2.2.1
theorem dX9_nearestLetter_9 : decode cX9_nearestLetter 9 = .ok (.iload 4, 2) := bdX9_nearestLetter_0.2.2.2.2.2.2.2.1
theorem dX9_nearestLetter_11 : decode cX9_nearestLetter 11 = .ok (.iconst 2, 1) := bdX9_nearestLetter_0.2.2.2.2.2.2.2.2.1
theorem dX9_nearestLetter_12 : decode cX9_nearestLetter 12 = .ok (.isub, 1) := bdX9_nearestLetter_0.2.2.2.2.2.2.2.2.2.1
theorem dX9_nearestLetter_13 : decode cX9_nearestLetter 13 = .ok (.i2l, 1) := bdX9_nearestLetter_0.2.2.2.2.2.2.2.2.2.2.1
theorem dX9_nearestLetter_14 : decode cX9_nearestLetter 14 = .ok (.lload_n 2, 1) := bdX9_nearestLetter_0.2.2.2.2.2.2.2.2.2.2.2.1
theorem dX9_nearestLetter_15 : decode cX9_nearestLetter 15 = .ok (.lmul, 1) := bdX9_nearestLetter_0.2.2.2.2.2.2.2.2.2.2.2.2.1
theorem dX9_nearestLetter_16 : decode cX9_nearestLetter 16 = .ok (.ladd, 1) := bdX9_nearestLetter_0.2.2.2.2.2.2.2.2.2.2.2.2.2.1
theorem dX9_nearestLetter_17 : decode cX9_nearestLetter 17 = .ok (.ldc2_w 303, 3) := bdX9_nearestLetter_0.2.2.2.2.2.2.2.2.2.2.2.2.2.2.1
theorem dX9_nearestLetter_20 : decode cX9_nearestLetter 20 = .ok (.lload_n 2, 1) := bdX9_nearestLetter_0.2.2.2.2.2.2.2.2.2.2.2.2.2.2.2
theorem bdX9_nearestLetter_21 : (decode cX9_nearestLetter 21 = .ok (.lmul, 1)) ∧ (decode cX9_nearestLetter 22 = .ok (.invokestatic 305, 3)) ∧ (decode cX9_nearestLetter 25 = .ok (.iload 4, 2)) ∧ (decode cX9_nearestLetter 27 = .ok (.invokestatic 255, 3)) ∧ (decode cX9_nearestLetter 30 = .ok (.ireturn, 1)) := by decide +kernel
theorem dX9_nearestLetter_21 : decode cX9_nearestLetter 21 = .ok (.lmul, 1) := bdX9_nearestLetter_21.1
theorem dX9_nearestLetter_22 : decode cX9_nearestLetter 22 = .ok (.invokestatic 305, 3) := bdX9_nearestLetter_21.2.1
theorem dX9_nearestLetter_25 : decode cX9_nearestLetter 25 = .ok (.iload 4, 2) := bdX9_nearestLetter_21.2.2.1
theorem dX9_nearestLetter_27 : decode cX9_nearestLetter 27 = .ok (.invokestatic 255, 3) := bdX9_nearestLetter_21.2.2.2.1
theorem dX9_nearestLetter_30 : decode cX9_nearestLetter 30 = .ok (.ireturn, 1) := bdX9_nearestLetter_21.2.2.2.2
set_option maxHeartbeats 4000000 in
set_option maxRecDepth 100000 in
theorem k_X9_nearestLetter (l : Launch) (dC : Nat → ClassId) (dI : Nat → Nat → Nat) (h : Nat → Nat) (cs : Nat → ClassId) (sz : Nat) (I : Nat → Int32) (L : Nat → Int64) (A : Nat → Nat → Int32) (Q : Nat → Nat → Int64) (G : Nat → Nat → Nat → Int32) (J : Nat → Nat → Nat → Int64) (x y : Int64) (a : Int32) : Met l yX9_nearestLetter wsX9_nearestLetter ({ frames := 2, cells := 0, slots := 0, locals := 82 }) (va_Pc [.long x, .long y, .int a] (xPre (dC, dI) ([] : va_W) (tysA cs) sz)) (va_Qi (fun (r : Int32) (u : CS) => (r = nlF x y a) ∧ u = (I, L, A, Q, G, J)) (xB (dC, dI) (tysA cs) (va_A ([] : va_W) sz) (fun _ : CS => ([] : va_W))) (va_A ([] : va_W) sz)) 0 0 (va_A ([] : va_W) sz) := by
  refine Met.ofW (cc := cX9_nearestLetter) (maxL := 5) (ret := (some .int)) (by decide) rfl ?_
  intro p e s m args below meth c s₁ B hml hv
  obtain ⟨rfl, hsz, hP, hK, hD0, hN⟩ := hv
  have hx := B.exec
  have hb := B.bytes
  have hr := B.returns
  have hts := atoms_spec (ws := wsX9_nearestLetter) B.pre
  have hown : s.vm.findClass RX9 = some m.cls := findClass_of_methodNamed B.named
  have hlocks := B.notSynchronized
  subst hsz
  have hD := hD0.self (sz := s.heap.size)
  generalize hAe : va_A ([] : va_W) s.heap.size = A0 at hD ⊢
  have hA : ∀ q : Nat, s.heap.size ≤ q → A0 q := fun q h => by rw [← hAe]; exact Or.inr h
  have hl := lv_entry ([.long x, .long y, .int a]) (n := 5) (Nat.le_of_ble_eq_true rfl)
  rw [lg_entry_eq]
  generalize (lg_sl ([.long x, .long y, .int a]) ++ List.replicate (5 - (lg_sl ([.long x, .long y, .int a])).length) Slot.unset).toArray = ls at hl ⊢
  have hl : lv_has ls 5 [(0, .long x), (2, .long y), (4, .int a)] := hl
  generalize hH : s.heap = H at hP ⊢
  have hS : va_S A0 s.heap H [] := by rw [← hH]; exact va_S.rf
  refine lv_lload_n hx hb dX9_nearestLetter_0 rfl (lv_at hl 1 rfl) ?_
  refine lv_lconst (v := 0) hx hb dX9_nearestLetter_1 rfl ?_
  refine xl_gt (tgt := 8) hx hb dX9_nearestLetter_2 dX9_nearestLetter_3 (by decide) (fun c_2_0 => ?_) (fun c_2_0 => ?_)
  · skip
    refine lv_lload_n hx hb dX9_nearestLetter_8 rfl (lv_at hl 0 rfl) ?_
    refine lv_iload hx hb dX9_nearestLetter_9 (lv_at hl 2 rfl) ?_
    refine lv_iconst (v := nI 2) hx hb dX9_nearestLetter_11 (by decide) ?_
    refine lv_isub hx hb dX9_nearestLetter_12 ?_
    refine lv_i2l (v := (a - (nI 2)).toInt64) hx hb dX9_nearestLetter_13 rfl ?_
    refine lv_lload_n hx hb dX9_nearestLetter_14 rfl (lv_at hl 1 rfl) ?_
    refine lv_lmul hx hb dX9_nearestLetter_15 ?_
    refine lv_ladd hx hb dX9_nearestLetter_16 ?_
    refine lv_ldc2 (v := 2) hx hb hown (hts (.constantLong RX9 303 (2)) (by decide +kernel)) dX9_nearestLetter_17 ?_
    refine lv_lload_n hx hb dX9_nearestLetter_20 rfl (lv_at hl 1 rfl) ?_
    refine lv_lmul hx hb dX9_nearestLetter_21 ?_
    refine xj_l (wc := ([] : va_W)) (wr := ([] : va_W)) hP hD hS hA [] [] rfl rfl (by decide +kernel) (by decide +kernel) (va_runS (As := [.long (x + (((a - (nI 2)).toInt64) * y)), .long ((2 : Int64) * y)]) (rest := []) ⟨hx, hb, hml, hown, hts⟩ (k_X9_roundedUp l dC dI h cs H.size I L A Q G J (x + (((a - (nI 2)).toInt64) * y)) ((2 : Int64) * y)) (va_cwS 2 hts gX9_nearestLetter_X9_roundedUp rfl rfl rfl (by decide +kernel) ⟨Nat.le_of_ble_eq_true rfl, Nat.le_of_ble_eq_true rfl⟩) (xpS (wc := ([] : va_W)) hP hD hK hN [] rfl (by decide) _) rfl rfl hl.1 rfl (lv_room (Nat.le_of_ble_eq_true rfl)) dX9_nearestLetter_22 ⟨Nat.zero_le _, Nat.zero_le _⟩) (fun r_3 u_2 H locs hw hP hD hS => ?_)
    obtain ⟨hf_4, rfl⟩ := hw
    obtain rfl := hf_4
    refine lv_iload hx hb dX9_nearestLetter_25 (lv_at hl 2 rfl) ?_
    refine xj_i (wc := ([] : va_W)) (wr := ([] : va_W)) hP hD hS hA [] [] rfl rfl (by decide +kernel) (by decide +kernel) (va_runS (As := [.long (ruF (x + (((a - (nI 2)).toInt64) * y)) ((2 : Int64) * y)), .int a]) (rest := []) ⟨hx, hb, hml, hown, hts⟩ (k_X9_held l dC dI h cs H.size I L A Q G J (ruF (x + (((a - (nI 2)).toInt64) * y)) ((2 : Int64) * y)) a) (va_cwS 2 hts gX9_nearestLetter_X9_held rfl rfl rfl (by decide +kernel) ⟨Nat.le_of_ble_eq_true rfl, Nat.le_of_ble_eq_true rfl⟩) (xpS (wc := ([] : va_W)) hP hD hK hN [] rfl (by decide) _) rfl rfl hl.1 rfl (lv_room (Nat.le_of_ble_eq_true rfl)) dX9_nearestLetter_27 ⟨Nat.zero_le _, Nat.zero_le _⟩) (fun r_6 u_5 H locs hw hP hD hS => ?_)
    obtain ⟨hf_7, rfl⟩ := hw
    obtain rfl := hf_7
    exact xr_i (v := (hdF (ruF (x + (((a - (nI 2)).toInt64) * y)) ((2 : Int64) * y)) a)) hx hb hr hlocks hK hS dX9_nearestLetter_30 (I, L, A, Q, G, J) ⟨(by unfold nlF; first | rw [if_pos (by assumption)] | rw [if_neg (by assumption)]), rfl⟩ hP hD
  · skip
    refine lv_iconst (v := nI 0) hx hb dX9_nearestLetter_6 (by decide) ?_
    exact xr_i (v := (nI 0)) hx hb hr hlocks hK hS dX9_nearestLetter_7 (I, L, A, Q, G, J) ⟨(by unfold nlF; first | rw [if_pos (by assumption)] | rw [if_neg (by assumption)]), rfl⟩ hP hD
set_option maxRecDepth 20000 in
theorem ggX9_nearestHalf_X9_roundedUp : GoodIn wsX9_nearestHalf wsX9_roundedUp := goodIn_r _ [5, 6, 7, 8, 9] rfl (by decide +kernel)
set_option maxRecDepth 20000 in
theorem gX9_nearestHalf_X9_roundedUp : GoodIn wsX9_nearestHalf (va_wsS RX9 305 yX9_roundedUp wsX9_roundedUp) := goodIn_app (goodIn_of _ (by decide +kernel)) ggX9_nearestHalf_X9_roundedUp
theorem bdX9_nearestHalf_0 : (decode cX9_nearestHalf 0 = .ok (.lload_n 2, 1)) ∧ (decode cX9_nearestHalf 1 = .ok (.lconst 0, 1)) ∧ (decode cX9_nearestHalf 2 = .ok (.lcmp, 1)) ∧ (decode cX9_nearestHalf 3 = .ok (.ifCond .gt 7, 3)) ∧ (decode cX9_nearestHalf 6 = .ok (.lconst 0, 1)) ∧ (decode cX9_nearestHalf 7 = .ok (.goto 14, 3)) ∧ (decode cX9_nearestHalf 10 = .ok (.lload_n 0, 1)) ∧ (decode cX9_nearestHalf 11 = .ok (.lload_n 2, 1)) ∧ (decode cX9_nearestHalf 12 = .ok (.lsub, 1)) ∧ (decode cX9_nearestHalf 13 = .ok (.ldc2_w 303, 3)) ∧ (decode cX9_nearestHalf 16 = .ok (.lload_n 2, 1)) ∧ (decode cX9_nearestHalf 17 = .ok (.lmul, 1)) ∧ (decode cX9_nearestHalf 18 = .ok (.invokestatic 305, 3)) ∧ (decode cX9_nearestHalf 21 = .ok (.lreturn, 1)) := by decide +kernel
theorem dX9_nearestHalf_0 : decode cX9_nearestHalf 0 = .ok (.lload_n 2, 1) := bdX9_nearestHalf_0.1
theorem dX9_nearestHalf_1 : decode cX9_nearestHalf 1 = .ok (.lconst 0, 1) := bdX9_nearestHalf_0.2.1
theorem dX9_nearestHalf_2 : decode cX9_nearestHalf 2 = .ok (.lcmp, 1) := bdX9_nearestHalf_0.2.2.1
theorem dX9_nearestHalf_3 : decode cX9_nearestHalf 3 = .ok (.ifCond .gt 7, 3) := bdX9_nearestHalf_0.2.2.2.1
theorem dX9_nearestHalf_6 : decode cX9_nearestHalf 6 = .ok (.lconst 0, 1) := bdX9_nearestHalf_0.2.2.2.2.1
theorem dX9_nearestHalf_7 : decode cX9_nearestHalf 7 = .ok (.goto 14, 3) := bdX9_nearestHalf_0.2.2.2.2.2.1
theorem dX9_nearestHalf_10 : decode cX9_nearestHalf 10 = .ok (.lload_n 0, 1) := bdX9_nearestHalf_0.2.2.2.2.2.2.1
theorem dX9_nearestHalf_11 : decode cX9_nearestHalf 11 = .ok (.lload_n 2, 1) := bdX9_nearestHalf_0.2.2.2.2.2.2.2.1
theorem dX9_nearestHalf_12 : decode cX9_nearestHalf 12 = .ok (.lsub, 1) := bdX9_nearestHalf_0.2.2.2.2.2.2.2.2.1
theorem dX9_nearestHalf_13 : decode cX9_nearestHalf 13 = .ok (.ldc2_w 303, 3) := bdX9_nearestHalf_0.2.2.2.2.2.2.2.2.2.1
theorem dX9_nearestHalf_16 : decode cX9_nearestHalf 16 = .ok (.lload_n 2, 1) := bdX9_nearestHalf_0.2.2.2.2.2.2.2.2.2.2.1
theorem dX9_nearestHalf_17 : decode cX9_nearestHalf 17 = .ok (.lmul, 1) := bdX9_nearestHalf_0.2.2.2.2.2.2.2.2.2.2.2.1
theorem dX9_nearestHalf_18 : decode cX9_nearestHalf 18 = .ok (.invokestatic 305, 3) := bdX9_nearestHalf_0.2.2.2.2.2.2.2.2.2.2.2.2.1
theorem dX9_nearestHalf_21 : decode cX9_nearestHalf 21 = .ok (.lreturn, 1) := bdX9_nearestHalf_0.2.2.2.2.2.2.2.2.2.2.2.2.2
set_option maxHeartbeats 4000000 in
set_option maxRecDepth 100000 in
theorem k_X9_nearestHalf (l : Launch) (dC : Nat → ClassId) (dI : Nat → Nat → Nat) (h : Nat → Nat) (cs : Nat → ClassId) (sz : Nat) (I : Nat → Int32) (L : Nat → Int64) (A : Nat → Nat → Int32) (Q : Nat → Nat → Int64) (G : Nat → Nat → Nat → Int32) (J : Nat → Nat → Nat → Int64) (x y : Int64) : Met l yX9_nearestHalf wsX9_nearestHalf ({ frames := 2, cells := 0, slots := 0, locals := 48 }) (va_Pc [.long x, .long y] (xPre (dC, dI) ([] : va_W) (tysA cs) sz)) (va_Ql (fun (r : Int64) (u : CS) => (r = nhF x y) ∧ u = (I, L, A, Q, G, J)) (xB (dC, dI) (tysA cs) (va_A ([] : va_W) sz) (fun _ : CS => ([] : va_W))) (va_A ([] : va_W) sz)) 0 0 (va_A ([] : va_W) sz) := by
  refine Met.ofW (cc := cX9_nearestHalf) (maxL := 4) (ret := (some .long)) (by decide) rfl ?_
  intro p e s m args below meth c s₁ B hml hv
  obtain ⟨rfl, hsz, hP, hK, hD0, hN⟩ := hv
  have hx := B.exec
  have hb := B.bytes
  have hr := B.returns
  have hts := atoms_spec (ws := wsX9_nearestHalf) B.pre
  have hown : s.vm.findClass RX9 = some m.cls := findClass_of_methodNamed B.named
  have hlocks := B.notSynchronized
  subst hsz
  have hD := hD0.self (sz := s.heap.size)
  generalize hAe : va_A ([] : va_W) s.heap.size = A0 at hD ⊢
  have hA : ∀ q : Nat, s.heap.size ≤ q → A0 q := fun q h => by rw [← hAe]; exact Or.inr h
  have hl := lv_entry ([.long x, .long y]) (n := 4) (Nat.le_of_ble_eq_true rfl)
  rw [lg_entry_eq]
  generalize (lg_sl ([.long x, .long y]) ++ List.replicate (4 - (lg_sl ([.long x, .long y])).length) Slot.unset).toArray = ls at hl ⊢
  have hl : lv_has ls 4 [(0, .long x), (2, .long y)] := hl
  generalize hH : s.heap = H at hP ⊢
  have hS : va_S A0 s.heap H [] := by rw [← hH]; exact va_S.rf
  refine lv_lload_n hx hb dX9_nearestHalf_0 rfl (lv_at hl 1 rfl) ?_
  refine lv_lconst (v := 0) hx hb dX9_nearestHalf_1 rfl ?_
  refine xl_gt (tgt := 10) hx hb dX9_nearestHalf_2 dX9_nearestHalf_3 (by decide) (fun c_2_0 => ?_) (fun c_2_0 => ?_)
  · skip
    refine lv_lload_n hx hb dX9_nearestHalf_10 rfl (lv_at hl 0 rfl) ?_
    refine lv_lload_n hx hb dX9_nearestHalf_11 rfl (lv_at hl 1 rfl) ?_
    refine lv_lsub hx hb dX9_nearestHalf_12 ?_
    refine lv_ldc2 (v := 2) hx hb hown (hts (.constantLong RX9 303 (2)) (by decide +kernel)) dX9_nearestHalf_13 ?_
    refine lv_lload_n hx hb dX9_nearestHalf_16 rfl (lv_at hl 1 rfl) ?_
    refine lv_lmul hx hb dX9_nearestHalf_17 ?_
    refine xj_l (wc := ([] : va_W)) (wr := ([] : va_W)) hP hD hS hA [] [] rfl rfl (by decide +kernel) (by decide +kernel) (va_runS (As := [.long (x - y), .long ((2 : Int64) * y)]) (rest := []) ⟨hx, hb, hml, hown, hts⟩ (k_X9_roundedUp l dC dI h cs H.size I L A Q G J (x - y) ((2 : Int64) * y)) (va_cwS 2 hts gX9_nearestHalf_X9_roundedUp rfl rfl rfl (by decide +kernel) ⟨Nat.le_of_ble_eq_true rfl, Nat.le_of_ble_eq_true rfl⟩) (xpS (wc := ([] : va_W)) hP hD hK hN [] rfl (by decide) _) rfl rfl hl.1 rfl (lv_room (Nat.le_of_ble_eq_true rfl)) dX9_nearestHalf_18 ⟨Nat.zero_le _, Nat.zero_le _⟩) (fun r_3 u_2 H locs hw hP hD hS => ?_)
    obtain ⟨hf_4, rfl⟩ := hw
    obtain rfl := hf_4
    exact xr_l (v := (ruF (x - y) ((2 : Int64) * y))) hx hb hr hlocks hK hS dX9_nearestHalf_21 (I, L, A, Q, G, J) ⟨(by unfold nhF; first | rw [if_pos (by assumption)] | rw [if_neg (by assumption)]), rfl⟩ hP hD
  · skip
    refine lv_lconst (v := 0) hx hb dX9_nearestHalf_6 rfl ?_
    refine lv_goto (tgt := 21) hx hb dX9_nearestHalf_7 (by decide) ?_
    exact xr_l (v := (0 : Int64)) hx hb hr hlocks hK hS dX9_nearestHalf_21 (I, L, A, Q, G, J) ⟨(by unfold nhF; first | rw [if_pos (by assumption)] | rw [if_neg (by assumption)]), rfl⟩ hP hD
theorem bdX9_commonDivisor_0 : (decode cX9_commonDivisor 0 = .ok (.lload_n 0, 1)) ∧ (decode cX9_commonDivisor 1 = .ok (.lstore 4, 2)) ∧ (decode cX9_commonDivisor 3 = .ok (.lload_n 2, 1)) ∧ (decode cX9_commonDivisor 4 = .ok (.lstore 6, 2)) ∧ (decode cX9_commonDivisor 6 = .ok (.iconst 0, 1)) ∧ (decode cX9_commonDivisor 7 = .ok (.istore 8, 2)) ∧ (decode cX9_commonDivisor 9 = .ok (.iload 8, 2)) ∧ (decode cX9_commonDivisor 11 = .ok (.sipush 200, 3)) ∧ (decode cX9_commonDivisor 14 = .ok (.if_icmp .ge 31, 3)) ∧ (decode cX9_commonDivisor 17 = .ok (.lload 6, 2)) ∧ (decode cX9_commonDivisor 19 = .ok (.lconst 0, 1)) ∧ (decode cX9_commonDivisor 20 = .ok (.lcmp, 1)) ∧ (decode cX9_commonDivisor 21 = .ok (.ifCond .eq 24, 3)) ∧ (decode cX9_commonDivisor 24 = .ok (.lload 4, 2)) ∧ (decode cX9_commonDivisor 26 = .ok (.lload 6, 2)) ∧ (decode cX9_commonDivisor 28 = .ok (.lrem, 1)) := by decide +kernel
theorem dX9_commonDivisor_0 : decode cX9_commonDivisor 0 = .ok (.lload_n 0, 1) := bdX9_commonDivisor_0.1
theorem dX9_commonDivisor_1 : decode cX9_commonDivisor 1 = .ok (.lstore 4, 2) := bdX9_commonDivisor_0.2.1
theorem dX9_commonDivisor_3 : decode cX9_commonDivisor 3 = .ok (.lload_n 2, 1) := bdX9_commonDivisor_0.2.2.1
theorem dX9_commonDivisor_4 : decode cX9_commonDivisor 4 = .ok (.lstore 6, 2) := bdX9_commonDivisor_0.2.2.2.1
theorem dX9_commonDivisor_6 : decode cX9_commonDivisor 6 = .ok (.iconst 0, 1) := bdX9_commonDivisor_0.2.2.2.2.1
theorem dX9_commonDivisor_7 : decode cX9_commonDivisor 7 = .ok (.istore 8, 2) := bdX9_commonDivisor_0.2.2.2.2.2.1
theorem dX9_commonDivisor_9 : decode cX9_commonDivisor 9 = .ok (.iload 8, 2) := bdX9_commonDivisor_0.2.2.2.2.2.2.1
theorem dX9_commonDivisor_11 : decode cX9_commonDivisor 11 = .ok (.sipush 200, 3) := bdX9_commonDivisor_0.2.2.2.2.2.2.2.1
theorem dX9_commonDivisor_14 : decode cX9_commonDivisor 14 = .ok (.if_icmp .ge 31, 3) := bdX9_commonDivisor_0.2.2.2.2.2.2.2.2.1
theorem dX9_commonDivisor_17 : decode cX9_commonDivisor 17 = .ok (.lload 6, 2) := bdX9_commonDivisor_0.2.2.2.2.2.2.2.2.2.1
theorem dX9_commonDivisor_19 : decode cX9_commonDivisor 19 = .ok (.lconst 0, 1) := bdX9_commonDivisor_0.2.2.2.2.2.2.2.2.2.2.1
theorem dX9_commonDivisor_20 : decode cX9_commonDivisor 20 = .ok (.lcmp, 1) := bdX9_commonDivisor_0.2.2.2.2.2.2.2.2.2.2.2.1
theorem dX9_commonDivisor_21 : decode cX9_commonDivisor 21 = .ok (.ifCond .eq 24, 3) := bdX9_commonDivisor_0.2.2.2.2.2.2.2.2.2.2.2.2.1
theorem dX9_commonDivisor_24 : decode cX9_commonDivisor 24 = .ok (.lload 4, 2) := bdX9_commonDivisor_0.2.2.2.2.2.2.2.2.2.2.2.2.2.1
theorem dX9_commonDivisor_26 : decode cX9_commonDivisor 26 = .ok (.lload 6, 2) := bdX9_commonDivisor_0.2.2.2.2.2.2.2.2.2.2.2.2.2.2.1
theorem dX9_commonDivisor_28 : decode cX9_commonDivisor 28 = .ok (.lrem, 1) := bdX9_commonDivisor_0.2.2.2.2.2.2.2.2.2.2.2.2.2.2.2
theorem bdX9_commonDivisor_29 : (decode cX9_commonDivisor 29 = .ok (.lstore 9, 2)) ∧ (decode cX9_commonDivisor 31 = .ok (.lload 6, 2)) ∧ (decode cX9_commonDivisor 33 = .ok (.lstore 4, 2)) ∧ (decode cX9_commonDivisor 35 = .ok (.lload 9, 2)) ∧ (decode cX9_commonDivisor 37 = .ok (.lstore 6, 2)) ∧ (decode cX9_commonDivisor 39 = .ok (.iinc 8 1, 3)) ∧ (decode cX9_commonDivisor 42 = .ok (.goto (-33), 3)) ∧ (decode cX9_commonDivisor 45 = .ok (.lload 4, 2)) ∧ (decode cX9_commonDivisor 47 = .ok (.lreturn, 1)) := by decide +kernel
theorem dX9_commonDivisor_29 : decode cX9_commonDivisor 29 = .ok (.lstore 9, 2) := bdX9_commonDivisor_29.1
theorem dX9_commonDivisor_31 : decode cX9_commonDivisor 31 = .ok (.lload 6, 2) := bdX9_commonDivisor_29.2.1
theorem dX9_commonDivisor_33 : decode cX9_commonDivisor 33 = .ok (.lstore 4, 2) := bdX9_commonDivisor_29.2.2.1
theorem dX9_commonDivisor_35 : decode cX9_commonDivisor 35 = .ok (.lload 9, 2) := bdX9_commonDivisor_29.2.2.2.1
theorem dX9_commonDivisor_37 : decode cX9_commonDivisor 37 = .ok (.lstore 6, 2) := bdX9_commonDivisor_29.2.2.2.2.1
theorem dX9_commonDivisor_39 : decode cX9_commonDivisor 39 = .ok (.iinc 8 1, 3) := bdX9_commonDivisor_29.2.2.2.2.2.1
theorem dX9_commonDivisor_42 : decode cX9_commonDivisor 42 = .ok (.goto (-33), 3) := bdX9_commonDivisor_29.2.2.2.2.2.2.1
theorem dX9_commonDivisor_45 : decode cX9_commonDivisor 45 = .ok (.lload 4, 2) := bdX9_commonDivisor_29.2.2.2.2.2.2.2.1
theorem dX9_commonDivisor_47 : decode cX9_commonDivisor 47 = .ok (.lreturn, 1) := bdX9_commonDivisor_29.2.2.2.2.2.2.2.2
set_option maxHeartbeats 4000000 in
set_option maxRecDepth 100000 in
theorem k_X9_commonDivisor (l : Launch) (dC : Nat → ClassId) (dI : Nat → Nat → Nat) (h : Nat → Nat) (cs : Nat → ClassId) (sz : Nat) (I : Nat → Int32) (L : Nat → Int64) (A : Nat → Nat → Int32) (Q : Nat → Nat → Int64) (G : Nat → Nat → Nat → Int32) (J : Nat → Nat → Nat → Int64) (x y : Int64) : Met l yX9_commonDivisor wsX9_commonDivisor ({ frames := 0, cells := 0, slots := 0, locals := 0 }) (va_Pc [.long x, .long y] (xPre (dC, dI) ([] : va_W) (tysA cs) sz)) (va_Ql (fun (r : Int64) (u : CS) => (True) ∧ u = (I, L, A, Q, G, J)) (xB (dC, dI) (tysA cs) (va_A ([] : va_W) sz) (fun _ : CS => ([] : va_W))) (va_A ([] : va_W) sz)) 0 0 (va_A ([] : va_W) sz) := by
  refine Met.ofW (cc := cX9_commonDivisor) (maxL := 11) (ret := (some .long)) (by decide) rfl ?_
  intro p e s m args below meth c s₁ B hml hv
  obtain ⟨rfl, hsz, hP, hK, hD0, hN⟩ := hv
  have hx := B.exec
  have hb := B.bytes
  have hr := B.returns
  have hts := atoms_spec (ws := wsX9_commonDivisor) B.pre
  have hown : s.vm.findClass RX9 = some m.cls := findClass_of_methodNamed B.named
  have hlocks := B.notSynchronized
  subst hsz
  have hD := hD0.self (sz := s.heap.size)
  generalize hAe : va_A ([] : va_W) s.heap.size = A0 at hD ⊢
  have hA : ∀ q : Nat, s.heap.size ≤ q → A0 q := fun q h => by rw [← hAe]; exact Or.inr h
  have hl := lv_entry ([.long x, .long y]) (n := 11) (Nat.le_of_ble_eq_true rfl)
  rw [lg_entry_eq]
  generalize (lg_sl ([.long x, .long y]) ++ List.replicate (11 - (lg_sl ([.long x, .long y])).length) Slot.unset).toArray = ls at hl ⊢
  have hl : lv_has ls 11 [(0, .long x), (2, .long y)] := hl
  generalize hH : s.heap = H at hP ⊢
  have hS : va_S A0 s.heap H [] := by rw [← hH]; exact va_S.rf
  refine lv_lload_n hx hb dX9_commonDivisor_0 rfl (lv_at hl 0 rfl) ?_
  refine lv_lstore (lv' := [(4, .long x), (0, .long x), (2, .long y)]) hx hb dX9_commonDivisor_1 hl (by decide) rfl (fun ls hl => ?_)
  refine lv_lload_n hx hb dX9_commonDivisor_3 rfl (lv_at hl 2 rfl) ?_
  refine lv_lstore (lv' := [(6, .long y), (4, .long x), (0, .long x), (2, .long y)]) hx hb dX9_commonDivisor_4 hl (by decide) rfl (fun ls hl => ?_)
  refine lv_iconst (v := nI 0) hx hb dX9_commonDivisor_6 (by decide) ?_
  refine lv_istore (lv' := [(8, .int (nI 0)), (6, .long y), (4, .long x), (0, .long x), (2, .long y)]) hx hb dX9_commonDivisor_7 hl (by decide) rfl (fun ls hl => ?_)
  have cut_9 : ∀ (nf : Nat) (n : Nat) (z4 : Int64) (z6 : Int64), (200 - n) < nf → (n ≤ 200) → ∀ (H : Heap) (locs : List Loc) (ls : Array Slot), va_P (dC, dI) vwCl ([] : va_W) H → va_D A0 ([] : va_W) → va_S A0 s.heap H locs → lv_has ls 11 [(0, .long x), (2, .long y), (4, .long z4), (6, .long z6), (8, .int (nI n))] → W p l e (headSpec wsX9_commonDivisor ({ frames := 0, cells := 0, slots := 0, locals := 0 })).room s m ([.long x, .long y] : List Value).toArray below meth c H locs 0 0 (MQ below (va_Ql (fun (r : Int64) (u : CS) => (True) ∧ u = (I, L, A, Q, G, J)) (xB (dC, dI) (tysA cs) A0 (fun _ : CS => ([] : va_W))) A0) ([.long x, .long y] : List Value).toArray s 0 0 A0) (F0 m 9 ls []) := by
    intro nf
    induction nf with
    | zero => intro n z4 z6 hm; exact absurd hm (Nat.not_lt_zero _)
    | succ nf ih_9 =>
      intro n z4 z6 hm_9 hn9 H locs ls hP hD hS hl
      refine lv_iload hx hb dX9_commonDivisor_9 (lv_at hl 4 rfl) ?_
      refine lv_sipush (v := nI 200) hx hb dX9_commonDivisor_11 (by decide) ?_
      refine xn_ge (tgt := 45) hx hb dX9_commonDivisor_14 (by decide) (by omega) (by omega) (fun c_14_0 => ?_) (fun c_14_0 => ?_)
      · skip
        refine lv_lload hx hb dX9_commonDivisor_45 (lv_at hl 2 rfl) ?_
        exact xr_l (v := z4) hx hb hr hlocks hK hS dX9_commonDivisor_47 (I, L, A, Q, G, J) ⟨trivial, rfl⟩ hP hD
      · skip
        refine lv_lload hx hb dX9_commonDivisor_17 (lv_at hl 3 rfl) ?_
        refine lv_lconst (v := 0) hx hb dX9_commonDivisor_19 rfl ?_
        refine xl_eq (tgt := 45) hx hb dX9_commonDivisor_20 dX9_commonDivisor_21 (by decide) (fun c_20_1 => ?_) (fun c_20_1 => ?_)
        · skip
          refine lv_lload hx hb dX9_commonDivisor_45 (lv_at hl 2 rfl) ?_
          exact xr_l (v := z4) hx hb hr hlocks hK hS dX9_commonDivisor_47 (I, L, A, Q, G, J) ⟨trivial, rfl⟩ hP hD
        · skip
          refine lv_lload hx hb dX9_commonDivisor_24 (lv_at hl 2 rfl) ?_
          refine lv_lload hx hb dX9_commonDivisor_26 (lv_at hl 3 rfl) ?_
          refine lv_lrem hx hb dX9_commonDivisor_28 (by assumption) ?_
          refine lv_lstore (lv' := [(9, .long (z4 - z4 / z6 * z6)), (0, .long x), (2, .long y), (4, .long z4), (6, .long z6), (8, .int (nI n))]) hx hb dX9_commonDivisor_29 hl (by decide) rfl (fun ls hl => ?_)
          refine lv_lload hx hb dX9_commonDivisor_31 (lv_at hl 4 rfl) ?_
          refine lv_lstore (lv' := [(4, .long z6), (9, .long (z4 - z4 / z6 * z6)), (0, .long x), (2, .long y), (6, .long z6), (8, .int (nI n))]) hx hb dX9_commonDivisor_33 hl (by decide) rfl (fun ls hl => ?_)
          refine lv_lload hx hb dX9_commonDivisor_35 (lv_at hl 1 rfl) ?_
          refine lv_lstore (lv' := [(6, .long (z4 - z4 / z6 * z6)), (4, .long z6), (9, .long (z4 - z4 / z6 * z6)), (0, .long x), (2, .long y), (8, .int (nI n))]) hx hb dX9_commonDivisor_37 hl (by decide) rfl (fun ls hl => ?_)
          refine lv_iinc (v := nI (n + 1)) (lv' := [(8, .int (nI (n + 1))), (6, .long (z4 - z4 / z6 * z6)), (4, .long z6), (9, .long (z4 - z4 / z6 * z6)), (0, .long x), (2, .long y)]) hx hb dX9_commonDivisor_39 hl (k := 5) rfl (nI_1 _) (by decide) rfl (fun ls hl => ?_)
          refine lv_goto (tgt := 9) hx hb dX9_commonDivisor_42 (by decide) ?_
          exact ih_9 (n + 1) z6 (z4 - z4 / z6 * z6) (by omega) (by first | assumption | omega) _ _ _ hP hD hS (lv_sub hl [4, 5, 2, 1, 0] rfl)
  exact cut_9 _ 0 x y (Nat.lt_succ_self _) (by first | assumption | omega) _ _ _ hP hD hS (lv_sub hl [3, 4, 2, 1, 0] rfl)
theorem bdX9_mirror_0 : (decode cX9_mirror 0 = .ok (.iconst 0, 1)) ∧ (decode cX9_mirror 1 = .ok (.istore_n 2, 1)) ∧ (decode cX9_mirror 2 = .ok (.iconst 0, 1)) ∧ (decode cX9_mirror 3 = .ok (.istore_n 3, 1)) ∧ (decode cX9_mirror 4 = .ok (.iload_n 3, 1)) ∧ (decode cX9_mirror 5 = .ok (.iload_n 1, 1)) ∧ (decode cX9_mirror 6 = .ok (.if_icmp .ge 19, 3)) ∧ (decode cX9_mirror 9 = .ok (.iload_n 2, 1)) ∧ (decode cX9_mirror 10 = .ok (.iconst 1, 1)) ∧ (decode cX9_mirror 11 = .ok (.ishl, 1)) ∧ (decode cX9_mirror 12 = .ok (.iload_n 0, 1)) ∧ (decode cX9_mirror 13 = .ok (.iload_n 3, 1)) ∧ (decode cX9_mirror 14 = .ok (.ishr, 1)) ∧ (decode cX9_mirror 15 = .ok (.iconst 1, 1)) ∧ (decode cX9_mirror 16 = .ok (.iand, 1)) ∧ (decode cX9_mirror 17 = .ok (.ior, 1)) := by decide +kernel
theorem dX9_mirror_0 : decode cX9_mirror 0 = .ok (.iconst 0, 1) := bdX9_mirror_0.1
theorem dX9_mirror_1 : decode cX9_mirror 1 = .ok (.istore_n 2, 1) := bdX9_mirror_0.2.1
theorem dX9_mirror_2 : decode cX9_mirror 2 = .ok (.iconst 0, 1) := bdX9_mirror_0.2.2.1
theorem dX9_mirror_3 : decode cX9_mirror 3 = .ok (.istore_n 3, 1) := bdX9_mirror_0.2.2.2.1
theorem dX9_mirror_4 : decode cX9_mirror 4 = .ok (.iload_n 3, 1) := bdX9_mirror_0.2.2.2.2.1
theorem dX9_mirror_5 : decode cX9_mirror 5 = .ok (.iload_n 1, 1) := bdX9_mirror_0.2.2.2.2.2.1
theorem dX9_mirror_6 : decode cX9_mirror 6 = .ok (.if_icmp .ge 19, 3) := bdX9_mirror_0.2.2.2.2.2.2.1
theorem dX9_mirror_9 : decode cX9_mirror 9 = .ok (.iload_n 2, 1) := bdX9_mirror_0.2.2.2.2.2.2.2.1
theorem dX9_mirror_10 : decode cX9_mirror 10 = .ok (.iconst 1, 1) := bdX9_mirror_0.2.2.2.2.2.2.2.2.1
theorem dX9_mirror_11 : decode cX9_mirror 11 = .ok (.ishl, 1) := bdX9_mirror_0.2.2.2.2.2.2.2.2.2.1
theorem dX9_mirror_12 : decode cX9_mirror 12 = .ok (.iload_n 0, 1) := bdX9_mirror_0.2.2.2.2.2.2.2.2.2.2.1
theorem dX9_mirror_13 : decode cX9_mirror 13 = .ok (.iload_n 3, 1) := bdX9_mirror_0.2.2.2.2.2.2.2.2.2.2.2.1
theorem dX9_mirror_14 : decode cX9_mirror 14 = .ok (.ishr, 1) := bdX9_mirror_0.2.2.2.2.2.2.2.2.2.2.2.2.1
theorem dX9_mirror_15 : decode cX9_mirror 15 = .ok (.iconst 1, 1) := bdX9_mirror_0.2.2.2.2.2.2.2.2.2.2.2.2.2.1
theorem dX9_mirror_16 : decode cX9_mirror 16 = .ok (.iand, 1) := bdX9_mirror_0.2.2.2.2.2.2.2.2.2.2.2.2.2.2.1
theorem dX9_mirror_17 : decode cX9_mirror 17 = .ok (.ior, 1) := bdX9_mirror_0.2.2.2.2.2.2.2.2.2.2.2.2.2.2.2
theorem bdX9_mirror_18 : (decode cX9_mirror 18 = .ok (.istore_n 2, 1)) ∧ (decode cX9_mirror 19 = .ok (.iinc 3 1, 3)) ∧ (decode cX9_mirror 22 = .ok (.goto (-18), 3)) ∧ (decode cX9_mirror 25 = .ok (.iload_n 2, 1)) ∧ (decode cX9_mirror 26 = .ok (.ireturn, 1)) := by decide +kernel
theorem dX9_mirror_18 : decode cX9_mirror 18 = .ok (.istore_n 2, 1) := bdX9_mirror_18.1
theorem dX9_mirror_19 : decode cX9_mirror 19 = .ok (.iinc 3 1, 3) := bdX9_mirror_18.2.1
theorem dX9_mirror_22 : decode cX9_mirror 22 = .ok (.goto (-18), 3) := bdX9_mirror_18.2.2.1
theorem dX9_mirror_25 : decode cX9_mirror 25 = .ok (.iload_n 2, 1) := bdX9_mirror_18.2.2.2.1
theorem dX9_mirror_26 : decode cX9_mirror 26 = .ok (.ireturn, 1) := bdX9_mirror_18.2.2.2.2
set_option maxHeartbeats 4000000 in
set_option maxRecDepth 100000 in
theorem k_X9_mirror (l : Launch) (dC : Nat → ClassId) (dI : Nat → Nat → Nat) (h : Nat → Nat) (cs : Nat → ClassId) (sz : Nat) (I : Nat → Int32) (L : Nat → Int64) (A : Nat → Nat → Int32) (Q : Nat → Nat → Int64) (G : Nat → Nat → Nat → Int32) (J : Nat → Nat → Nat → Int64) (x : Int32) (w : Nat) (hw4 : w ≤ 4) : Met l yX9_mirror wsX9_mirror ({ frames := 0, cells := 0, slots := 0, locals := 0 }) (va_Pc [.int x, .int (nI w)] (xPre (dC, dI) ([] : va_W) (tysA cs) sz)) (va_Qi (fun (r : Int32) (u : CS) => (r = mirF x w) ∧ u = (I, L, A, Q, G, J)) (xB (dC, dI) (tysA cs) (va_A ([] : va_W) sz) (fun _ : CS => ([] : va_W))) (va_A ([] : va_W) sz)) 0 0 (va_A ([] : va_W) sz) := by
  refine Met.ofW (cc := cX9_mirror) (maxL := 4) (ret := (some .int)) (by decide) rfl ?_
  intro p e s m args below meth c s₁ B hml hv
  obtain ⟨rfl, hsz, hP, hK, hD0, hN⟩ := hv
  have hx := B.exec
  have hb := B.bytes
  have hr := B.returns
  have hts := atoms_spec (ws := wsX9_mirror) B.pre
  have hown : s.vm.findClass RX9 = some m.cls := findClass_of_methodNamed B.named
  have hlocks := B.notSynchronized
  subst hsz
  have hD := hD0.self (sz := s.heap.size)
  generalize hAe : va_A ([] : va_W) s.heap.size = A0 at hD ⊢
  have hA : ∀ q : Nat, s.heap.size ≤ q → A0 q := fun q h => by rw [← hAe]; exact Or.inr h
  have hl := lv_entry ([.int x, .int (nI w)]) (n := 4) (Nat.le_of_ble_eq_true rfl)
  rw [lg_entry_eq]
  generalize (lg_sl ([.int x, .int (nI w)]) ++ List.replicate (4 - (lg_sl ([.int x, .int (nI w)])).length) Slot.unset).toArray = ls at hl ⊢
  have hl : lv_has ls 4 [(0, .int x), (1, .int (nI w))] := hl
  generalize hH : s.heap = H at hP ⊢
  have hS : va_S A0 s.heap H [] := by rw [← hH]; exact va_S.rf
  refine lv_iconst (v := nI 0) hx hb dX9_mirror_0 (by decide) ?_
  refine lv_istore_n (lv' := [(2, .int (nI 0)), (0, .int x), (1, .int (nI w))]) hx hb dX9_mirror_1 rfl hl (by decide) rfl (fun ls hl => ?_)
  refine lv_iconst (v := nI 0) hx hb dX9_mirror_2 (by decide) ?_
  refine lv_istore_n (lv' := [(3, .int (nI 0)), (2, .int (nI 0)), (0, .int x), (1, .int (nI w))]) hx hb dX9_mirror_3 rfl hl (by decide) rfl (fun ls hl => ?_)
  have cut_4 : ∀ (nf : Nat) (n : Nat) (z2 : Int32), (w - n) < nf → (n ≤ w) → (z2 = mirF x n) → ∀ (H : Heap) (locs : List Loc) (ls : Array Slot), va_P (dC, dI) vwCl ([] : va_W) H → va_D A0 ([] : va_W) → va_S A0 s.heap H locs → lv_has ls 4 [(0, .int x), (1, .int (nI w)), (2, .int z2), (3, .int (nI n))] → W p l e (headSpec wsX9_mirror ({ frames := 0, cells := 0, slots := 0, locals := 0 })).room s m ([.int x, .int (nI w)] : List Value).toArray below meth c H locs 0 0 (MQ below (va_Qi (fun (r : Int32) (u : CS) => (r = mirF x w) ∧ u = (I, L, A, Q, G, J)) (xB (dC, dI) (tysA cs) A0 (fun _ : CS => ([] : va_W))) A0) ([.int x, .int (nI w)] : List Value).toArray s 0 0 A0) (F0 m 4 ls []) := by
    intro nf
    induction nf with
    | zero => intro n z2 hm; exact absurd hm (Nat.not_lt_zero _)
    | succ nf ih_4 =>
      intro n z2 hm_4 hn4 hz4 H locs ls hP hD hS hl
      refine lv_iload_n hx hb dX9_mirror_4 rfl (lv_at hl 3 rfl) ?_
      refine lv_iload_n hx hb dX9_mirror_5 rfl (lv_at hl 1 rfl) ?_
      refine xn_ge (tgt := 25) hx hb dX9_mirror_6 (by decide) (by omega) (by omega) (fun c_6_0 => ?_) (fun c_6_0 => ?_)
      · skip
        refine lv_iload_n hx hb dX9_mirror_25 rfl (lv_at hl 2 rfl) ?_
        exact xr_i (v := z2) hx hb hr hlocks hK hS dX9_mirror_26 (I, L, A, Q, G, J) ⟨(by rw [hz4, show n = w by omega]), rfl⟩ hP hD
      · skip
        refine lv_iload_n hx hb dX9_mirror_9 rfl (lv_at hl 2 rfl) ?_
        refine lv_iconst (v := nI 1) hx hb dX9_mirror_10 (by decide) ?_
        refine lv_ishl hx hb dX9_mirror_11 ?_
        refine lv_iload_n hx hb dX9_mirror_12 rfl (lv_at hl 0 rfl) ?_
        refine lv_iload_n hx hb dX9_mirror_13 rfl (lv_at hl 3 rfl) ?_
        refine lv_ishr hx hb dX9_mirror_14 ?_
        refine lv_iconst (v := nI 1) hx hb dX9_mirror_15 (by decide) ?_
        refine lv_iand hx hb dX9_mirror_16 ?_
        refine lv_ior hx hb dX9_mirror_17 ?_
        refine lv_istore_n (lv' := [(2, .int ((z2 <<< ((nI 1) &&& 31)) ||| ((x >>> ((nI n) &&& 31)) &&& (nI 1)))), (0, .int x), (1, .int (nI w)), (3, .int (nI n))]) hx hb dX9_mirror_18 rfl hl (by decide) rfl (fun ls hl => ?_)
        refine lv_iinc (v := nI (n + 1)) (lv' := [(3, .int (nI (n + 1))), (2, .int ((z2 <<< ((nI 1) &&& 31)) ||| ((x >>> ((nI n) &&& 31)) &&& (nI 1)))), (0, .int x), (1, .int (nI w))]) hx hb dX9_mirror_19 hl (k := 3) rfl (nI_1 _) (by decide) rfl (fun ls hl => ?_)
        refine lv_goto (tgt := 4) hx hb dX9_mirror_22 (by decide) ?_
        exact ih_4 (n + 1) ((z2 <<< ((nI 1) &&& 31)) ||| ((x >>> ((nI n) &&& 31)) &&& (nI 1))) (by omega) (by first | assumption | omega) (by first | rfl | (rw [hz4]; rfl)) _ _ _ hP hD hS (lv_sub hl [2, 3, 1, 0] rfl)
  exact cut_4 _ 0 (nI 0) (Nat.lt_succ_self _) (by first | assumption | omega) (by first | rfl | (rw [hz4]; rfl)) _ _ _ hP hD hS (lv_sub hl [2, 3, 1, 0] rfl)
