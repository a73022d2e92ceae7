
theorem in_t {v lo hi : Int64} (h1 : ¬ v < lo) (h2 : ¬ hi < v) : nI 1 = if lo ≤ v ∧ v ≤ hi then 1 else 0 := by
  rw [if_pos ⟨Int64.not_lt.mp h1, Int64.not_lt.mp h2⟩]; rfl
theorem in_f1 {v lo hi : Int64} (h1 : v < lo) : nI 0 = if lo ≤ v ∧ v ≤ hi then 1 else 0 := by
  rw [if_neg (fun h => Int64.not_lt.mpr h.1 h1)]; rfl
theorem in_f2 {v lo hi : Int64} (h1 : hi < v) : nI 0 = if lo ≤ v ∧ v ≤ hi then 1 else 0 := by
  rw [if_neg (fun h => Int64.not_lt.mpr h.2 h1)]; rfl
theorem in_Z {x r : Int32} {lo hi : Int64} {a b : Int} (ha : lo.toInt = a) (hb : hi.toInt = b) (h : r = if lo ≤ x.toInt64 ∧ x.toInt64 ≤ hi then 1 else 0) : (r = nI 1 ∧ a ≤ x.toInt ∧ x.toInt ≤ b) ∨ (r = nI 0 ∧ ¬ (a ≤ x.toInt ∧ x.toInt ≤ b)) := by
  have e : (lo ≤ x.toInt64 ∧ x.toInt64 ≤ hi) ↔ (a ≤ x.toInt ∧ x.toInt ≤ b) := by
    rw [Int64.le_iff_toInt_le, Int64.le_iff_toInt_le, Int32.toInt_toInt64, ha, hb]
  by_cases q : lo ≤ x.toInt64 ∧ x.toInt64 ≤ hi
  · rw [if_pos q] at h
    exact Or.inl ⟨h, e.mp q⟩
  · rw [if_neg q] at h
    exact Or.inr ⟨h, fun g => q (e.mpr g)⟩
theorem nI_at {x : Int32} (h : 0 ≤ x.toInt) : x = nI x.toInt.toNat ∧ x.toInt.toNat < 2147483648 := by
  have h2 := Int32.toInt_lt x
  have h3 : x.toInt.toNat < 2147483648 := by omega
  refine ⟨Int32.toInt_inj.mp ?_, h3⟩
  rw [nI_toInt h3]
  omega
theorem in_N {x r : Int32} {lo hi : Int64} {a b : Nat} (ha : lo.toInt = a) (hb : hi.toInt = b) (h : r = if lo ≤ x.toInt64 ∧ x.toInt64 ≤ hi then 1 else 0) : (r = nI 1 ∧ ∃ i : Nat, a ≤ i ∧ i ≤ b ∧ x = nI i) ∨ (r = nI 0 ∧ ∀ i : Nat, a ≤ i → i ≤ b → i < 2147483648 → x ≠ nI i) := by
  rcases in_Z ha hb h with ⟨h1, h2, h3⟩ | ⟨h1, h2⟩
  · obtain ⟨e, -⟩ := nI_at (x := x) (by omega)
    exact Or.inl ⟨h1, x.toInt.toNat, by omega, by omega, e⟩
  · refine Or.inr ⟨h1, fun i hi1 hi2 hi3 e => h2 ?_⟩
    rw [e, nI_toInt hi3]
    omega
def plc (M i j : Nat) : Nat := 5 * i + if j = M then 4 else j
theorem plc_lt {M i j : Nat} (hi : i < 5) (hj : j ≤ M) (hM : M ≤ 4) : plc M i j < 25 := by
  unfold plc
  split <;> omega
theorem nI_L {n : Nat} (h : n < 2147483648) : (nI n).toInt64.toInt = n := by rw [Int32.toInt_toInt64, nI_toInt h]
theorem bdX10_in_0 : (decode cX10_in 0 = .ok (.lload_n 0, 1)) ∧ (decode cX10_in 1 = .ok (.lload_n 2, 1)) ∧ (decode cX10_in 2 = .ok (.lcmp, 1)) ∧ (decode cX10_in 3 = .ok (.ifCond .lt 14, 3)) ∧ (decode cX10_in 6 = .ok (.lload_n 0, 1)) ∧ (decode cX10_in 7 = .ok (.lload 4, 2)) ∧ (decode cX10_in 9 = .ok (.lcmp, 1)) ∧ (decode cX10_in 10 = .ok (.ifCond .gt 7, 3)) ∧ (decode cX10_in 13 = .ok (.iconst 1, 1)) ∧ (decode cX10_in 14 = .ok (.goto 4, 3)) ∧ (decode cX10_in 17 = .ok (.iconst 0, 1)) ∧ (decode cX10_in 18 = .ok (.ireturn, 1)) := by decide +kernel
theorem dX10_in_0 : decode cX10_in 0 = .ok (.lload_n 0, 1) := bdX10_in_0.1
theorem dX10_in_1 : decode cX10_in 1 = .ok (.lload_n 2, 1) := bdX10_in_0.2.1
theorem dX10_in_2 : decode cX10_in 2 = .ok (.lcmp, 1) := bdX10_in_0.2.2.1
theorem dX10_in_3 : decode cX10_in 3 = .ok (.ifCond .lt 14, 3) := bdX10_in_0.2.2.2.1
theorem dX10_in_6 : decode cX10_in 6 = .ok (.lload_n 0, 1) := bdX10_in_0.2.2.2.2.1
theorem dX10_in_7 : decode cX10_in 7 = .ok (.lload 4, 2) := bdX10_in_0.2.2.2.2.2.1
theorem dX10_in_9 : decode cX10_in 9 = .ok (.lcmp, 1) := bdX10_in_0.2.2.2.2.2.2.1
theorem dX10_in_10 : decode cX10_in 10 = .ok (.ifCond .gt 7, 3) := bdX10_in_0.2.2.2.2.2.2.2.1
theorem dX10_in_13 : decode cX10_in 13 = .ok (.iconst 1, 1) := bdX10_in_0.2.2.2.2.2.2.2.2.1
theorem dX10_in_14 : decode cX10_in 14 = .ok (.goto 4, 3) := bdX10_in_0.2.2.2.2.2.2.2.2.2.1
theorem dX10_in_17 : decode cX10_in 17 = .ok (.iconst 0, 1) := bdX10_in_0.2.2.2.2.2.2.2.2.2.2.1
theorem dX10_in_18 : decode cX10_in 18 = .ok (.ireturn, 1) := bdX10_in_0.2.2.2.2.2.2.2.2.2.2.2
set_option maxHeartbeats 4000000 in
set_option maxRecDepth 100000 in
theorem k_X10_in (l : Launch) (dC : Nat → ClassId) (dI : Nat → Nat → Nat) (h : Nat → Nat) (cs : Nat → ClassId) (sz : Nat) (I : Nat → Int32) (L : Nat → Int64) (A : Nat → Nat → Int32) (Q : Nat → Nat → Int64) (v lo hi : Int64) : Met l yX10_in wsX10_in ({ frames := 0, cells := 0, slots := 0, locals := 0 }) (va_Pc [.long v, .long lo, .long hi] (xPre (dC, dI) ([] : va_W) (tysA cs) sz)) (va_Qi (fun (r : Int32) (u : RS) => (r = if lo ≤ v ∧ v ≤ hi then 1 else 0) ∧ u = (I, L, A, Q)) (xB (dC, dI) (tysA cs) (va_A ([] : va_W) sz) (fun _ : RS => ([] : va_W))) (va_A ([] : va_W) sz)) 0 0 (va_A ([] : va_W) sz) := by
  refine Met.ofW (cc := cX10_in) (maxL := 6) (ret := (some .boolean)) (by decide) rfl ?_
  intro p e s m args below meth c s₁ B hml hv
  obtain ⟨rfl, hsz, hP, hK, hD0, hN⟩ := hv
  have hx := B.exec
  have hb := B.bytes
  have hr := B.returns
  have hts := atoms_spec (ws := wsX10_in) B.pre
  have hown : s.vm.findClass RX10 = some m.cls := findClass_of_methodNamed B.named
  have hlocks := B.notSynchronized
  subst hsz
  have hD := hD0.self (sz := s.heap.size)
  generalize hAe : va_A ([] : va_W) s.heap.size = A0 at hD ⊢
  have hA : ∀ q : Nat, s.heap.size ≤ q → A0 q := fun q h => by rw [← hAe]; exact Or.inr h
  have hl := lv_entry ([.long v, .long lo, .long hi]) (n := 6) (Nat.le_of_ble_eq_true rfl)
  rw [lg_entry_eq]
  generalize (lg_sl ([.long v, .long lo, .long hi]) ++ List.replicate (6 - (lg_sl ([.long v, .long lo, .long hi])).length) Slot.unset).toArray = ls at hl ⊢
  have hl : lv_has ls 6 [(0, .long v), (2, .long lo), (4, .long hi)] := hl
  generalize hH : s.heap = H at hP ⊢
  have hS : va_S A0 s.heap H [] := by rw [← hH]; exact va_S.rf
  refine lv_lload_n hx hb dX10_in_0 rfl (lv_at hl 0 rfl) ?_
  refine lv_lload_n hx hb dX10_in_1 rfl (lv_at hl 1 rfl) ?_
  refine xl_lt (tgt := 17) hx hb dX10_in_2 dX10_in_3 (by decide) (fun c_2_0 => ?_) (fun c_2_0 => ?_)
  · skip
    refine lv_iconst (v := nI 0) hx hb dX10_in_17 (by decide) ?_
    exact xr_z (v := (nI 0)) hx hb hr hlocks hK hS dX10_in_18 (rfl) (I, L, A, Q) ⟨(by first | exact in_t (by assumption) (by assumption) | exact in_f1 (by assumption) | exact in_f2 (by assumption)), rfl⟩ hP hD
  · skip
    refine lv_lload_n hx hb dX10_in_6 rfl (lv_at hl 0 rfl) ?_
    refine lv_lload hx hb dX10_in_7 (lv_at hl 2 rfl) ?_
    refine xl_gt (tgt := 17) hx hb dX10_in_9 dX10_in_10 (by decide) (fun c_9_1 => ?_) (fun c_9_1 => ?_)
    · skip
      refine lv_iconst (v := nI 0) hx hb dX10_in_17 (by decide) ?_
      exact xr_z (v := (nI 0)) hx hb hr hlocks hK hS dX10_in_18 (rfl) (I, L, A, Q) ⟨(by first | exact in_t (by assumption) (by assumption) | exact in_f1 (by assumption) | exact in_f2 (by assumption)), rfl⟩ hP hD
    · skip
      refine lv_iconst (v := nI 1) hx hb dX10_in_13 (by decide) ?_
      refine lv_goto (tgt := 18) hx hb dX10_in_14 (by decide) ?_
      exact xr_z (v := (nI 1)) hx hb hr hlocks hK hS dX10_in_18 (rfl) (I, L, A, Q) ⟨(by first | exact in_t (by assumption) (by assumption) | exact in_f1 (by assumption) | exact in_f2 (by assumption)), rfl⟩ hP hD
theorem bdX10_forget_0 : (decode cX10_forget 0 = .ok (.aload_n 0, 1)) ∧ (decode cX10_forget 1 = .ok (.iconst 0, 1)) ∧ (decode cX10_forget 2 = .ok (.putfield 69, 3)) ∧ (decode cX10_forget 5 = .ok (.aload_n 0, 1)) ∧ (decode cX10_forget 6 = .ok (.iconst 0, 1)) ∧ (decode cX10_forget 7 = .ok (.putfield 72, 3)) ∧ (decode cX10_forget 10 = .ok (.return_, 1)) := by decide +kernel
theorem dX10_forget_0 : decode cX10_forget 0 = .ok (.aload_n 0, 1) := bdX10_forget_0.1
theorem dX10_forget_1 : decode cX10_forget 1 = .ok (.iconst 0, 1) := bdX10_forget_0.2.1
theorem dX10_forget_2 : decode cX10_forget 2 = .ok (.putfield 69, 3) := bdX10_forget_0.2.2.1
theorem dX10_forget_5 : decode cX10_forget 5 = .ok (.aload_n 0, 1) := bdX10_forget_0.2.2.2.1
theorem dX10_forget_6 : decode cX10_forget 6 = .ok (.iconst 0, 1) := bdX10_forget_0.2.2.2.2.1
theorem dX10_forget_7 : decode cX10_forget 7 = .ok (.putfield 72, 3) := bdX10_forget_0.2.2.2.2.2.1
theorem dX10_forget_10 : decode cX10_forget 10 = .ok (.return_, 1) := bdX10_forget_0.2.2.2.2.2.2
set_option maxHeartbeats 4000000 in
set_option maxRecDepth 100000 in
theorem k_X10_forget (l : Launch) (dC : Nat → ClassId) (dI : Nat → Nat → Nat) (h : Nat → Nat) (cs : Nat → ClassId) (sz : Nat) (I : Nat → Int32) (L : Nat → Int64) (A : Nat → Nat → Int32) (Q : Nat → Nat → Int64) : Met l yX10_forget wsX10_forget ({ frames := 0, cells := 0, slots := 0, locals := 0 }) (va_Pc [.ref (h 0)] (xPre (dC, dI) (rW h cs I L A Q) (tysA cs) sz)) (va_Qv (fun (u : RS) => ∃ x4 : Int32, ∃ x5 : Int32, (x4 = nI 0 ∧ x5 = nI 0) ∧ u = ((va_up (va_up I 4 x4) 5 x5), L, A, Q)) (xB (dC, dI) (tysA cs) (va_A (rW h cs I L A Q) sz) (fun u : RS => rW h cs u.1 u.2.1 u.2.2.1 u.2.2.2)) (va_A (rW h cs I L A Q) sz)) 0 0 (va_A (rW h cs I L A Q) sz) := by
  refine Met.ofW (cc := cX10_forget) (maxL := 1) (ret := none) (by decide) rfl ?_
  intro p e s m args below meth c s₁ B hml hv
  obtain ⟨rfl, hsz, hP, hK, hD0, hN⟩ := hv
  have hx := B.exec
  have hb := B.bytes
  have hr := B.returns
  have hts := atoms_spec (ws := wsX10_forget) B.pre
  have hown : s.vm.findClass RX10 = some m.cls := findClass_of_methodNamed B.named
  have hlocks := B.notSynchronized
  subst hsz
  have hD := hD0.self (sz := s.heap.size)
  generalize hAe : va_A (rW h cs I L A Q) s.heap.size = A0 at hD ⊢
  have hA : ∀ q : Nat, s.heap.size ≤ q → A0 q := fun q h => by rw [← hAe]; exact Or.inr h
  have hl := lv_entry ([.ref (h 0)]) (n := 1) (Nat.le_of_ble_eq_true rfl)
  rw [lg_entry_eq]
  generalize (lg_sl ([.ref (h 0)]) ++ List.replicate (1 - (lg_sl ([.ref (h 0)])).length) Slot.unset).toArray = ls at hl ⊢
  have hl : lv_has ls 1 [(0, .ref (h 0))] := hl
  generalize hH : s.heap = H at hP ⊢
  have hS : va_S A0 s.heap H [] := by rw [← hH]; exact va_S.rf
  have hinX10 : ∀ w ∈ wsX100, w ∈ wsX10_forget := by decide +kernel
  refine lv_aload_n hx hb dX10_forget_0 rfl (lv_at hl 0 rfl) ?_
  refine lv_iconst (v := nI 0) hx hb dX10_forget_1 (by decide) ?_
  refine va_put (D := (dC, dI)) (ci := 10) (v := .int (nI 0)) (ty := .int) (C := RX10) (T := TX10) (N := 28) hx hb hts hinX10 tyX10 tyX10_ok nmX10 hown hK hP hD hS 0 rfl rfl 4 (by decide) (hts (.fieldLink RX10 69 "MixedWordsModel" "done" "I") (by decide +kernel)) (fun _ h9 => h9) rfl (by decide +kernel) rfl rfl (Nat.le_of_ble_eq_true rfl) dX10_forget_2 (fun H locs hP hD hS => ?_)
  have hP : va_P (dC, dI) vwCl (rW h cs (va_up I 4 (nI 0)) L A Q) H := hP
  have hD : va_D A0 (rW h cs (va_up I 4 (nI 0)) L A Q) := hD
  refine lv_aload_n hx hb dX10_forget_5 rfl (lv_at hl 0 rfl) ?_
  refine lv_iconst (v := nI 0) hx hb dX10_forget_6 (by decide) ?_
  refine va_put (D := (dC, dI)) (ci := 10) (v := .int (nI 0)) (ty := .int) (C := RX10) (T := TX10) (N := 28) hx hb hts hinX10 tyX10 tyX10_ok nmX10 hown hK hP hD hS 0 rfl rfl 5 (by decide) (hts (.fieldLink RX10 72 "MixedWordsModel" "undone" "I") (by decide +kernel)) (fun _ h9 => h9) rfl (by decide +kernel) rfl rfl (Nat.le_of_ble_eq_true rfl) dX10_forget_7 (fun H locs hP hD hS => ?_)
  have hP : va_P (dC, dI) vwCl (rW h cs (va_up (va_up I 4 (nI 0)) 5 (nI 0)) L A Q) H := hP
  have hD : va_D A0 (rW h cs (va_up (va_up I 4 (nI 0)) 5 (nI 0)) L A Q) := hD
  exact xr_v hx hb hr hlocks hK hS dX10_forget_10 ((va_up (va_up I 4 (nI 0)) 5 (nI 0)), L, A, Q) ⟨(nI 0), (nI 0), ⟨rfl, rfl⟩, rfl⟩ hP hD
theorem bdX10_place_0 : (decode cX10_place 0 = .ok (.iconst 5, 1)) ∧ (decode cX10_place 1 = .ok (.iload_n 1, 1)) ∧ (decode cX10_place 2 = .ok (.imul, 1)) ∧ (decode cX10_place 3 = .ok (.iload_n 2, 1)) ∧ (decode cX10_place 4 = .ok (.aload_n 0, 1)) ∧ (decode cX10_place 5 = .ok (.getfield 13, 3)) ∧ (decode cX10_place 8 = .ok (.if_icmp .ne 7, 3)) ∧ (decode cX10_place 11 = .ok (.iconst 4, 1)) ∧ (decode cX10_place 12 = .ok (.goto 4, 3)) ∧ (decode cX10_place 15 = .ok (.iload_n 2, 1)) ∧ (decode cX10_place 16 = .ok (.iadd, 1)) ∧ (decode cX10_place 17 = .ok (.ireturn, 1)) := by decide +kernel
theorem dX10_place_0 : decode cX10_place 0 = .ok (.iconst 5, 1) := bdX10_place_0.1
theorem dX10_place_1 : decode cX10_place 1 = .ok (.iload_n 1, 1) := bdX10_place_0.2.1
theorem dX10_place_2 : decode cX10_place 2 = .ok (.imul, 1) := bdX10_place_0.2.2.1
theorem dX10_place_3 : decode cX10_place 3 = .ok (.iload_n 2, 1) := bdX10_place_0.2.2.2.1
theorem dX10_place_4 : decode cX10_place 4 = .ok (.aload_n 0, 1) := bdX10_place_0.2.2.2.2.1
theorem dX10_place_5 : decode cX10_place 5 = .ok (.getfield 13, 3) := bdX10_place_0.2.2.2.2.2.1
theorem dX10_place_8 : decode cX10_place 8 = .ok (.if_icmp .ne 7, 3) := bdX10_place_0.2.2.2.2.2.2.1
theorem dX10_place_11 : decode cX10_place 11 = .ok (.iconst 4, 1) := bdX10_place_0.2.2.2.2.2.2.2.1
theorem dX10_place_12 : decode cX10_place 12 = .ok (.goto 4, 3) := bdX10_place_0.2.2.2.2.2.2.2.2.1
theorem dX10_place_15 : decode cX10_place 15 = .ok (.iload_n 2, 1) := bdX10_place_0.2.2.2.2.2.2.2.2.2.1
theorem dX10_place_16 : decode cX10_place 16 = .ok (.iadd, 1) := bdX10_place_0.2.2.2.2.2.2.2.2.2.2.1
theorem dX10_place_17 : decode cX10_place 17 = .ok (.ireturn, 1) := bdX10_place_0.2.2.2.2.2.2.2.2.2.2.2
set_option maxHeartbeats 4000000 in
set_option maxRecDepth 100000 in
theorem k_X10_place (l : Launch) (dC : Nat → ClassId) (dI : Nat → Nat → Nat) (h : Nat → Nat) (cs : Nat → ClassId) (sz : Nat) (I : Nat → Int32) (L : Nat → Int64) (A : Nat → Nat → Int32) (Q : Nat → Nat → Int64) (i j M : Nat) (hi : i < 5) (hj : j ≤ M) (hM : I 1 = nI M) (hM1 : 1 ≤ M) (hM4 : M ≤ 4) : Met l yX10_place wsX10_place ({ frames := 0, cells := 0, slots := 0, locals := 0 }) (va_Pc [.ref (h 0), .int (nI i), .int (nI j)] (xPre (dC, dI) (rW h cs I L A Q) (tysA cs) sz)) (va_Qi (fun (r : Int32) (u : RS) => (r = nI (plc M i j)) ∧ u = (I, L, A, Q)) (xB (dC, dI) (tysA cs) (va_A (rW h cs I L A Q) sz) (fun u : RS => rW h cs u.1 u.2.1 u.2.2.1 u.2.2.2)) (va_A (rW h cs I L A Q) sz)) 0 0 (va_A (rW h cs I L A Q) sz) := by
  refine Met.ofW (cc := cX10_place) (maxL := 3) (ret := (some .int)) (by decide) rfl ?_
  intro p e s m args below meth c s₁ B hml hv
  obtain ⟨rfl, hsz, hP, hK, hD0, hN⟩ := hv
  have hx := B.exec
  have hb := B.bytes
  have hr := B.returns
  have hts := atoms_spec (ws := wsX10_place) B.pre
  have hown : s.vm.findClass RX10 = some m.cls := findClass_of_methodNamed B.named
  have hlocks := B.notSynchronized
  subst hsz
  have hD := hD0.self (sz := s.heap.size)
  generalize hAe : va_A (rW h cs I L A Q) s.heap.size = A0 at hD ⊢
  have hA : ∀ q : Nat, s.heap.size ≤ q → A0 q := fun q h => by rw [← hAe]; exact Or.inr h
  have hl := lv_entry ([.ref (h 0), .int (nI i), .int (nI j)]) (n := 3) (Nat.le_of_ble_eq_true rfl)
  rw [lg_entry_eq]
  generalize (lg_sl ([.ref (h 0), .int (nI i), .int (nI j)]) ++ List.replicate (3 - (lg_sl ([.ref (h 0), .int (nI i), .int (nI j)])).length) Slot.unset).toArray = ls at hl ⊢
  have hl : lv_has ls 3 [(0, .ref (h 0)), (1, .int (nI i)), (2, .int (nI j))] := hl
  generalize hH : s.heap = H at hP ⊢
  have hS : va_S A0 s.heap H [] := by rw [← hH]; exact va_S.rf
  have hinX10 : ∀ w ∈ wsX100, w ∈ wsX10_place := by decide +kernel
  refine lv_iconst (v := nI 5) hx hb dX10_place_0 (by decide) ?_
  refine lv_iload_n hx hb dX10_place_1 rfl (lv_at hl 1 rfl) ?_
  refine lv_imul hx hb dX10_place_2 ?_
  refine xt_i (y := nI (5 * i)) (pk_mul _ _) ?_
  refine lv_iload_n hx hb dX10_place_3 rfl (lv_at hl 2 rfl) ?_
  refine lv_aload_n hx hb dX10_place_4 rfl (lv_at hl 0 rfl) ?_
  refine va_get (D := (dC, dI)) (ci := 10) (v := .int (I 1)) (C := RX10) (T := TX10) (N := 28) hx hb hts hinX10 hown hK hP 0 rfl rfl 1 (by decide) (hts (.fieldLink RX10 13 "MixedWordsModel" "columns" "I") (by decide +kernel)) (fun _ h9 => h9) rfl dX10_place_5 ?_
  refine xt_i (y := nI M) (hM) ?_
  refine xn_ne (tgt := 15) hx hb dX10_place_8 (by decide) (by omega) (by omega) (fun c_8_0 => ?_) (fun c_8_0 => ?_)
  · skip
    refine lv_iload_n hx hb dX10_place_15 rfl (lv_at hl 2 rfl) ?_
    refine lv_iadd hx hb dX10_place_16 ?_
    refine xt_i (y := nI ((5 * i) + j)) (nI_add _ _) ?_
    exact xr_i (v := (nI ((5 * i) + j))) hx hb hr hlocks hK hS dX10_place_17 (I, L, A, Q) ⟨(by unfold plc; first | (rw [if_pos (by assumption)]) | (rw [if_neg (by assumption)])), rfl⟩ hP hD
  · skip
    refine lv_iconst (v := nI 4) hx hb dX10_place_11 (by decide) ?_
    refine lv_goto (tgt := 16) hx hb dX10_place_12 (by decide) ?_
    refine lv_iadd hx hb dX10_place_16 ?_
    refine xt_i (y := nI ((5 * i) + 4)) (nI_add _ _) ?_
    exact xr_i (v := (nI ((5 * i) + 4))) hx hb hr hlocks hK hS dX10_place_17 (I, L, A, Q) ⟨(by unfold plc; first | (rw [if_pos (by assumption)]) | (rw [if_neg (by assumption)])), rfl⟩ hP hD
set_option maxRecDepth 20000 in
theorem ggX10_isRow_X10_in : GoodIn wsX10_isRow wsX10_in := goodIn_r _ [5] rfl (by decide +kernel)
set_option maxRecDepth 20000 in
theorem gX10_isRow_X10_in : GoodIn wsX10_isRow (va_wsS RX10 77 yX10_in wsX10_in) := goodIn_app (goodIn_of _ (by decide +kernel)) ggX10_isRow_X10_in
theorem bdX10_isRow_0 : (decode cX10_isRow 0 = .ok (.iload_n 1, 1)) ∧ (decode cX10_isRow 1 = .ok (.i2l, 1)) ∧ (decode cX10_isRow 2 = .ok (.lconst 0, 1)) ∧ (decode cX10_isRow 3 = .ok (.aload_n 0, 1)) ∧ (decode cX10_isRow 4 = .ok (.getfield 7, 3)) ∧ (decode cX10_isRow 7 = .ok (.iconst 1, 1)) ∧ (decode cX10_isRow 8 = .ok (.isub, 1)) ∧ (decode cX10_isRow 9 = .ok (.i2l, 1)) ∧ (decode cX10_isRow 10 = .ok (.invokestatic 77, 3)) ∧ (decode cX10_isRow 13 = .ok (.ireturn, 1)) := by decide +kernel
theorem dX10_isRow_0 : decode cX10_isRow 0 = .ok (.iload_n 1, 1) := bdX10_isRow_0.1
theorem dX10_isRow_1 : decode cX10_isRow 1 = .ok (.i2l, 1) := bdX10_isRow_0.2.1
theorem dX10_isRow_2 : decode cX10_isRow 2 = .ok (.lconst 0, 1) := bdX10_isRow_0.2.2.1
theorem dX10_isRow_3 : decode cX10_isRow 3 = .ok (.aload_n 0, 1) := bdX10_isRow_0.2.2.2.1
theorem dX10_isRow_4 : decode cX10_isRow 4 = .ok (.getfield 7, 3) := bdX10_isRow_0.2.2.2.2.1
theorem dX10_isRow_7 : decode cX10_isRow 7 = .ok (.iconst 1, 1) := bdX10_isRow_0.2.2.2.2.2.1
theorem dX10_isRow_8 : decode cX10_isRow 8 = .ok (.isub, 1) := bdX10_isRow_0.2.2.2.2.2.2.1
theorem dX10_isRow_9 : decode cX10_isRow 9 = .ok (.i2l, 1) := bdX10_isRow_0.2.2.2.2.2.2.2.1
theorem dX10_isRow_10 : decode cX10_isRow 10 = .ok (.invokestatic 77, 3) := bdX10_isRow_0.2.2.2.2.2.2.2.2.1
theorem dX10_isRow_13 : decode cX10_isRow 13 = .ok (.ireturn, 1) := bdX10_isRow_0.2.2.2.2.2.2.2.2.2
set_option maxHeartbeats 4000000 in
set_option maxRecDepth 100000 in
theorem k_X10_isRow (l : Launch) (dC : Nat → ClassId) (dI : Nat → Nat → Nat) (h : Nat → Nat) (cs : Nat → ClassId) (sz : Nat) (I : Nat → Int32) (L : Nat → Int64) (A : Nat → Nat → Int32) (Q : Nat → Nat → Int64) (x : Int32) (R : Nat) (hR : I 0 = nI R) (hR1 : 1 ≤ R) (hR5 : R ≤ 5) : Met l yX10_isRow wsX10_isRow ({ frames := 1, cells := 0, slots := 0, locals := 25 }) (va_Pc [.ref (h 0), .int x] (xPre (dC, dI) (rW h cs I L A Q) (tysA cs) sz)) (va_Qi (fun (r : Int32) (u : RS) => ((r = nI 1 ∧ ∃ i : Nat, i < R ∧ x = nI i) ∨ (r = nI 0 ∧ ∀ i : Nat, i < R → x ≠ nI i)) ∧ u = (I, L, A, Q)) (xB (dC, dI) (tysA cs) (va_A (rW h cs I L A Q) sz) (fun u : RS => rW h cs u.1 u.2.1 u.2.2.1 u.2.2.2)) (va_A (rW h cs I L A Q) sz)) 0 0 (va_A (rW h cs I L A Q) sz) := by
  refine Met.ofW (cc := cX10_isRow) (maxL := 2) (ret := (some .boolean)) (by decide) rfl ?_
  intro p e s m args below meth c s₁ B hml hv
  obtain ⟨rfl, hsz, hP, hK, hD0, hN⟩ := hv
  have hx := B.exec
  have hb := B.bytes
  have hr := B.returns
  have hts := atoms_spec (ws := wsX10_isRow) B.pre
  have hown : s.vm.findClass RX10 = some m.cls := findClass_of_methodNamed B.named
  have hlocks := B.notSynchronized
  subst hsz
  have hD := hD0.self (sz := s.heap.size)
  generalize hAe : va_A (rW h cs I L A Q) s.heap.size = A0 at hD ⊢
  have hA : ∀ q : Nat, s.heap.size ≤ q → A0 q := fun q h => by rw [← hAe]; exact Or.inr h
  have hl := lv_entry ([.ref (h 0), .int x]) (n := 2) (Nat.le_of_ble_eq_true rfl)
  rw [lg_entry_eq]
  generalize (lg_sl ([.ref (h 0), .int x]) ++ List.replicate (2 - (lg_sl ([.ref (h 0), .int x])).length) Slot.unset).toArray = ls at hl ⊢
  have hl : lv_has ls 2 [(0, .ref (h 0)), (1, .int x)] := hl
  generalize hH : s.heap = H at hP ⊢
  have hS : va_S A0 s.heap H [] := by rw [← hH]; exact va_S.rf
  have hinX10 : ∀ w ∈ wsX100, w ∈ wsX10_isRow := by decide +kernel
  refine lv_iload_n hx hb dX10_isRow_0 rfl (lv_at hl 1 rfl) ?_
  refine lv_i2l (v := x.toInt64) hx hb dX10_isRow_1 rfl ?_
  refine lv_lconst (v := 0) hx hb dX10_isRow_2 rfl ?_
  refine lv_aload_n hx hb dX10_isRow_3 rfl (lv_at hl 0 rfl) ?_
  refine va_get (D := (dC, dI)) (ci := 10) (v := .int (I 0)) (C := RX10) (T := TX10) (N := 28) hx hb hts hinX10 hown hK hP 0 rfl rfl 0 (by decide) (hts (.fieldLink RX10 7 "MixedWordsModel" "rows" "I") (by decide +kernel)) (fun _ h9 => h9) rfl dX10_isRow_4 ?_
  refine xt_i (y := nI R) (hR) ?_
  refine lv_iconst (v := nI 1) hx hb dX10_isRow_7 (by decide) ?_
  refine lv_isub hx hb dX10_isRow_8 ?_
  refine xt_i (y := nI (R - 1)) (pk_sub (by omega)) ?_
  refine lv_i2l (v := (nI (R - 1)).toInt64) hx hb dX10_isRow_9 rfl ?_
  refine xj_i (wc := ([] : va_W)) (wr := (rW h cs I L A Q)) hP hD hS hA [] [0, 1, 2, 3, 4, 5, 6, 7, 8, 9, 10, 11, 12, 13, 14, 15, 16] rfl rfl (by decide +kernel) (by decide +kernel) (va_runS (As := [.long x.toInt64, .long (0 : Int64), .long ((nI (R - 1)).toInt64)]) (rest := []) ⟨hx, hb, hml, hown, hts⟩ (k_X10_in l dC dI h cs H.size I L A Q x.toInt64 (0 : Int64) ((nI (R - 1)).toInt64)) (va_cwS 3 hts gX10_isRow_X10_in rfl rfl rfl (by decide +kernel) ⟨Nat.le_of_ble_eq_true rfl, Nat.le_of_ble_eq_true rfl⟩) (xpS (wc := ([] : va_W)) hP hD hK hN [] rfl (by decide) _) rfl rfl hl.1 rfl (lv_room (Nat.le_of_ble_eq_true rfl)) dX10_isRow_10 ⟨Nat.zero_le _, Nat.zero_le _⟩) (fun r_2 u_1 H locs hw hP hD hS => ?_)
  obtain ⟨hf_3, rfl⟩ := hw
  have hP : va_P (dC, dI) vwCl (rW h cs I L A Q) H := hP
  have hD : va_D A0 (rW h cs I L A Q) := hD
  have hq : (r_2 = nI 1 ∧ ∃ i : Nat, i < R ∧ x = nI i) ∨ (r_2 = nI 0 ∧ ∀ i : Nat, i < R → x ≠ nI i) := by
    rcases in_N (a := 0) (b := R - 1) rfl (nI_L (by omega)) hf_3 with ⟨h1, i, h2, h3, h4⟩ | ⟨h1, h2⟩
    · exact Or.inl ⟨h1, i, by omega, h4⟩
    · exact Or.inr ⟨h1, fun i hi => h2 i (by omega) (by omega) (by omega)⟩
  exact xr_z (v := r_2) hx hb hr hlocks hK hS dX10_isRow_13 (by rcases hq with ⟨e, -⟩ | ⟨e, -⟩ <;> (rw [e]; rfl)) (I, L, A, Q) ⟨hq, rfl⟩ hP hD
set_option maxRecDepth 20000 in
theorem ggX10_isColumn_X10_in : GoodIn wsX10_isColumn wsX10_in := goodIn_r _ [5] rfl (by decide +kernel)
set_option maxRecDepth 20000 in
theorem gX10_isColumn_X10_in : GoodIn wsX10_isColumn (va_wsS RX10 77 yX10_in wsX10_in) := goodIn_app (goodIn_of _ (by decide +kernel)) ggX10_isColumn_X10_in
theorem bdX10_isColumn_0 : (decode cX10_isColumn 0 = .ok (.iload_n 1, 1)) ∧ (decode cX10_isColumn 1 = .ok (.i2l, 1)) ∧ (decode cX10_isColumn 2 = .ok (.lconst 0, 1)) ∧ (decode cX10_isColumn 3 = .ok (.aload_n 0, 1)) ∧ (decode cX10_isColumn 4 = .ok (.getfield 13, 3)) ∧ (decode cX10_isColumn 7 = .ok (.iconst 1, 1)) ∧ (decode cX10_isColumn 8 = .ok (.isub, 1)) ∧ (decode cX10_isColumn 9 = .ok (.i2l, 1)) ∧ (decode cX10_isColumn 10 = .ok (.invokestatic 77, 3)) ∧ (decode cX10_isColumn 13 = .ok (.ireturn, 1)) := by decide +kernel
theorem dX10_isColumn_0 : decode cX10_isColumn 0 = .ok (.iload_n 1, 1) := bdX10_isColumn_0.1
theorem dX10_isColumn_1 : decode cX10_isColumn 1 = .ok (.i2l, 1) := bdX10_isColumn_0.2.1
theorem dX10_isColumn_2 : decode cX10_isColumn 2 = .ok (.lconst 0, 1) := bdX10_isColumn_0.2.2.1
theorem dX10_isColumn_3 : decode cX10_isColumn 3 = .ok (.aload_n 0, 1) := bdX10_isColumn_0.2.2.2.1
theorem dX10_isColumn_4 : decode cX10_isColumn 4 = .ok (.getfield 13, 3) := bdX10_isColumn_0.2.2.2.2.1
theorem dX10_isColumn_7 : decode cX10_isColumn 7 = .ok (.iconst 1, 1) := bdX10_isColumn_0.2.2.2.2.2.1
theorem dX10_isColumn_8 : decode cX10_isColumn 8 = .ok (.isub, 1) := bdX10_isColumn_0.2.2.2.2.2.2.1
theorem dX10_isColumn_9 : decode cX10_isColumn 9 = .ok (.i2l, 1) := bdX10_isColumn_0.2.2.2.2.2.2.2.1
theorem dX10_isColumn_10 : decode cX10_isColumn 10 = .ok (.invokestatic 77, 3) := bdX10_isColumn_0.2.2.2.2.2.2.2.2.1
theorem dX10_isColumn_13 : decode cX10_isColumn 13 = .ok (.ireturn, 1) := bdX10_isColumn_0.2.2.2.2.2.2.2.2.2
set_option maxHeartbeats 4000000 in
set_option maxRecDepth 100000 in
theorem k_X10_isColumn (l : Launch) (dC : Nat → ClassId) (dI : Nat → Nat → Nat) (h : Nat → Nat) (cs : Nat → ClassId) (sz : Nat) (I : Nat → Int32) (L : Nat → Int64) (A : Nat → Nat → Int32) (Q : Nat → Nat → Int64) (x : Int32) (M : Nat) (hM : I 1 = nI M) (hM1 : 1 ≤ M) (hM4 : M ≤ 4) : Met l yX10_isColumn wsX10_isColumn ({ frames := 1, cells := 0, slots := 0, locals := 25 }) (va_Pc [.ref (h 0), .int x] (xPre (dC, dI) (rW h cs I L A Q) (tysA cs) sz)) (va_Qi (fun (r : Int32) (u : RS) => ((r = nI 1 ∧ ∃ i : Nat, i < M ∧ x = nI i) ∨ (r = nI 0 ∧ ∀ i : Nat, i < M → x ≠ nI i)) ∧ u = (I, L, A, Q)) (xB (dC, dI) (tysA cs) (va_A (rW h cs I L A Q) sz) (fun u : RS => rW h cs u.1 u.2.1 u.2.2.1 u.2.2.2)) (va_A (rW h cs I L A Q) sz)) 0 0 (va_A (rW h cs I L A Q) sz) := by
  refine Met.ofW (cc := cX10_isColumn) (maxL := 2) (ret := (some .boolean)) (by decide) rfl ?_
  intro p e s m args below meth c s₁ B hml hv
  obtain ⟨rfl, hsz, hP, hK, hD0, hN⟩ := hv
  have hx := B.exec
  have hb := B.bytes
  have hr := B.returns
  have hts := atoms_spec (ws := wsX10_isColumn) B.pre
  have hown : s.vm.findClass RX10 = some m.cls := findClass_of_methodNamed B.named
  have hlocks := B.notSynchronized
  subst hsz
  have hD := hD0.self (sz := s.heap.size)
  generalize hAe : va_A (rW h cs I L A Q) s.heap.size = A0 at hD ⊢
  have hA : ∀ q : Nat, s.heap.size ≤ q → A0 q := fun q h => by rw [← hAe]; exact Or.inr h
  have hl := lv_entry ([.ref (h 0), .int x]) (n := 2) (Nat.le_of_ble_eq_true rfl)
  rw [lg_entry_eq]
  generalize (lg_sl ([.ref (h 0), .int x]) ++ List.replicate (2 - (lg_sl ([.ref (h 0), .int x])).length) Slot.unset).toArray = ls at hl ⊢
  have hl : lv_has ls 2 [(0, .ref (h 0)), (1, .int x)] := hl
  generalize hH : s.heap = H at hP ⊢
  have hS : va_S A0 s.heap H [] := by rw [← hH]; exact va_S.rf
  have hinX10 : ∀ w ∈ wsX100, w ∈ wsX10_isColumn := by decide +kernel
  refine lv_iload_n hx hb dX10_isColumn_0 rfl (lv_at hl 1 rfl) ?_
  refine lv_i2l (v := x.toInt64) hx hb dX10_isColumn_1 rfl ?_
  refine lv_lconst (v := 0) hx hb dX10_isColumn_2 rfl ?_
  refine lv_aload_n hx hb dX10_isColumn_3 rfl (lv_at hl 0 rfl) ?_
  refine va_get (D := (dC, dI)) (ci := 10) (v := .int (I 1)) (C := RX10) (T := TX10) (N := 28) hx hb hts hinX10 hown hK hP 0 rfl rfl 1 (by decide) (hts (.fieldLink RX10 13 "MixedWordsModel" "columns" "I") (by decide +kernel)) (fun _ h9 => h9) rfl dX10_isColumn_4 ?_
  refine xt_i (y := nI M) (hM) ?_
  refine lv_iconst (v := nI 1) hx hb dX10_isColumn_7 (by decide) ?_
  refine lv_isub hx hb dX10_isColumn_8 ?_
  refine xt_i (y := nI (M - 1)) (pk_sub (by omega)) ?_
  refine lv_i2l (v := (nI (M - 1)).toInt64) hx hb dX10_isColumn_9 rfl ?_
  refine xj_i (wc := ([] : va_W)) (wr := (rW h cs I L A Q)) hP hD hS hA [] [0, 1, 2, 3, 4, 5, 6, 7, 8, 9, 10, 11, 12, 13, 14, 15, 16] rfl rfl (by decide +kernel) (by decide +kernel) (va_runS (As := [.long x.toInt64, .long (0 : Int64), .long ((nI (M - 1)).toInt64)]) (rest := []) ⟨hx, hb, hml, hown, hts⟩ (k_X10_in l dC dI h cs H.size I L A Q x.toInt64 (0 : Int64) ((nI (M - 1)).toInt64)) (va_cwS 3 hts gX10_isColumn_X10_in rfl rfl rfl (by decide +kernel) ⟨Nat.le_of_ble_eq_true rfl, Nat.le_of_ble_eq_true rfl⟩) (xpS (wc := ([] : va_W)) hP hD hK hN [] rfl (by decide) _) rfl rfl hl.1 rfl (lv_room (Nat.le_of_ble_eq_true rfl)) dX10_isColumn_10 ⟨Nat.zero_le _, Nat.zero_le _⟩) (fun r_2 u_1 H locs hw hP hD hS => ?_)
  obtain ⟨hf_3, rfl⟩ := hw
  have hP : va_P (dC, dI) vwCl (rW h cs I L A Q) H := hP
  have hD : va_D A0 (rW h cs I L A Q) := hD
  have hq : (r_2 = nI 1 ∧ ∃ i : Nat, i < M ∧ x = nI i) ∨ (r_2 = nI 0 ∧ ∀ i : Nat, i < M → x ≠ nI i) := by
    rcases in_N (a := 0) (b := M - 1) rfl (nI_L (by omega)) hf_3 with ⟨h1, i, h2, h3, h4⟩ | ⟨h1, h2⟩
    · exact Or.inl ⟨h1, i, by omega, h4⟩
    · exact Or.inr ⟨h1, fun i hi => h2 i (by omega) (by omega) (by omega)⟩
  exact xr_z (v := r_2) hx hb hr hlocks hK hS dX10_isColumn_13 (by rcases hq with ⟨e, -⟩ | ⟨e, -⟩ <;> (rw [e]; rfl)) (I, L, A, Q) ⟨hq, rfl⟩ hP hD
set_option maxRecDepth 20000 in
theorem ggX10_table_X10_in : GoodIn wsX10_table wsX10_in := goodIn_r _ [9] rfl (by decide +kernel)
set_option maxRecDepth 20000 in
theorem gX10_table_X10_in : GoodIn wsX10_table (va_wsS RX10 77 yX10_in wsX10_in) := goodIn_app (goodIn_of _ (by decide +kernel)) ggX10_table_X10_in
set_option maxRecDepth 20000 in
theorem ggX10_table_X10_forget : GoodIn wsX10_table wsX10_forget := goodIn_r _ [13, 14, 15, 16, 17, 18, 19, 20, 21, 22, 23, 24, 25, 26, 27, 28, 29, 30, 31, 32, 33, 34, 35, 36, 37, 38, 39, 40, 41, 42, 43] rfl (by decide +kernel)
set_option maxRecDepth 20000 in
theorem gX10_table_X10_forget : GoodIn wsX10_table (wsV RX10 83 RX10 yX10_forget wsX10_forget) := goodIn_app (goodIn_of _ (by decide +kernel)) ggX10_table_X10_forget
theorem bdX10_table_0 : (decode cX10_table 0 = .ok (.iload_n 1, 1)) ∧ (decode cX10_table 1 = .ok (.i2l, 1)) ∧ (decode cX10_table 2 = .ok (.lconst 1, 1)) ∧ (decode cX10_table 3 = .ok (.ldc2_w 75, 3)) ∧ (decode cX10_table 6 = .ok (.invokestatic 77, 3)) ∧ (decode cX10_table 9 = .ok (.ifCond .eq 15, 3)) ∧ (decode cX10_table 12 = .ok (.iload_n 2, 1)) ∧ (decode cX10_table 13 = .ok (.i2l, 1)) ∧ (decode cX10_table 14 = .ok (.lconst 1, 1)) ∧ (decode cX10_table 15 = .ok (.ldc2_w 81, 3)) ∧ (decode cX10_table 18 = .ok (.invokestatic 77, 3)) ∧ (decode cX10_table 21 = .ok (.ifCond .ne 5, 3)) ∧ (decode cX10_table 24 = .ok (.iconst (-1), 1)) ∧ (decode cX10_table 25 = .ok (.ireturn, 1)) ∧ (decode cX10_table 26 = .ok (.aload_n 0, 1)) ∧ (decode cX10_table 27 = .ok (.iload_n 1, 1)) := by decide +kernel
theorem dX10_table_0 : decode cX10_table 0 = .ok (.iload_n 1, 1) := bdX10_table_0.1
theorem dX10_table_1 : decode cX10_table 1 = .ok (.i2l, 1) := bdX10_table_0.2.1
theorem dX10_table_2 : decode cX10_table 2 = .ok (.lconst 1, 1) := bdX10_table_0.2.2.1
theorem dX10_table_3 : decode cX10_table 3 = .ok (.ldc2_w 75, 3) := bdX10_table_0.2.2.2.1
theorem dX10_table_6 : decode cX10_table 6 = .ok (.invokestatic 77, 3) := bdX10_table_0.2.2.2.2.1
theorem dX10_table_9 : decode cX10_table 9 = .ok (.ifCond .eq 15, 3) := bdX10_table_0.2.2.2.2.2.1
theorem dX10_table_12 : decode cX10_table 12 = .ok (.iload_n 2, 1) := bdX10_table_0.2.2.2.2.2.2.1
theorem dX10_table_13 : decode cX10_table 13 = .ok (.i2l, 1) := bdX10_table_0.2.2.2.2.2.2.2.1
theorem dX10_table_14 : decode cX10_table 14 = .ok (.lconst 1, 1) := bdX10_table_0.2.2.2.2.2.2.2.2.1
theorem dX10_table_15 : decode cX10_table 15 = .ok (.ldc2_w 81, 3) := bdX10_table_0.2.2.2.2.2.2.2.2.2.1
theorem dX10_table_18 : decode cX10_table 18 = .ok (.invokestatic 77, 3) := bdX10_table_0.2.2.2.2.2.2.2.2.2.2.1
theorem dX10_table_21 : decode cX10_table 21 = .ok (.ifCond .ne 5, 3) := bdX10_table_0.2.2.2.2.2.2.2.2.2.2.2.1
theorem dX10_table_24 : decode cX10_table 24 = .ok (.iconst (-1), 1) := bdX10_table_0.2.2.2.2.2.2.2.2.2.2.2.2.1
theorem dX10_table_25 : decode cX10_table 25 = .ok (.ireturn, 1) := bdX10_table_0.2.2.2.2.2.2.2.2.2.2.2.2.2.1
theorem dX10_table_26 : decode cX10_table 26 = .ok (.aload_n 0, 1) := bdX10_table_0.2.2.2.2.2.2.2.2.2.2.2.2.2.2.1
theorem dX10_table_27 : decode cX10_table 27 = .ok (.iload_n 1, 1) := bdX10_table_0.2.2.2.2.2.2.2.2.2.2.2.2.2.2.2
theorem bdX10_table_28 : (decode cX10_table 28 = .ok (.putfield 7, 3)) ∧ (decode cX10_table 31 = .ok (.aload_n 0, 1)) ∧ (decode cX10_table 32 = .ok (.iload_n 2, 1)) ∧ (decode cX10_table 33 = .ok (.putfield 13, 3)) ∧ (decode cX10_table 36 = .ok (.iconst 0, 1)) ∧ (decode cX10_table 37 = .ok (.istore_n 3, 1)) ∧ (decode cX10_table 38 = .ok (.iload_n 3, 1)) ∧ (decode cX10_table 39 = .ok (.bipush 25, 2)) ∧ (decode cX10_table 41 = .ok (.if_icmp .ge 16, 3)) ∧ (decode cX10_table 44 = .ok (.aload_n 0, 1)) ∧ (decode cX10_table 45 = .ok (.getfield 19, 3)) ∧ (decode cX10_table 48 = .ok (.iload_n 3, 1)) ∧ (decode cX10_table 49 = .ok (.iconst 0, 1)) ∧ (decode cX10_table 50 = .ok (.iastore, 1)) ∧ (decode cX10_table 51 = .ok (.iinc 3 1, 3)) ∧ (decode cX10_table 54 = .ok (.goto (-16), 3)) := by decide +kernel
theorem dX10_table_28 : decode cX10_table 28 = .ok (.putfield 7, 3) := bdX10_table_28.1
theorem dX10_table_31 : decode cX10_table 31 = .ok (.aload_n 0, 1) := bdX10_table_28.2.1
theorem dX10_table_32 : decode cX10_table 32 = .ok (.iload_n 2, 1) := bdX10_table_28.2.2.1
theorem dX10_table_33 : decode cX10_table 33 = .ok (.putfield 13, 3) := bdX10_table_28.2.2.2.1
theorem dX10_table_36 : decode cX10_table 36 = .ok (.iconst 0, 1) := bdX10_table_28.2.2.2.2.1
theorem dX10_table_37 : decode cX10_table 37 = .ok (.istore_n 3, 1) := bdX10_table_28.2.2.2.2.2.1
theorem dX10_table_38 : decode cX10_table 38 = .ok (.iload_n 3, 1) := bdX10_table_28.2.2.2.2.2.2.1
theorem dX10_table_39 : decode cX10_table 39 = .ok (.bipush 25, 2) := bdX10_table_28.2.2.2.2.2.2.2.1
theorem dX10_table_41 : decode cX10_table 41 = .ok (.if_icmp .ge 16, 3) := bdX10_table_28.2.2.2.2.2.2.2.2.1
theorem dX10_table_44 : decode cX10_table 44 = .ok (.aload_n 0, 1) := bdX10_table_28.2.2.2.2.2.2.2.2.2.1
theorem dX10_table_45 : decode cX10_table 45 = .ok (.getfield 19, 3) := bdX10_table_28.2.2.2.2.2.2.2.2.2.2.1
theorem dX10_table_48 : decode cX10_table 48 = .ok (.iload_n 3, 1) := bdX10_table_28.2.2.2.2.2.2.2.2.2.2.2.1
theorem dX10_table_49 : decode cX10_table 49 = .ok (.iconst 0, 1) := bdX10_table_28.2.2.2.2.2.2.2.2.2.2.2.2.1
theorem dX10_table_50 : decode cX10_table 50 = .ok (.iastore, 1) := bdX10_table_28.2.2.2.2.2.2.2.2.2.2.2.2.2.1
theorem dX10_table_51 : decode cX10_table 51 = .ok (.iinc 3 1, 3) := bdX10_table_28.2.2.2.2.2.2.2.2.2.2.2.2.2.2.1
theorem dX10_table_54 : decode cX10_table 54 = .ok (.goto (-16), 3) := bdX10_table_28.2.2.2.2.2.2.2.2.2.2.2.2.2.2.2
theorem bdX10_table_57 : (decode cX10_table 57 = .ok (.aload_n 0, 1)) ∧ (decode cX10_table 58 = .ok (.invokevirtual 83, 3)) ∧ (decode cX10_table 61 = .ok (.iconst 1, 1)) ∧ (decode cX10_table 62 = .ok (.ireturn, 1)) := by decide +kernel
theorem dX10_table_57 : decode cX10_table 57 = .ok (.aload_n 0, 1) := bdX10_table_57.1
theorem dX10_table_58 : decode cX10_table 58 = .ok (.invokevirtual 83, 3) := bdX10_table_57.2.1
theorem dX10_table_61 : decode cX10_table 61 = .ok (.iconst 1, 1) := bdX10_table_57.2.2.1
theorem dX10_table_62 : decode cX10_table 62 = .ok (.ireturn, 1) := bdX10_table_57.2.2.2
set_option maxHeartbeats 4000000 in
set_option maxRecDepth 100000 in
theorem k_X10_table (l : Launch) (dC : Nat → ClassId) (dI : Nat → Nat → Nat) (h : Nat → Nat) (cs : Nat → ClassId) (sz : Nat) (I : Nat → Int32) (L : Nat → Int64) (A : Nat → Nat → Int32) (Q : Nat → Nat → Int64) (x y : Int32) : Met l yX10_table wsX10_table ({ frames := 1, cells := 0, slots := 0, locals := 25 }) (va_Pc [.ref (h 0), .int x, .int y] (xPre (dC, dI) (rW h cs I L A Q) (tysA cs) sz)) (va_Qi (fun (r : Int32) (u : RS) => ∃ x0 : Int32, ∃ x1 : Int32, ∃ x4 : Int32, ∃ x5 : Int32, ∃ f : Nat → Int32, ((r = nI 1 ∧ ∃ i j : Nat, 1 ≤ i ∧ i ≤ 5 ∧ 1 ≤ j ∧ j ≤ 4 ∧ x = nI i ∧ y = nI j ∧ x0 = nI i ∧ x1 = nI j ∧ x4 = nI 0 ∧ x5 = nI 0 ∧ ∀ t : Nat, t < 25 → f t = nI 0) ∨ (r = -1 ∧ (∀ i j : Nat, 1 ≤ i → i ≤ 5 → 1 ≤ j → j ≤ 4 → x = nI i → y = nI j → False) ∧ x0 = I 0 ∧ x1 = I 1 ∧ x4 = I 4 ∧ x5 = I 5 ∧ f = A 3)) ∧ u = ((va_up (va_up (va_up (va_up I 0 x0) 1 x1) 4 x4) 5 x5), L, (va_up A 3 f), Q)) (xB (dC, dI) (tysA cs) (va_A (rW h cs I L A Q) sz) (fun u : RS => rW h cs u.1 u.2.1 u.2.2.1 u.2.2.2)) (va_A (rW h cs I L A Q) sz)) 0 0 (va_A (rW h cs I L A Q) sz) := by
  refine Met.ofW (cc := cX10_table) (maxL := 4) (ret := (some .int)) (by decide) rfl ?_
  intro p e s m args below meth c s₁ B hml hv
  obtain ⟨rfl, hsz, hP, hK, hD0, hN⟩ := hv
  have hx := B.exec
  have hb := B.bytes
  have hr := B.returns
  have hts := atoms_spec (ws := wsX10_table) B.pre
  have hown : s.vm.findClass RX10 = some m.cls := findClass_of_methodNamed B.named
  have hlocks := B.notSynchronized
  subst hsz
  have hD := hD0.self (sz := s.heap.size)
  generalize hAe : va_A (rW h cs I L A Q) s.heap.size = A0 at hD ⊢
  have hA : ∀ q : Nat, s.heap.size ≤ q → A0 q := fun q h => by rw [← hAe]; exact Or.inr h
  have hl := lv_entry ([.ref (h 0), .int x, .int y]) (n := 4) (Nat.le_of_ble_eq_true rfl)
  rw [lg_entry_eq]
  generalize (lg_sl ([.ref (h 0), .int x, .int y]) ++ List.replicate (4 - (lg_sl ([.ref (h 0), .int x, .int y])).length) Slot.unset).toArray = ls at hl ⊢
  have hl : lv_has ls 4 [(0, .ref (h 0)), (1, .int x), (2, .int y)] := hl
  generalize hH : s.heap = H at hP ⊢
  have hS : va_S A0 s.heap H [] := by rw [← hH]; exact va_S.rf
  have hinX10 : ∀ w ∈ wsX100, w ∈ wsX10_table := by decide +kernel
  refine lv_iload_n hx hb dX10_table_0 rfl (lv_at hl 1 rfl) ?_
  refine lv_i2l (v := x.toInt64) hx hb dX10_table_1 rfl ?_
  refine lv_lconst (v := 1) hx hb dX10_table_2 rfl ?_
  refine lv_ldc2 (v := 5) hx hb hown (hts (.constantLong RX10 75 (5)) (by decide +kernel)) dX10_table_3 ?_
  refine xj_i (wc := ([] : va_W)) (wr := (rW h cs I L A Q)) hP hD hS hA [] [0, 1, 2, 3, 4, 5, 6, 7, 8, 9, 10, 11, 12, 13, 14, 15, 16] rfl rfl (by decide +kernel) (by decide +kernel) (va_runS (As := [.long x.toInt64, .long (1 : Int64), .long (5 : Int64)]) (rest := []) ⟨hx, hb, hml, hown, hts⟩ (k_X10_in l dC dI h cs H.size I L A Q x.toInt64 (1 : Int64) (5 : Int64)) (va_cwS 3 hts gX10_table_X10_in rfl rfl rfl (by decide +kernel) ⟨Nat.le_of_ble_eq_true rfl, Nat.le_of_ble_eq_true rfl⟩) (xpS (wc := ([] : va_W)) hP hD hK hN [] rfl (by decide) _) rfl rfl hl.1 rfl (lv_room (Nat.le_of_ble_eq_true rfl)) dX10_table_6 ⟨Nat.zero_le _, Nat.zero_le _⟩) (fun r_2 u_1 H locs hw hP hD hS => ?_)
  obtain ⟨hf_3, rfl⟩ := hw
  have hP : va_P (dC, dI) vwCl (rW h cs I L A Q) H := hP
  have hD : va_D A0 (rW h cs I L A Q) := hD
  rcases in_N (a := 1) (b := 5) (rfl) (rfl) hf_3 with ⟨rfl, i_4, ha_5, hb_6, hx_7⟩ | ⟨rfl, hn_8⟩
  · skip
    rw [hx_7] at hl
    refine xs_eqF (tgt := 24) hx hb dX10_table_9 (by decide) (by decide) ?_
    refine lv_iload_n hx hb dX10_table_12 rfl (lv_at hl 2 rfl) ?_
    refine lv_i2l (v := y.toInt64) hx hb dX10_table_13 rfl ?_
    refine lv_lconst (v := 1) hx hb dX10_table_14 rfl ?_
    refine lv_ldc2 (v := 4) hx hb hown (hts (.constantLong RX10 81 (4)) (by decide +kernel)) dX10_table_15 ?_
    refine xj_i (wc := ([] : va_W)) (wr := (rW h cs I L A Q)) hP hD hS hA [] [0, 1, 2, 3, 4, 5, 6, 7, 8, 9, 10, 11, 12, 13, 14, 15, 16] rfl rfl (by decide +kernel) (by decide +kernel) (va_runS (As := [.long y.toInt64, .long (1 : Int64), .long (4 : Int64)]) (rest := []) ⟨hx, hb, hml, hown, hts⟩ (k_X10_in l dC dI h cs H.size I L A Q y.toInt64 (1 : Int64) (4 : Int64)) (va_cwS 3 hts gX10_table_X10_in rfl rfl rfl (by decide +kernel) ⟨Nat.le_of_ble_eq_true rfl, Nat.le_of_ble_eq_true rfl⟩) (xpS (wc := ([] : va_W)) hP hD hK hN [] rfl (by decide) _) rfl rfl hl.1 rfl (lv_room (Nat.le_of_ble_eq_true rfl)) dX10_table_18 ⟨Nat.zero_le _, Nat.zero_le _⟩) (fun r_11 u_10 H locs hw hP hD hS => ?_)
    obtain ⟨hf_12, rfl⟩ := hw
    have hP : va_P (dC, dI) vwCl (rW h cs I L A Q) H := hP
    have hD : va_D A0 (rW h cs I L A Q) := hD
    rcases in_N (a := 1) (b := 4) (rfl) (rfl) hf_12 with ⟨rfl, i_13, ha_14, hb_15, hx_16⟩ | ⟨rfl, hn_17⟩
    · skip
      rw [hx_16] at hl
      refine xs_neT (tgt := 26) hx hb dX10_table_21 (by decide) (by decide) ?_
      refine lv_aload_n hx hb dX10_table_26 rfl (lv_at hl 0 rfl) ?_
      refine lv_iload_n hx hb dX10_table_27 rfl (lv_at hl 1 rfl) ?_
      refine va_put (D := (dC, dI)) (ci := 10) (v := .int (nI i_4)) (ty := .int) (C := RX10) (T := TX10) (N := 28) hx hb hts hinX10 tyX10 tyX10_ok nmX10 hown hK hP hD hS 0 rfl rfl 0 (by decide) (hts (.fieldLink RX10 7 "MixedWordsModel" "rows" "I") (by decide +kernel)) (fun _ h9 => h9) rfl (by decide +kernel) rfl rfl (Nat.le_of_ble_eq_true rfl) dX10_table_28 (fun H locs hP hD hS => ?_)
      have hP : va_P (dC, dI) vwCl (rW h cs (va_up I 0 (nI i_4)) L A Q) H := hP
      have hD : va_D A0 (rW h cs (va_up I 0 (nI i_4)) L A Q) := hD
      refine lv_aload_n hx hb dX10_table_31 rfl (lv_at hl 0 rfl) ?_
      refine lv_iload_n hx hb dX10_table_32 rfl (lv_at hl 2 rfl) ?_
      refine va_put (D := (dC, dI)) (ci := 10) (v := .int (nI i_13)) (ty := .int) (C := RX10) (T := TX10) (N := 28) hx hb hts hinX10 tyX10 tyX10_ok nmX10 hown hK hP hD hS 0 rfl rfl 1 (by decide) (hts (.fieldLink RX10 13 "MixedWordsModel" "columns" "I") (by decide +kernel)) (fun _ h9 => h9) rfl (by decide +kernel) rfl rfl (Nat.le_of_ble_eq_true rfl) dX10_table_33 (fun H locs hP hD hS => ?_)
      have hP : va_P (dC, dI) vwCl (rW h cs (va_up (va_up I 0 (nI i_4)) 1 (nI i_13)) L A Q) H := hP
      have hD : va_D A0 (rW h cs (va_up (va_up I 0 (nI i_4)) 1 (nI i_13)) L A Q) := hD
      refine lv_iconst (v := nI 0) hx hb dX10_table_36 (by decide) ?_
      refine lv_istore_n (lv' := [(3, .int (nI 0)), (0, .ref (h 0)), (1, .int (nI i_4)), (2, .int (nI i_13))]) hx hb dX10_table_37 rfl hl (by decide) rfl (fun ls hl => ?_)
      have cut_38 : ∀ (nf : Nat) (k : Nat) (g : Nat → Int32), (25 - k) < nf → (k ≤ 25) → (∀ t : Nat, t < k → g t = nI 0) → ∀ (H : Heap) (locs : List Loc) (ls : Array Slot), va_P (dC, dI) vwCl (rW h cs (va_up (va_up I 0 (nI i_4)) 1 (nI i_13)) L (va_up A 3 g) Q) H → va_D A0 (rW h cs (va_up (va_up I 0 (nI i_4)) 1 (nI i_13)) L (va_up A 3 g) Q) → va_S A0 s.heap H locs → lv_has ls 4 [(0, .ref (h 0)), (1, .int (nI i_4)), (2, .int (nI i_13)), (3, .int (nI k))] → W p l e (headSpec wsX10_table ({ frames := 1, cells := 0, slots := 0, locals := 25 })).room s m ([.ref (h 0), .int x, .int y] : List Value).toArray below meth c H locs 0 0 (MQ below (va_Qi (fun (r : Int32) (u : RS) => ∃ x0 : Int32, ∃ x1 : Int32, ∃ x4 : Int32, ∃ x5 : Int32, ∃ f : Nat → Int32, ((r = nI 1 ∧ ∃ i j : Nat, 1 ≤ i ∧ i ≤ 5 ∧ 1 ≤ j ∧ j ≤ 4 ∧ x = nI i ∧ y = nI j ∧ x0 = nI i ∧ x1 = nI j ∧ x4 = nI 0 ∧ x5 = nI 0 ∧ ∀ t : Nat, t < 25 → f t = nI 0) ∨ (r = -1 ∧ (∀ i j : Nat, 1 ≤ i → i ≤ 5 → 1 ≤ j → j ≤ 4 → x = nI i → y = nI j → False) ∧ x0 = I 0 ∧ x1 = I 1 ∧ x4 = I 4 ∧ x5 = I 5 ∧ f = A 3)) ∧ u = ((va_up (va_up (va_up (va_up I 0 x0) 1 x1) 4 x4) 5 x5), L, (va_up A 3 f), Q)) (xB (dC, dI) (tysA cs) A0 (fun u : RS => rW h cs u.1 u.2.1 u.2.2.1 u.2.2.2)) A0) ([.ref (h 0), .int x, .int y] : List Value).toArray s 0 0 A0) (F0 m 38 ls []) := by
        intro nf
        induction nf with
        | zero => intro k g hm; exact absurd hm (Nat.not_lt_zero _)
        | succ nf ih_38 =>
          intro k g hm_38 hk_38 hf_38 H locs ls hP hD hS hl
          refine lv_iload_n hx hb dX10_table_38 rfl (lv_at hl 3 rfl) ?_
          refine lv_bipush (v := nI 25) hx hb dX10_table_39 (by decide) ?_
          refine xn_ge (tgt := 57) hx hb dX10_table_41 (by decide) (by omega) (by omega) (fun c_41_18 => ?_) (fun c_41_18 => ?_)
          · skip
            refine lv_aload_n hx hb dX10_table_57 rfl (lv_at hl 0 rfl) ?_
            refine xj_v (wc := (rW h cs (va_up (va_up I 0 (nI i_4)) 1 (nI i_13)) L (va_up A 3 g) Q)) (wr := ([] : va_W)) hP hD hS hA [0, 1, 2, 3, 4, 5, 6, 7, 8, 9, 10, 11, 12, 13, 14, 15, 16] [] rfl rfl (by decide +kernel) (by decide +kernel) (va_runV (As := []) (rest := []) ⟨hx, hb, hml, hown, hts⟩ (k_X10_forget l dC dI h cs H.size (va_up (va_up I 0 (nI i_4)) 1 (nI i_13)) L (va_up A 3 g) Q ) (cwV 0 hts gX10_table_X10_forget rfl rfl rfl (by decide +kernel) ⟨Nat.le_of_ble_eq_true rfl, Nat.le_of_ble_eq_true rfl⟩) (xpV (wc := (rW h cs (va_up (va_up I 0 (nI i_4)) 1 (nI i_13)) L (va_up A 3 g) Q)) hP hD hK hN [0, 1, 2, 3, 4, 5, 6, 7, 8, 9, 10, 11, 12, 13, 14, 15, 16] rfl (by decide) 0 (ci := 10) rfl rfl _) rfl rfl hl.1 rfl (lv_room (Nat.le_of_ble_eq_true rfl)) dX10_table_58 ⟨Nat.zero_le _, Nat.zero_le _⟩) (fun u_20 H locs hw hP hD hS => ?_)
            obtain ⟨x4_22, x5_23, hf_24, rfl⟩ := hw
            have hP : va_P (dC, dI) vwCl (rW h cs (va_up (va_up (va_up (va_up I 0 (nI i_4)) 1 (nI i_13)) 4 x4_22) 5 x5_23) L (va_up A 3 g) Q) H := hP
            have hD : va_D A0 (rW h cs (va_up (va_up (va_up (va_up I 0 (nI i_4)) 1 (nI i_13)) 4 x4_22) 5 x5_23) L (va_up A 3 g) Q) := hD
            obtain ⟨rfl, rfl⟩ := hf_24
            refine lv_iconst (v := nI 1) hx hb dX10_table_61 (by decide) ?_
            exact xr_i (v := (nI 1)) hx hb hr hlocks hK hS dX10_table_62 ((va_up (va_up (va_up (va_up I 0 (nI i_4)) 1 (nI i_13)) 4 (nI 0)) 5 (nI 0)), L, (va_up A 3 g), Q) ⟨(nI i_4), (nI i_13), (nI 0), (nI 0), g, (Or.inl ⟨rfl, i_4, i_13, by omega, by omega, by omega, by omega, by assumption, by assumption, rfl, rfl, rfl, rfl, fun t ht => by first | exact hf_38 t (by omega)⟩), rfl⟩ hP hD
          · skip
            refine lv_aload_n hx hb dX10_table_44 rfl (lv_at hl 0 rfl) ?_
            refine va_get (D := (dC, dI)) (ci := 10) (v := .ref (h 3)) (C := RX10) (T := TX10) (N := 28) hx hb hts hinX10 hown hK hP 0 rfl rfl 3 (by decide) (hts (.fieldLink RX10 19 "MixedWordsModel" "told" "[I") (by decide +kernel)) (fun _ h9 => h9) rfl dX10_table_45 ?_
            refine lv_iload_n hx hb dX10_table_48 rfl (lv_at hl 3 rfl) ?_
            refine lv_iconst (v := nI 0) hx hb dX10_table_49 (by decide) ?_
            refine xa_iast hx hb hK hP hD hS 1 0 rfl rfl (by omega) (by decide) dX10_table_50 (fun H locs hP hD hS => ?_)
            have hP : va_P (dC, dI) vwCl (rW h cs (va_up (va_up I 0 (nI i_4)) 1 (nI i_13)) L (va_up A 3 (upd g k (nI 0))) Q) H := hP
            have hD : va_D A0 (rW h cs (va_up (va_up I 0 (nI i_4)) 1 (nI i_13)) L (va_up A 3 (upd g k (nI 0))) Q) := hD
            refine lv_iinc (v := nI (k + 1)) (lv' := [(3, .int (nI (k + 1))), (0, .ref (h 0)), (1, .int (nI i_4)), (2, .int (nI i_13))]) hx hb dX10_table_51 hl (k := 3) rfl (nI_1 _) (by decide) rfl (fun ls hl => ?_)
            refine lv_goto (tgt := 38) hx hb dX10_table_54 (by decide) ?_
            exact ih_38 (k + 1) (upd g k (nI 0)) (by omega) (by first | assumption | omega) (by first | exact (fun t ht => absurd ht (Nat.not_lt_zero t)) | exact (fun t ht => by by_cases e : t = k; (· subst e; exact pk_us); (· rw [pk_un e]; exact hf_38 t (by omega)))) _ _ _ hP hD hS (lv_sub hl [1, 2, 3, 0] rfl)
      exact cut_38 _ 0 (A 3) (Nat.lt_succ_self _) (by first | assumption | omega) (by first | exact (fun t ht => absurd ht (Nat.not_lt_zero t)) | exact (fun t ht => by by_cases e : t = k; (· subst e; exact pk_us); (· rw [pk_un e]; exact hf_38 t (by omega)))) _ _ _ hP hD hS (lv_sub hl [1, 2, 3, 0] rfl)
    · skip
      refine xs_neF (tgt := 26) hx hb dX10_table_21 (by decide) (by decide) ?_
      refine lv_iconst (v := (-1)) hx hb dX10_table_24 (by decide) ?_
      exact xr_i (v := (-1)) hx hb hr hlocks hK hS dX10_table_25 ((va_up (va_up (va_up (va_up I 0 (I 0)) 1 (I 1)) 4 (I 4)) 5 (I 5)), L, (va_up A 3 (A 3)), Q) ⟨(I 0), (I 1), (I 4), (I 5), (A 3), (Or.inr ⟨rfl, fun i j a b c d e f => hn_17 j c d (by omega) f, rfl, rfl, rfl, rfl, rfl⟩), rfl⟩ hP hD
  · skip
    refine xs_eqT (tgt := 24) hx hb dX10_table_9 (by decide) (by decide) ?_
    refine lv_iconst (v := (-1)) hx hb dX10_table_24 (by decide) ?_
    exact xr_i (v := (-1)) hx hb hr hlocks hK hS dX10_table_25 ((va_up (va_up (va_up (va_up I 0 (I 0)) 1 (I 1)) 4 (I 4)) 5 (I 5)), L, (va_up A 3 (A 3)), Q) ⟨(I 0), (I 1), (I 4), (I 5), (A 3), (Or.inr ⟨rfl, fun i j a b c d e f => hn_8 i a b (by omega) e, rfl, rfl, rfl, rfl, rfl⟩), rfl⟩ hP hD
set_option maxRecDepth 20000 in
theorem ggX10_letters_X10_forget : GoodIn wsX10_letters wsX10_forget := goodIn_r _ [6, 7, 8, 9, 10, 11, 12, 13, 14, 15, 16, 17, 18, 19, 20, 21, 22, 23, 24, 25, 26, 27, 28, 29, 30, 31, 32, 33, 34, 35, 36] rfl (by decide +kernel)
set_option maxRecDepth 20000 in
theorem gX10_letters_X10_forget : GoodIn wsX10_letters (wsV RX10 83 RX10 yX10_forget wsX10_forget) := goodIn_app (goodIn_of _ (by decide +kernel)) ggX10_letters_X10_forget
theorem bdX10_letters_0 : (decode cX10_letters 0 = .ok (.iload_n 1, 1)) ∧ (decode cX10_letters 1 = .ok (.iconst 2, 1)) ∧ (decode cX10_letters 2 = .ok (.if_icmp .eq 10, 3)) ∧ (decode cX10_letters 5 = .ok (.iload_n 1, 1)) ∧ (decode cX10_letters 6 = .ok (.iconst 4, 1)) ∧ (decode cX10_letters 7 = .ok (.if_icmp .eq 5, 3)) ∧ (decode cX10_letters 10 = .ok (.iconst (-1), 1)) ∧ (decode cX10_letters 11 = .ok (.ireturn, 1)) ∧ (decode cX10_letters 12 = .ok (.aload_n 0, 1)) ∧ (decode cX10_letters 13 = .ok (.getfield 16, 3)) ∧ (decode cX10_letters 16 = .ok (.istore_n 2, 1)) ∧ (decode cX10_letters 17 = .ok (.aload_n 0, 1)) ∧ (decode cX10_letters 18 = .ok (.iload_n 1, 1)) ∧ (decode cX10_letters 19 = .ok (.putfield 16, 3)) ∧ (decode cX10_letters 22 = .ok (.aload_n 0, 1)) ∧ (decode cX10_letters 23 = .ok (.invokevirtual 83, 3)) := by decide +kernel
theorem dX10_letters_0 : decode cX10_letters 0 = .ok (.iload_n 1, 1) := bdX10_letters_0.1
theorem dX10_letters_1 : decode cX10_letters 1 = .ok (.iconst 2, 1) := bdX10_letters_0.2.1
theorem dX10_letters_2 : decode cX10_letters 2 = .ok (.if_icmp .eq 10, 3) := bdX10_letters_0.2.2.1
theorem dX10_letters_5 : decode cX10_letters 5 = .ok (.iload_n 1, 1) := bdX10_letters_0.2.2.2.1
theorem dX10_letters_6 : decode cX10_letters 6 = .ok (.iconst 4, 1) := bdX10_letters_0.2.2.2.2.1
theorem dX10_letters_7 : decode cX10_letters 7 = .ok (.if_icmp .eq 5, 3) := bdX10_letters_0.2.2.2.2.2.1
theorem dX10_letters_10 : decode cX10_letters 10 = .ok (.iconst (-1), 1) := bdX10_letters_0.2.2.2.2.2.2.1
theorem dX10_letters_11 : decode cX10_letters 11 = .ok (.ireturn, 1) := bdX10_letters_0.2.2.2.2.2.2.2.1
theorem dX10_letters_12 : decode cX10_letters 12 = .ok (.aload_n 0, 1) := bdX10_letters_0.2.2.2.2.2.2.2.2.1
theorem dX10_letters_13 : decode cX10_letters 13 = .ok (.getfield 16, 3) := bdX10_letters_0.2.2.2.2.2.2.2.2.2.1
theorem dX10_letters_16 : decode cX10_letters 16 = .ok (.istore_n 2, 1) := bdX10_letters_0.2.2.2.2.2.2.2.2.2.2.1
theorem dX10_letters_17 : decode cX10_letters 17 = .ok (.aload_n 0, 1) := bdX10_letters_0.2.2.2.2.2.2.2.2.2.2.2.1
theorem dX10_letters_18 : decode cX10_letters 18 = .ok (.iload_n 1, 1) := bdX10_letters_0.2.2.2.2.2.2.2.2.2.2.2.2.1
theorem dX10_letters_19 : decode cX10_letters 19 = .ok (.putfield 16, 3) := bdX10_letters_0.2.2.2.2.2.2.2.2.2.2.2.2.2.1
theorem dX10_letters_22 : decode cX10_letters 22 = .ok (.aload_n 0, 1) := bdX10_letters_0.2.2.2.2.2.2.2.2.2.2.2.2.2.2.1
theorem dX10_letters_23 : decode cX10_letters 23 = .ok (.invokevirtual 83, 3) := bdX10_letters_0.2.2.2.2.2.2.2.2.2.2.2.2.2.2.2
theorem dX10_letters_26 : decode cX10_letters 26 = .ok (.iload_n 2, 1) := by decide +kernel
theorem dX10_letters_27 : decode cX10_letters 27 = .ok (.ireturn, 1) := by decide +kernel
set_option maxHeartbeats 4000000 in
set_option maxRecDepth 100000 in
theorem k_X10_letters (l : Launch) (dC : Nat → ClassId) (dI : Nat → Nat → Nat) (h : Nat → Nat) (cs : Nat → ClassId) (sz : Nat) (I : Nat → Int32) (L : Nat → Int64) (A : Nat → Nat → Int32) (Q : Nat → Nat → Int64) (x : Int32) : Met l yX10_letters wsX10_letters ({ frames := 1, cells := 0, slots := 0, locals := 20 }) (va_Pc [.ref (h 0), .int x] (xPre (dC, dI) (rW h cs I L A Q) (tysA cs) sz)) (va_Qi (fun (r : Int32) (u : RS) => ∃ x2 : Int32, ∃ x4 : Int32, ∃ x5 : Int32, ((r = I 2 ∧ (x = nI 2 ∨ x = nI 4) ∧ x2 = x ∧ x4 = nI 0 ∧ x5 = nI 0) ∨ (r = -1 ∧ ¬ x = nI 2 ∧ ¬ x = nI 4 ∧ x2 = I 2 ∧ x4 = I 4 ∧ x5 = I 5)) ∧ u = ((va_up (va_up (va_up I 2 x2) 4 x4) 5 x5), L, A, Q)) (xB (dC, dI) (tysA cs) (va_A (rW h cs I L A Q) sz) (fun u : RS => rW h cs u.1 u.2.1 u.2.2.1 u.2.2.2)) (va_A (rW h cs I L A Q) sz)) 0 0 (va_A (rW h cs I L A Q) sz) := by
  refine Met.ofW (cc := cX10_letters) (maxL := 3) (ret := (some .int)) (by decide) rfl ?_
  intro p e s m args below meth c s₁ B hml hv
  obtain ⟨rfl, hsz, hP, hK, hD0, hN⟩ := hv
  have hx := B.exec
  have hb := B.bytes
  have hr := B.returns
  have hts := atoms_spec (ws := wsX10_letters) B.pre
  have hown : s.vm.findClass RX10 = some m.cls := findClass_of_methodNamed B.named
  have hlocks := B.notSynchronized
  subst hsz
  have hD := hD0.self (sz := s.heap.size)
  generalize hAe : va_A (rW h cs I L A Q) s.heap.size = A0 at hD ⊢
  have hA : ∀ q : Nat, s.heap.size ≤ q → A0 q := fun q h => by rw [← hAe]; exact Or.inr h
  have hl := lv_entry ([.ref (h 0), .int x]) (n := 3) (Nat.le_of_ble_eq_true rfl)
  rw [lg_entry_eq]
  generalize (lg_sl ([.ref (h 0), .int x]) ++ List.replicate (3 - (lg_sl ([.ref (h 0), .int x])).length) Slot.unset).toArray = ls at hl ⊢
  have hl : lv_has ls 3 [(0, .ref (h 0)), (1, .int x)] := hl
  generalize hH : s.heap = H at hP ⊢
  have hS : va_S A0 s.heap H [] := by rw [← hH]; exact va_S.rf
  have hinX10 : ∀ w ∈ wsX100, w ∈ wsX10_letters := by decide +kernel
  refine lv_iload_n hx hb dX10_letters_0 rfl (lv_at hl 1 rfl) ?_
  refine lv_iconst (v := nI 2) hx hb dX10_letters_1 (by decide) ?_
  refine lv_icmp_eq (tgt := 12) hx hb dX10_letters_2 (by decide) (fun c_2_0 => ?_) (fun c_2_0 => ?_)
  · skip
    refine lv_aload_n hx hb dX10_letters_12 rfl (lv_at hl 0 rfl) ?_
    refine va_get (D := (dC, dI)) (ci := 10) (v := .int (I 2)) (C := RX10) (T := TX10) (N := 28) hx hb hts hinX10 hown hK hP 0 rfl rfl 2 (by decide) (hts (.fieldLink RX10 16 "MixedWordsModel" "a" "I") (by decide +kernel)) (fun _ h9 => h9) rfl dX10_letters_13 ?_
    refine lv_istore_n (lv' := [(2, .int (I 2)), (0, .ref (h 0)), (1, .int x)]) hx hb dX10_letters_16 rfl hl (by decide) rfl (fun ls hl => ?_)
    refine lv_aload_n hx hb dX10_letters_17 rfl (lv_at hl 1 rfl) ?_
    refine lv_iload_n hx hb dX10_letters_18 rfl (lv_at hl 2 rfl) ?_
    refine va_put (D := (dC, dI)) (ci := 10) (v := .int x) (ty := .int) (C := RX10) (T := TX10) (N := 28) hx hb hts hinX10 tyX10 tyX10_ok nmX10 hown hK hP hD hS 0 rfl rfl 2 (by decide) (hts (.fieldLink RX10 16 "MixedWordsModel" "a" "I") (by decide +kernel)) (fun _ h9 => h9) rfl (by decide +kernel) rfl rfl (Nat.le_of_ble_eq_true rfl) dX10_letters_19 (fun H locs hP hD hS => ?_)
    have hP : va_P (dC, dI) vwCl (rW h cs (va_up I 2 x) L A Q) H := hP
    have hD : va_D A0 (rW h cs (va_up I 2 x) L A Q) := hD
    refine lv_aload_n hx hb dX10_letters_22 rfl (lv_at hl 1 rfl) ?_
    refine xj_v (wc := (rW h cs (va_up I 2 x) L A Q)) (wr := ([] : va_W)) hP hD hS hA [0, 1, 2, 3, 4, 5, 6, 7, 8, 9, 10, 11, 12, 13, 14, 15, 16] [] rfl rfl (by decide +kernel) (by decide +kernel) (va_runV (As := []) (rest := []) ⟨hx, hb, hml, hown, hts⟩ (k_X10_forget l dC dI h cs H.size (va_up I 2 x) L A Q ) (cwV 0 hts gX10_letters_X10_forget rfl rfl rfl (by decide +kernel) ⟨Nat.le_of_ble_eq_true rfl, Nat.le_of_ble_eq_true rfl⟩) (xpV (wc := (rW h cs (va_up I 2 x) L A Q)) hP hD hK hN [0, 1, 2, 3, 4, 5, 6, 7, 8, 9, 10, 11, 12, 13, 14, 15, 16] rfl (by decide) 0 (ci := 10) rfl rfl _) rfl rfl hl.1 rfl (lv_room (Nat.le_of_ble_eq_true rfl)) dX10_letters_23 ⟨Nat.zero_le _, Nat.zero_le _⟩) (fun u_2 H locs hw hP hD hS => ?_)
    obtain ⟨x4_4, x5_5, hf_6, rfl⟩ := hw
    have hP : va_P (dC, dI) vwCl (rW h cs (va_up (va_up (va_up I 2 x) 4 x4_4) 5 x5_5) L A Q) H := hP
    have hD : va_D A0 (rW h cs (va_up (va_up (va_up I 2 x) 4 x4_4) 5 x5_5) L A Q) := hD
    obtain ⟨rfl, rfl⟩ := hf_6
    refine lv_iload_n hx hb dX10_letters_26 rfl (lv_at hl 0 rfl) ?_
    exact xr_i (v := (I 2)) hx hb hr hlocks hK hS dX10_letters_27 ((va_up (va_up (va_up I 2 x) 4 (nI 0)) 5 (nI 0)), L, A, Q) ⟨x, (nI 0), (nI 0), (Or.inl ⟨rfl, by first | exact Or.inl (by assumption) | exact Or.inr (by assumption), rfl, rfl, rfl⟩), rfl⟩ hP hD
  · skip
    refine lv_iload_n hx hb dX10_letters_5 rfl (lv_at hl 1 rfl) ?_
    refine lv_iconst (v := nI 4) hx hb dX10_letters_6 (by decide) ?_
    refine lv_icmp_eq (tgt := 12) hx hb dX10_letters_7 (by decide) (fun c_7_6 => ?_) (fun c_7_6 => ?_)
    · skip
      refine lv_aload_n hx hb dX10_letters_12 rfl (lv_at hl 0 rfl) ?_
      refine va_get (D := (dC, dI)) (ci := 10) (v := .int (I 2)) (C := RX10) (T := TX10) (N := 28) hx hb hts hinX10 hown hK hP 0 rfl rfl 2 (by decide) (hts (.fieldLink RX10 16 "MixedWordsModel" "a" "I") (by decide +kernel)) (fun _ h9 => h9) rfl dX10_letters_13 ?_
      refine lv_istore_n (lv' := [(2, .int (I 2)), (0, .ref (h 0)), (1, .int x)]) hx hb dX10_letters_16 rfl hl (by decide) rfl (fun ls hl => ?_)
      refine lv_aload_n hx hb dX10_letters_17 rfl (lv_at hl 1 rfl) ?_
      refine lv_iload_n hx hb dX10_letters_18 rfl (lv_at hl 2 rfl) ?_
      refine va_put (D := (dC, dI)) (ci := 10) (v := .int x) (ty := .int) (C := RX10) (T := TX10) (N := 28) hx hb hts hinX10 tyX10 tyX10_ok nmX10 hown hK hP hD hS 0 rfl rfl 2 (by decide) (hts (.fieldLink RX10 16 "MixedWordsModel" "a" "I") (by decide +kernel)) (fun _ h9 => h9) rfl (by decide +kernel) rfl rfl (Nat.le_of_ble_eq_true rfl) dX10_letters_19 (fun H locs hP hD hS => ?_)
      have hP : va_P (dC, dI) vwCl (rW h cs (va_up I 2 x) L A Q) H := hP
      have hD : va_D A0 (rW h cs (va_up I 2 x) L A Q) := hD
      refine lv_aload_n hx hb dX10_letters_22 rfl (lv_at hl 1 rfl) ?_
      refine xj_v (wc := (rW h cs (va_up I 2 x) L A Q)) (wr := ([] : va_W)) hP hD hS hA [0, 1, 2, 3, 4, 5, 6, 7, 8, 9, 10, 11, 12, 13, 14, 15, 16] [] rfl rfl (by decide +kernel) (by decide +kernel) (va_runV (As := []) (rest := []) ⟨hx, hb, hml, hown, hts⟩ (k_X10_forget l dC dI h cs H.size (va_up I 2 x) L A Q ) (cwV 0 hts gX10_letters_X10_forget rfl rfl rfl (by decide +kernel) ⟨Nat.le_of_ble_eq_true rfl, Nat.le_of_ble_eq_true rfl⟩) (xpV (wc := (rW h cs (va_up I 2 x) L A Q)) hP hD hK hN [0, 1, 2, 3, 4, 5, 6, 7, 8, 9, 10, 11, 12, 13, 14, 15, 16] rfl (by decide) 0 (ci := 10) rfl rfl _) rfl rfl hl.1 rfl (lv_room (Nat.le_of_ble_eq_true rfl)) dX10_letters_23 ⟨Nat.zero_le _, Nat.zero_le _⟩) (fun u_8 H locs hw hP hD hS => ?_)
      obtain ⟨x4_10, x5_11, hf_12, rfl⟩ := hw
      have hP : va_P (dC, dI) vwCl (rW h cs (va_up (va_up (va_up I 2 x) 4 x4_10) 5 x5_11) L A Q) H := hP
      have hD : va_D A0 (rW h cs (va_up (va_up (va_up I 2 x) 4 x4_10) 5 x5_11) L A Q) := hD
      obtain ⟨rfl, rfl⟩ := hf_12
      refine lv_iload_n hx hb dX10_letters_26 rfl (lv_at hl 0 rfl) ?_
      exact xr_i (v := (I 2)) hx hb hr hlocks hK hS dX10_letters_27 ((va_up (va_up (va_up I 2 x) 4 (nI 0)) 5 (nI 0)), L, A, Q) ⟨x, (nI 0), (nI 0), (Or.inl ⟨rfl, by first | exact Or.inl (by assumption) | exact Or.inr (by assumption), rfl, rfl, rfl⟩), rfl⟩ hP hD
    · skip
      refine lv_iconst (v := (-1)) hx hb dX10_letters_10 (by decide) ?_
      exact xr_i (v := (-1)) hx hb hr hlocks hK hS dX10_letters_11 ((va_up (va_up (va_up I 2 (I 2)) 4 (I 4)) 5 (I 5)), L, A, Q) ⟨(I 2), (I 4), (I 5), (Or.inr ⟨rfl, by assumption, by assumption, rfl, rfl, rfl⟩), rfl⟩ hP hD
