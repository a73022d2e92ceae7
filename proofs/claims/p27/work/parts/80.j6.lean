theorem bit_rel {a M cl b w : Nat} (ha : a = 2 ∨ a = 4) (hb : b < a / 2) : (bitW a M cl b w = nI 0 ↔ bitC a M cl b w = 0) ∧ (bitC a M cl b w = 0 ∨ bitC a M cl b w = 1) := by
  unfold bitW bitC lettr
  have hv : w / a ^ (M - 1 - cl) % a < a := Nat.mod_lt _ (by omega)
  generalize w / a ^ (M - 1 - cl) % a = v at hv
  rcases ha with rfl | rfl
  · obtain rfl : b = 0 := by omega
    rcases (show v = 0 ∨ v = 1 by omega) with rfl | rfl <;> decide
  · rcases (show b = 0 ∨ b = 1 by omega) with rfl | rfl <;> rcases (show v = 0 ∨ v = 1 ∨ v = 2 ∨ v = 3 by omega) with rfl | rfl | rfl | rfl <;> decide
theorem bit_w0 {a M cl b : Nat} (ha : a = 2 ∨ a = 4) (hb : b < a / 2) : bitC a M cl b 0 = 0 := by
  unfold bitC
  rw [Nat.zero_div, Nat.zero_mod]
  rcases ha with rfl | rfl
  · rfl
  · rcases (show b = 0 ∨ b = 1 by omega) with rfl | rfl <;> decide
theorem bit_w1 {a M cl b : Nat} (ha : a = 2 ∨ a = 4) (hcl : cl < M) (hb : b < a / 2) : ∃ w : Nat, w < a ^ M ∧ bitC a M cl b w = 1 := by
  have key : ∀ k : Nat, k < a → bitN a k b = 1 → ∃ w : Nat, w < a ^ M ∧ bitC a M cl b w = 1 := fun k hk hbit => by
    have hp : 0 < a ^ (M - 1 - cl) := Nat.pow_pos (by omega)
    refine ⟨k * a ^ (M - 1 - cl), ?_, ?_⟩
    · have h1 : k * a ^ (M - 1 - cl) < a * a ^ (M - 1 - cl) := Nat.mul_lt_mul_of_pos_right hk hp
      have h2 : a * a ^ (M - 1 - cl) = a ^ (M - 1 - cl + 1) := by rw [Nat.pow_succ, Nat.mul_comm]
      have h3 : a ^ (M - 1 - cl + 1) ≤ a ^ M := Nat.pow_le_pow_right (by omega) (by omega)
      omega
    · unfold bitC
      rw [Nat.mul_div_cancel _ hp, Nat.mod_eq_of_lt hk]
      exact hbit
  rcases ha with rfl | rfl
  · obtain rfl : b = 0 := by omega
    exact key 1 (by decide) (by decide)
  · rcases (show b = 0 ∨ b = 1 by omega) with rfl | rfl
    · exact key 2 (by decide) (by decide)
    · exact key 1 (by decide) (by decide)
theorem up_eq {z x : Int32} (hz : ¬ z < 0) : up1 z x = if x < z then x else z := by
  unfold up1
  by_cases e : x < z
  · rw [if_pos (Or.inr e), if_pos e]
  · rw [if_neg (fun q => q.elim hz e), if_neg e]
theorem up_neg {z x : Int32} (hz : z < 0) : up1 z x = x := if_pos (Or.inl hz)
def inO (x : Int32) : Prop := ¬ x < 0 ∧ x < nI 10000000
theorem s0_lw {o bt : Nat → Int32} {bc : Nat → Nat} {W : Nat} (hb : ∀ w : Nat, w < W → (bt w = nI 0 ↔ bc w = 0)) (ho : ∀ w : Nat, w < W → inO (o w)) : ∀ n : Nat, n ≤ W → ((∀ w : Nat, w < n → ¬ bc w = 0) ∧ soft0 o bt n = -1 ∧ lwF o bc 0 n = nI 10000000) ∨ (soft0 o bt n = lwF o bc 0 n ∧ inO (lwF o bc 0 n))
  | 0, _ => Or.inl ⟨fun w hw => absurd hw (Nat.not_lt_zero w), rfl, rfl⟩
  | n + 1, hn => by
    have ih := s0_lw hb ho n (by omega)
    have hob := ho n (by omega)
    by_cases e : bc n = 0
    · rw [soft0, lwF, if_pos ((hb n (by omega)).mpr e), if_pos e]
      right
      rcases ih with ⟨-, i1, i2⟩ | ⟨i1, i2⟩
      · rw [i1, i2, up_neg (by decide), if_pos hob.2]
        exact ⟨rfl, hob⟩
      · rw [i1, up_eq i2.1]
        refine ⟨rfl, ?_⟩
        split
        · exact hob
        · exact i2
    · rw [soft0, lwF, if_neg (fun q => e ((hb n (by omega)).mp q)), if_neg e]
      rcases ih with ⟨i0, i1, i2⟩ | i1
      · refine Or.inl ⟨fun w hw => ?_, i1, i2⟩
        by_cases q : w = n
        · rw [q]
          exact e
        · exact i0 w (by omega)
      · exact Or.inr i1
theorem s1_lw {o bt : Nat → Int32} {bc : Nat → Nat} {W : Nat} (hb : ∀ w : Nat, w < W → (bt w = nI 0 ↔ bc w = 0)) (hb1 : ∀ w : Nat, w < W → bc w = 0 ∨ bc w = 1) (ho : ∀ w : Nat, w < W → inO (o w)) : ∀ n : Nat, n ≤ W → ((∀ w : Nat, w < n → ¬ bc w = 1) ∧ soft1 o bt n = -1 ∧ lwF o bc 1 n = nI 10000000) ∨ (soft1 o bt n = lwF o bc 1 n ∧ inO (lwF o bc 1 n))
  | 0, _ => Or.inl ⟨fun w hw => absurd hw (Nat.not_lt_zero w), rfl, rfl⟩
  | n + 1, hn => by
    have ih := s1_lw hb hb1 ho n (by omega)
    have hob := ho n (by omega)
    by_cases e : bc n = 1
    · rw [soft1, lwF, if_neg (fun q => by have := (hb n (by omega)).mp q; omega), if_pos e]
      right
      rcases ih with ⟨-, i1, i2⟩ | ⟨i1, i2⟩
      · rw [i1, i2, up_neg (by decide), if_pos hob.2]
        exact ⟨rfl, hob⟩
      · rw [i1, up_eq i2.1]
        refine ⟨rfl, ?_⟩
        split
        · exact hob
        · exact i2
    · have e0 : bc n = 0 := by
        rcases hb1 n (by omega) with q | q
        · exact q
        · exact absurd q e
      rw [soft1, lwF, if_pos ((hb n (by omega)).mpr e0), if_neg e]
      rcases ih with ⟨i0, i1, i2⟩ | i1
      · refine Or.inl ⟨fun w hw => ?_, i1, i2⟩
        by_cases q : w = n
        · rw [q]
          exact e
        · exact i0 w (by omega)
      · exact Or.inr i1
theorem lw_c {o o2 : Nat → Int32} {bc : Nat → Nat} {v W : Nat} (h : ∀ w : Nat, w < W → o w = o2 w) : ∀ n : Nat, n ≤ W → lwF o bc v n = lwF o2 bc v n
  | 0, _ => rfl
  | n + 1, hn => by rw [lwF, lwF, lw_c h n (by omega), h n (by omega)]
theorem let_bd {a x : Nat} (ha : a = 2 ∨ a = 4) : (lettr a x).toInt.natAbs ≤ 3 := by
  unfold lettr
  have hv : x % a < a := Nat.mod_lt _ (by omega)
  generalize x % a = v at hv
  rcases ha with rfl | rfl
  · rcases (show v = 0 ∨ v = 1 by omega) with rfl | rfl <;> decide
  · rcases (show v = 0 ∨ v = 1 ∨ v = 2 ∨ v = 3 by omega) with rfl | rfl | rfl | rfl <;> decide
theorem left_bd {R M a w r : Nat} {t : Nat → Int32} (ha : a = 2 ∨ a = 4) (hM : M ≤ 4) (hr : r < R) (hb : tb9 t R M) (h9 : H999 R t) : ∀ k : Nat, k ≤ M → (leftF t a M w r k).toInt.natAbs ≤ 999 + 27 * k
  | 0, _ => by
    have := h9 r hr
    rw [leftF]
    omega
  | k + 1, hk => by
    have ih := left_bd (w := w) ha hM hr hb h9 k (by omega)
    have hc := hb r k hr (by omega)
    unfold b9 at hc
    obtain ⟨m1, m2⟩ := mul32 (x := t (5 * r + k)) (y := lettr a (w / a ^ (M - 1 - k))) (a := 9) (b := 3) (by omega) (let_bd ha) (by decide)
    rw [leftF, sub32 (by rw [m1]; omega), m1]
    omega
theorem off_bd {R M a w : Nat} {t : Nat → Int32} (ha : a = 2 ∨ a = 4) (hR : R ≤ 5) (hM : M ≤ 4) (hb : tb9 t R M) (h9 : H999 R t) : ∀ n : Nat, n ≤ R → 0 ≤ (offF t a M w n).toInt ∧ (offF t a M w n).toInt ≤ 1225449 * n
  | 0, _ => by
    rw [offF]
    decide
  | n + 1, hn => by
    have ih := off_bd (w := w) ha hR hM hb h9 n (by omega)
    have hl := left_bd (w := w) ha hM (show n < R by omega) hb h9 M (Nat.le_refl M)
    obtain ⟨m1, m2⟩ := mul32 (x := leftF t a M w n M) (y := leftF t a M w n M) (a := 1107) (b := 1107) (by omega) (by omega) (by decide)
    have sq := sq_nn (leftF t a M w n M).toInt
    rw [offF, add32 (by rw [m1]; omega), m1]
    omega
theorem off_in {R M a w : Nat} {t : Nat → Int32} (ha : a = 2 ∨ a = 4) (hR : R ≤ 5) (hM : M ≤ 4) (hb : tb9 t R M) (h9 : H999 R t) : inO (offF t a M w R) := by
  obtain ⟨h1, h2⟩ := off_bd (w := w) ha hR hM hb h9 R (Nat.le_refl R)
  have z0 : (0 : Int32).toInt = 0 := by decide
  refine ⟨?_, ?_⟩
  · rw [Int32.lt_iff_toInt_lt, z0]
    omega
  · rw [Int32.lt_iff_toInt_lt, nI_toInt (by decide)]
    omega
theorem eq_soft {x y r1 r2 i173 : Int32} {R M a : Nat} {I : Nat → Int32} {A rA : Nat → Nat → Int32} {a170 f16 : Nat → Int32} {G : Nat → Nat → Nat → Int32} (ha : a = 2 ∨ a = 4) (hR : R ≤ 5) (hM : M ≤ 4) (ht : RelT R M (A 136) (G 0) (rA 3)) (hb : tb9 (rA 3) R M) (h9 : H999 R (rA 3)) (hw : ((I 173 = I 123 ∧ a170 = A 170 ∧ i173 = I 173) ∨ (¬ I 173 = I 123 ∧ i173 = I 123 ∧ ∀ t : Nat, t < a ^ M → a170 t = offC (A 136) (G 0) a M t R)) → ∀ t : Nat, t < a ^ M → a170 t = offC (A 136) (G 0) a M t R) (hf1 : (∃ i j : Nat, i < M ∧ j < a / 2 ∧ x = nI i ∧ y = nI j ∧ ((I 173 = I 123 ∧ a170 = A 170 ∧ i173 = I 173) ∨ (¬ I 173 = I 123 ∧ i173 = I 123 ∧ ∀ t : Nat, t < a ^ M → a170 t = offC (A 136) (G 0) a M t R)) ∧ r1 = lwF a170 (bitC a M i j) 1 (a ^ M) - lwF a170 (bitC a M i j) 0 (a ^ M)) ∨ (r1 = -100000001 ∧ (∀ i j : Nat, i < M → j < a / 2 → x = nI i → y = nI j → False) ∧ a170 = A 170 ∧ i173 = I 173)) (hf2 : (∃ i j : Nat, i < M ∧ j < a / 2 ∧ x = nI i ∧ y = nI j ∧ (∀ t : Nat, t < a ^ M → f16 t = offF (rA 3) a M t R) ∧ r2 = soft1 f16 (bitW a M i j) (a ^ M) - soft0 f16 (bitW a M i j) (a ^ M)) ∨ (r2 = -100000001 ∧ (∀ i j : Nat, i < M → j < a / 2 → x = nI i → y = nI j → False) ∧ f16 = rA 16)) : r1 = r2 := by
  rcases hf1 with ⟨i, j, hi, hj, ex, ey, hwc, e1⟩ | ⟨e1, hn, -⟩ <;> rcases hf2 with ⟨i2, j2, hi2, hj2, fx, fy, ho, k1⟩ | ⟨k1, hm, -⟩
  · obtain rfl : i = i2 := (nI_eq (by omega) (by omega)).mp (ex.symm.trans fx)
    obtain rfl : j = j2 := (nI_eq (by omega) (by omega)).mp (ey.symm.trans fy)
    have hc := hw hwc
    have hs : ∀ w : Nat, w < a ^ M → a170 w = f16 w := fun w hw9 => by rw [hc w hw9, ho w hw9, off_eq ht R (Nat.le_refl R)]
    have hin : ∀ w : Nat, w < a ^ M → inO (f16 w) := fun w hw9 => by
      rw [ho w hw9]
      exact off_in ha hR hM hb h9
    have hbt : ∀ w : Nat, w < a ^ M → (bitW a M i j w = nI 0 ↔ bitC a M i j w = 0) := fun w _ => (bit_rel ha hj).1
    have hb1 : ∀ w : Nat, w < a ^ M → bitC a M i j w = 0 ∨ bitC a M i j w = 1 := fun w _ => (bit_rel ha hj).2
    rw [e1, k1, lw_c hs _ (Nat.le_refl _), lw_c hs _ (Nat.le_refl _)]
    have z0 := s0_lw hbt hin _ (Nat.le_refl (a ^ M))
    have z1 := s1_lw hbt hb1 hin _ (Nat.le_refl (a ^ M))
    have g0 : soft0 f16 (bitW a M i j) (a ^ M) = lwF f16 (bitC a M i j) 0 (a ^ M) := by
      rcases z0 with ⟨q, -⟩ | ⟨q, -⟩
      · exact absurd (bit_w0 ha hj) (q 0 (Nat.pow_pos (by omega)))
      · exact q
    have g1 : soft1 f16 (bitW a M i j) (a ^ M) = lwF f16 (bitC a M i j) 1 (a ^ M) := by
      rcases z1 with ⟨q, -⟩ | ⟨q, -⟩
      · obtain ⟨w, hw1, hw2⟩ := bit_w1 (M := M) (cl := i) ha hi hj
        exact absurd hw2 (q w hw1)
      · exact q
    rw [g0, g1]
  · exact (hm i j hi hj ex ey).elim
  · exact (hn i2 j2 hi2 hj2 fx fy).elim
  · rw [e1, k1]
