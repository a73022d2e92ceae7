def ltK (o : Nat → Int32) (w x : Nat) : Bool := decide (o x < o w ∨ (o x = o w ∧ x < w))
theorem ltK_iff {o : Nat → Int32} {w x : Nat} : ltK o w x = true ↔ (o x < o w ∨ (o x = o w ∧ x < w)) := by
  unfold ltK
  exact decide_eq_true_iff
theorem ah_count (o : Nat → Int32) (w : Nat) : ∀ n : Nat, aheadF o w n = (List.range' 0 n).countP (ltK o w)
  | 0 => rfl
  | n + 1 => by
    rw [aheadF, ah_count o w n, List.range'_concat, List.countP_append, Nat.one_mul, Nat.zero_add, List.countP_singleton]
    by_cases e : o n < o w ∨ (o n = o w ∧ n < w)
    · rw [if_pos e, if_pos (ltK_iff.mpr e)]
    · rw [if_neg e, if_neg (fun q => e (ltK_iff.mp q))]
theorem blk_le {o : Nat → Int32} {be : Nat → Nat} {W p q : Nat} (h : Blk o be 0 W) (hpq : p < q) (hq : q < W) : leK o (be p) (be q) = true := by
  have h1 := h.1
  unfold segL at h1
  rw [List.pairwise_map, List.pairwise_iff_getElem] at h1
  have := h1 p q (by rw [List.length_range']; omega) (by rw [List.length_range']; omega) hpq
  rw [List.getElem_range', List.getElem_range'] at this
  simp only [Nat.one_mul, Nat.zero_add] at this
  exact this
theorem blk_ne {o : Nat → Int32} {be : Nat → Nat} {W p q : Nat} (h : Blk o be 0 W) (hpq : p < q) (hq : q < W) : ¬ be p = be q := by
  have h1 : (segL be 0 W).Nodup := (h.2.nodup_iff).mpr (List.nodup_range' (step := 1) (by decide))
  unfold segL List.Nodup at h1
  rw [List.pairwise_map, List.pairwise_iff_getElem] at h1
  have := h1 p q (by rw [List.length_range']; omega) (by rw [List.length_range']; omega) hpq
  rw [List.getElem_range', List.getElem_range'] at this
  simp only [Nat.one_mul, Nat.zero_add] at this
  exact this
theorem blk_rank {o : Nat → Int32} {be : Nat → Nat} {W i : Nat} (h : Blk o be 0 W) (hi : i < W) : aheadF o (be i) W = i := by
  rw [ah_count]
  have hp := h.2
  rw [show W - 0 = W by omega] at hp
  rw [← hp.countP_eq]
  have es : segL be 0 W = segL be 0 i ++ segL be i W := by
    unfold segL
    rw [← List.map_append]
    have := List.range'_append_1 (s := 0) (m := i - 0) (n := W - i)
    rw [show 0 + (i - 0) = i by omega, show i - 0 + (W - i) = W - 0 by omega] at this
    rw [this]
  rw [es, List.countP_append]
  have c1 : (segL be 0 i).countP (ltK o (be i)) = i := by
    have : (segL be 0 i).countP (ltK o (be i)) = (segL be 0 i).length := by
      rw [List.countP_eq_length]
      intro x hx
      unfold segL at hx
      obtain ⟨p, hp1, rfl⟩ := List.mem_map.mp hx
      rw [List.mem_range'_1] at hp1
      have hl := blk_le h (show p < i by omega) hi
      have hn := blk_ne h (show p < i by omega) hi
      rw [leK_iff] at hl
      rw [ltK_iff]
      rcases hl with q | ⟨q1, q2⟩
      · exact Or.inl q
      · exact Or.inr ⟨q1, by omega⟩
    rw [this]
    unfold segL
    rw [List.length_map, List.length_range']
    omega
  have c2 : (segL be i W).countP (ltK o (be i)) = 0 := by
    rw [List.countP_eq_zero]
    intro x hx
    unfold segL at hx
    obtain ⟨p, hp1, rfl⟩ := List.mem_map.mp hx
    rw [List.mem_range'_1] at hp1
    rw [ltK_iff]
    by_cases e : p = i
    · rw [e]
      rintro (q | ⟨-, q⟩)
      · exact Int32.lt_irrefl q
      · omega
    · have hl := blk_le h (show i < p by omega) (by omega)
      rw [leK_iff] at hl
      rintro (q | ⟨q1, q2⟩)
      · rcases hl with g | ⟨g, -⟩
        · exact Int32.lt_asymm q g
        · rw [g] at q
          exact Int32.lt_irrefl q
      · rcases hl with g | ⟨-, g⟩
        · rw [q1] at g
          exact Int32.lt_irrefl g
        · omega
  rw [c1, c2]
  rfl
theorem blk_sur {o : Nat → Int32} {be : Nat → Nat} {W w : Nat} (h : Blk o be 0 W) (hw : w < W) : ∃ p : Nat, p < W ∧ be p = w := by
  have hm : w ∈ segL be 0 W := (h.2.mem_iff).mpr (by rw [List.mem_range'_1]; omega)
  unfold segL at hm
  obtain ⟨p, hp, e⟩ := List.mem_map.mp hm
  rw [List.mem_range'_1] at hp
  exact ⟨p, by omega, e⟩
theorem found_be {o : Nat → Int32} {be : Nat → Nat} {W i : Nat} (h : Blk o be 0 W) (hi : i < W) : ∀ n : Nat, n ≤ W → be i < n → foundF o i W n = nI (be i)
  | 0, _, hb => absurd hb (Nat.not_lt_zero _)
  | n + 1, hn, hb => by
    rw [foundF]
    obtain ⟨p, hp, e⟩ := blk_sur h (show n < W by omega)
    by_cases q : aheadF o n W = i
    · rw [if_pos q]
      have r := blk_rank h hp
      rw [e, q] at r
      rw [← e, r]
    · rw [if_neg q]
      refine found_be h hi n (by omega) ?_
      have : ¬ be i = n := fun g => q (by rw [← g]; exact blk_rank h hi)
      omega
theorem ah_c {o o2 : Nat → Int32} {w W : Nat} (h : ∀ t : Nat, t < W → o t = o2 t) (hw : w < W) : ∀ n : Nat, n ≤ W → aheadF o w n = aheadF o2 w n
  | 0, _ => rfl
  | n + 1, hn => by rw [aheadF, aheadF, ah_c h hw n (by omega), h n (by omega), h w hw]
theorem found_c {o o2 : Nat → Int32} {i W : Nat} (h : ∀ t : Nat, t < W → o t = o2 t) : ∀ n : Nat, n ≤ W → foundF o i W n = foundF o2 i W n
  | 0, _ => rfl
  | n + 1, hn => by rw [foundF, foundF, found_c h n (by omega), ah_c h (show n < W by omega) W (Nat.le_refl W)]
theorem eq_nearest {x r1 r2 i173 i174 : Int32} {R M a : Nat} {I : Nat → Int32} {A rA : Nat → Nat → Int32} {a170 a171 f16 : Nat → Int32} {G : Nat → Nat → Nat → Int32} (ha : a = 2 ∨ a = 4) (hM : M ≤ 4) (ht : RelT R M (A 136) (G 0) (rA 3)) (hw : ((I 173 = I 123 ∧ a170 = A 170 ∧ i173 = I 173) ∨ (¬ I 173 = I 123 ∧ i173 = I 123 ∧ ∀ t : Nat, t < a ^ M → a170 t = offC (A 136) (G 0) a M t R)) → ((I 174 = I 123 ∧ i174 = I 174 ∧ a171 = A 171) ∨ (¬ I 174 = I 123 ∧ i174 = I 123 ∧ ∃ be : Nat → Nat, (∀ q : Nat, q < a ^ M → a171 q = nI (be q)) ∧ Blk a170 be 0 (a ^ M))) → ∃ be : Nat → Nat, (∀ q : Nat, q < a ^ M → a171 q = nI (be q)) ∧ Blk (fun t => offC (A 136) (G 0) a M t R) be 0 (a ^ M)) (hf1 : (∃ i : Nat, i < a ^ M ∧ x = nI i ∧ ((I 173 = I 123 ∧ a170 = A 170 ∧ i173 = I 173) ∨ (¬ I 173 = I 123 ∧ i173 = I 123 ∧ ∀ t : Nat, t < a ^ M → a170 t = offC (A 136) (G 0) a M t R)) ∧ ((I 174 = I 123 ∧ i174 = I 174 ∧ a171 = A 171) ∨ (¬ I 174 = I 123 ∧ i174 = I 123 ∧ ∃ be : Nat → Nat, (∀ q : Nat, q < a ^ M → a171 q = nI (be q)) ∧ Blk a170 be 0 (a ^ M))) ∧ r1 = a171 i) ∨ (r1 = -1 ∧ (∀ i : Nat, i < a ^ M → x ≠ nI i) ∧ a170 = A 170 ∧ i173 = I 173 ∧ a171 = A 171 ∧ i174 = I 174)) (hf2 : (∃ i : Nat, i < a ^ M ∧ x = nI i ∧ (∀ t : Nat, t < a ^ M → f16 t = offF (rA 3) a M t R) ∧ r2 = foundF f16 i (a ^ M) (a ^ M)) ∨ (r2 = -1 ∧ (∀ i : Nat, i < a ^ M → x ≠ nI i) ∧ f16 = rA 16)) : r1 = r2 := by
  have hpw : a ^ M ≤ 256 := pw_le ha hM
  rcases hf1 with ⟨i, hi, ex, h1, h2, e1⟩ | ⟨e1, hn, -⟩ <;> rcases hf2 with ⟨i2, hi2, fx, ho, k1⟩ | ⟨k1, hm, -⟩
  · obtain rfl : i = i2 := (nI_eq (by omega) (by omega)).mp (ex.symm.trans fx)
    obtain ⟨be, b1, b2⟩ := hw h1 h2
    have hs : ∀ t : Nat, t < a ^ M → f16 t = (fun t => offC (A 136) (G 0) a M t R) t := fun t ht9 => by
      show f16 t = offC (A 136) (G 0) a M t R
      rw [ho t ht9, off_eq ht R (Nat.le_refl R)]
    have hlt := (blk_mem b2 (Nat.zero_le i) hi).2
    rw [e1, b1 i hi, k1, found_c hs _ (Nat.le_refl _), found_be b2 hi _ (Nat.le_refl _) hlt]
  · exact (hm i hi ex).elim
  · exact (hn i2 hi2 fx).elim
  · rw [e1, k1]
