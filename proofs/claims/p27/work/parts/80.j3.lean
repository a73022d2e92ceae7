theorem rel_h {R M r : Nat} {he t : Nat → Int32} {g : Nat → Nat → Int32} (h : RelT R M he g t) (hr : r < R) : he r = t (5 * r + 4) := by
  have q := h r M hr (Nat.le_refl M)
  unfold atF at q
  rw [if_pos rfl, plc_M] at q
  exact q
theorem rel_c {R M r k : Nat} {he t : Nat → Int32} {g : Nat → Nat → Int32} (h : RelT R M he g t) (hr : r < R) (hk : k < M) : g r k = t (5 * r + k) := by
  have q := h r k hr (by omega)
  unfold atF plc at q
  rw [if_neg (by omega), if_neg (by omega)] at q
  exact q
theorem left_eq {R M a w r : Nat} {he t : Nat → Int32} {g : Nat → Nat → Int32} (h : RelT R M he g t) (hr : r < R) : ∀ k : Nat, k ≤ M → leftC he g a M w r k = leftF t a M w r k
  | 0, _ => by
    rw [leftC, leftF]
    exact rel_h h hr
  | k + 1, hk => by rw [leftC, leftF, left_eq h hr k (by omega), rel_c h hr (by omega)]
theorem off_eq {R M a w : Nat} {he t : Nat → Int32} {g : Nat → Nat → Int32} (h : RelT R M he g t) : ∀ n : Nat, n ≤ R → offC he g a M w n = offF t a M w n
  | 0, _ => rfl
  | n + 1, hn => by rw [offC, offF, off_eq h n (by omega), left_eq h (by omega) M (Nat.le_refl M)]
theorem eq_off {x r1 r2 : Int32} {R M a : Nat} {A rA : Nat → Nat → Int32} {G : Nat → Nat → Nat → Int32} (ha : a = 2 ∨ a = 4) (hM : M ≤ 4) (ht : RelT R M (A 136) (G 0) (rA 3)) (hf1 : (∃ i : Nat, i < a ^ M ∧ x = nI i ∧ r1 = offC (A 136) (G 0) a M i R) ∨ (r1 = -1 ∧ ∀ i : Nat, i < a ^ M → x ≠ nI i)) (hf2 : (∃ i : Nat, i < a ^ M ∧ x = nI i ∧ r2 = offF (rA 3) a M i R) ∨ (r2 = -1 ∧ ∀ i : Nat, i < a ^ M → x ≠ nI i)) : r1 = r2 := by
  have hpw : a ^ M ≤ 256 := pw_le ha hM
  rcases hf1 with ⟨i, hi, ex, e1⟩ | ⟨e1, hn⟩ <;> rcases hf2 with ⟨i2, hi2, fx, k1⟩ | ⟨k1, hm⟩
  · obtain rfl : i = i2 := (nI_eq (by omega) (by omega)).mp (ex.symm.trans fx)
    rw [e1, k1, off_eq ht R (Nat.le_refl R)]
  · exact (hm i hi ex).elim
  · exact (hn i2 hi2 fx).elim
  · rw [e1, k1]
/-! the order of taking -/
theorem prod_nn {R M c : Nat} {he t co tr : Nat → Int32} {g : Nat → Nat → Int32} (hR1 : 1 ≤ R) (hR : R ≤ 5) (hM : M ≤ 4) (hc : c < M) (h : RelT R M he g t) (hl : laid t R M co tr) (hb : tb9 t R M) : ¬ prodF g c c R ≤ -1 := by
  rw [prod_dot hR1 hR hM hc hc h hl]
  have hs := laid_short hl hb
  have e := dot_int (hs c (by omega)) (hs c (by omega))
  have n := dt_nn co c
  rw [Int32.le_iff_toInt_le, e]
  have z : (-1 : Int32).toInt = -1 := by decide
  omega
theorem nt_gt {d d2 : Nat → Int32} {x : Int32} {M : Nat} (hM : M ≤ 4) (he : ∀ c : Nat, c < M → d c = d2 c) (hn : ∀ c : Nat, c < M → ¬ d c ≤ -1) : ∀ c : Nat, c ≤ M → ((∀ j : Nat, j < c → ¬ bt1 x j = nI 0) ∧ ntF d2 x c = -1 ∧ gtB d x c = (0, -1)) ∨ ∃ b : Nat, b < c ∧ ntF d2 x c = nI b ∧ gtB d x c = (b, d b) ∧ bt1 x b = nI 0
  | 0, _ => Or.inl ⟨fun j hj => absurd hj (Nat.not_lt_zero j), rfl, rfl⟩
  | c + 1, hc => by
    have ih := nt_gt (x := x) hM he hn c (by omega)
    by_cases hb : bt1 x c = nI 0
    · rcases ih with ⟨i1, i2, i3⟩ | ⟨b, i1, i2, i3, i4⟩
      · refine Or.inr ⟨c, by omega, ?_, ?_, hb⟩
        · rw [ntF, i2, if_pos ⟨hb, Or.inl (by decide)⟩]
        · rw [gtB, i3, if_pos ⟨hb, Int32.not_le.mp (hn c (by omega))⟩]
      · have e1 : (nI b).toNatClampNeg = b := nI_clamp (by omega)
        by_cases hd : d b < d c
        · refine Or.inr ⟨c, by omega, ?_, ?_, hb⟩
          · rw [ntF, i2, e1, if_pos ⟨hb, Or.inr (by rw [← he b (by omega), ← he c (by omega)]; exact hd)⟩]
          · rw [gtB, i3, if_pos ⟨hb, hd⟩]
        · refine Or.inr ⟨b, by omega, ?_, ?_, i4⟩
          · rw [ntF, i2, e1, if_neg]
            rintro ⟨-, q | q⟩
            · exact nI_pos (show b < 2 ^ 31 by omega) q
            · rw [← he b (by omega), ← he c (by omega)] at q
              exact hd q
          · rw [gtB, i3, if_neg (fun q => hd q.2)]
    · have e1 : ntF d2 x (c + 1) = ntF d2 x c := by rw [ntF, if_neg (fun q => hb q.1)]
      have e2 : gtB d x (c + 1) = gtB d x c := by rw [gtB, if_neg (fun q => hb q.1)]
      rw [e1, e2]
      rcases ih with ⟨i1, i2, i3⟩ | ⟨b, i1, i2, i3, i4⟩
      · refine Or.inl ⟨fun j hj => ?_, i2, i3⟩
        by_cases e : j = c
        · rw [e]
          exact hb
        · exact i1 j (by omega)
      · exact Or.inr ⟨b, by omega, i2, i3, i4⟩
theorem bit_set : ∀ (m : Fin 16) (b : Fin 4), bt1 (nI m.val) b.val = nI 0 → (nI m.val ||| (nI 1 <<< (nI b.val &&& 31))) = nI (m.val + 2 ^ b.val) ∧ m.val + 2 ^ b.val < 16 ∧ ∀ M : Fin 5, b.val < M.val → selC (nI (m.val + 2 ^ b.val)) M.val = selC (nI m.val) M.val + 1 := by decide +kernel
theorem bit_free : ∀ (m : Fin 16) (M : Fin 5), selC (nI m.val) M.val < M.val → ∃ c : Fin 4, c.val < M.val ∧ bt1 (nI m.val) c.val = nI 0 := by decide +kernel
theorem tk_step {d d2 : Nat → Int32} {M : Nat} (hM : M ≤ 4) (he : ∀ c : Nat, c < M → d c = d2 c) (hn : ∀ c : Nat, c < M → ¬ d c ≤ -1) : ∀ k : Nat, k ≤ M → ∃ m : Nat, m < 16 ∧ tkC d M k = nI m ∧ tkB d2 M k = nI m ∧ selC (nI m) M = k
  | 0, _ => ⟨0, by decide, rfl, rfl, by
      rcases (show M = 0 ∨ M = 1 ∨ M = 2 ∨ M = 3 ∨ M = 4 by omega) with rfl | rfl | rfl | rfl | rfl <;> decide +kernel⟩
  | k + 1, hk => by
    obtain ⟨m, hm, e1, e2, e3⟩ := tk_step hM he hn k (by omega)
    obtain ⟨c, hc, hfree⟩ := bit_free ⟨m, hm⟩ ⟨M, by omega⟩ (by show selC (nI m) M < M; omega)
    rcases nt_gt (x := nI m) hM he hn M (Nat.le_refl M) with ⟨q, -, -⟩ | ⟨b, q1, q2, q3, q4⟩
    · exact absurd hfree (q c.val hc)
    · obtain ⟨s1, s2, s3⟩ := bit_set ⟨m, hm⟩ ⟨b, by omega⟩ q4
      refine ⟨m + 2 ^ b, s2, ?_, ?_, ?_⟩
      · rw [tkC, e1, q3]
        exact s1
      · rw [tkB, e2, q2]
        exact s1
      · have := s3 ⟨M, by omega⟩ q1
        show selC (nI (m + 2 ^ b)) M = k + 1
        rw [← e3]
        exact this
/-- the k-th column: both sides take the same, and it was free -/
theorem tk_col {d d2 : Nat → Int32} {M k : Nat} (hM : M ≤ 4) (he : ∀ c : Nat, c < M → d c = d2 c) (hn : ∀ c : Nat, c < M → ¬ d c ≤ -1) (hk : k < M) : (gtB d (tkC d M k) M).1 < M ∧ ntF d2 (tkB d2 M k) M = nI (gtB d (tkC d M k) M).1 ∧ bt1 (tkC d M k) (gtB d (tkC d M k) M).1 = nI 0 := by
  obtain ⟨m, hm, e1, e2, e3⟩ := tk_step hM he hn k (by omega)
  obtain ⟨c, hc, hfree⟩ := bit_free ⟨m, hm⟩ ⟨M, by omega⟩ (by show selC (nI m) M < M; omega)
  rcases nt_gt (x := nI m) hM he hn M (Nat.le_refl M) with ⟨q, -, -⟩ | ⟨b, q1, q2, q3, q4⟩
  · exact absurd hfree (q c.val hc)
  · rw [e1, e2, q3]
    exact ⟨q1, q2, q4⟩
theorem eq_order {x r1 r2 : Int32} {R M : Nat} {A rA : Nat → Nat → Int32} {f17 f18 : Nat → Int32} {G : Nat → Nat → Nat → Int32} (hR1 : 1 ≤ R) (hR : R ≤ 5) (hM : M ≤ 4) (ht : RelT R M (A 136) (G 0) (rA 3)) (hb : tb9 (rA 3) R M) (hf1 : (∃ i : Nat, i < M ∧ x = nI i ∧ r1 = nI (gtB (dC9 (G 0) R) (tkC (dC9 (G 0) R) M i) M).1) ∨ (r1 = -1 ∧ ∀ i : Nat, i < M → x ≠ nI i)) (hf2 : (∃ i : Nat, i < M ∧ x = nI i ∧ laid (rA 3) R M f17 f18 ∧ r2 = ntF (fun t => dotF f17 t t) (tkB (fun t => dotF f17 t t) M i) M) ∨ (r2 = -1 ∧ (∀ i : Nat, i < M → x ≠ nI i) ∧ f17 = rA 17 ∧ f18 = rA 18)) : r1 = r2 := by
  rcases hf1 with ⟨i, hi, ex, e1⟩ | ⟨e1, hn⟩ <;> rcases hf2 with ⟨i2, hi2, fx, hl, k1⟩ | ⟨k1, hm, -⟩
  · obtain rfl : i = i2 := (nI_eq (by omega) (by omega)).mp (ex.symm.trans fx)
    have q := tk_col (d := dC9 (G 0) R) (d2 := fun t => dotF f17 t t) (k := i) hM (fun c hc => prod_dot hR1 hR hM hc hc ht hl) (fun c hc => prod_nn hR1 hR hM hc ht hl hb) hi
    rw [e1, k1, q.2.1]
  · exact (hm i hi ex).elim
  · exact (hn i2 hi2 fx).elim
  · rw [e1, k1]
