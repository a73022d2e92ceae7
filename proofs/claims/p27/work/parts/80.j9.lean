theorem eq_worth {x : Int32} {r1 r2 : Int64} {R M : Nat} {A rA : Nat → Nat → Int32} {rQ : Nat → Nat → Int64} {G : Nat → Nat → Nat → Int32} {f17 f18 : Nat → Int32} {q19 : Nat → Int64} (hR1 : 1 ≤ R) (hR : R ≤ 5) (hM1 : 1 ≤ M) (hM : M ≤ 4) (ht : RelT R M (A 136) (G 0) (rA 3)) (hb : tb9 (rA 3) R M) (hf1 : (∃ i : Nat, 1 ≤ i ∧ i < 2 ^ M ∧ x = nI i ∧ r1 = lpD (gramC (G 0) R M x) (selC x M) 4 0 (nI 1 <<< (nI (selC x M) &&& 31) - nI 1)) ∨ (r1 = -1 ∧ ∀ i : Nat, 1 ≤ i → i < 2 ^ M → x ≠ nI i)) (hf2 : (∃ i : Nat, 1 ≤ i ∧ i < 2 ^ M ∧ x = nI i ∧ laid (rA 3) R M f17 f18 ∧ r2 = worthF f17 M (nI i)) ∨ (r2 = -1 ∧ (∀ i : Nat, 1 ≤ i → i < 2 ^ M → x ≠ nI i) ∧ f17 = rA 17 ∧ f18 = rA 18 ∧ q19 = rQ 19)) : r1 = r2 := by
  have hp16 : 2 ^ M ≤ 16 := Nat.pow_le_pow_right (by decide) hM
  rcases hf1 with ⟨i, a1, a2, ex, e1⟩ | ⟨e1, hn⟩ <;> rcases hf2 with ⟨i2, b1, b2, fx, hl, k1⟩ | ⟨k1, hm, -⟩
  · rw [e1, k1, ← fx, worth_same hR1 hR hM1 hM ht hl hb]
  · exact (hm i a1 a2 ex).elim
  · exact (hn i2 b1 b2 fx).elim
  · rw [e1, k1]
