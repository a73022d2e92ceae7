def d2 (A : Nat → Nat → Int) (r s c d : Nat) : Int := A r c * A s d - A r d * A s c
def d3 (A : Nat → Nat → Int) (r s t c d e : Nat) : Int := A r c * d2 A s t d e - A r d * d2 A s t c e + A r e * d2 A s t c d
def d4 (A : Nat → Nat → Int) (r s t u : Nat) : Int := A r 0 * d3 A s t u 1 2 3 - A r 1 * d3 A s t u 0 2 3 + A r 2 * d3 A s t u 0 1 3 - A r 3 * d3 A s t u 0 1 2
theorem acc64 {acc g w u : Int64} {sg a p : Int} {B U : Nat} (hg : g.toInt = sg) (hs : sg = 1 ∨ sg = -1) (ha : acc.toInt = a) (hab : a.natAbs ≤ B) (hw : w.toInt.natAbs ≤ 405) (hu : u.toInt = p) (hub : p.natAbs ≤ U) (hb : B + 405 * U < 4611686018427387904) : (if w = 0 then acc else acc + g * w * u).toInt = a + sg * (w.toInt * p) ∧ (a + sg * (w.toInt * p)).natAbs ≤ B + 405 * U := by
  have z0 : (0 : Int64).toInt = 0 := by decide
  have hm := mulB hw hub
  have hr : (a + sg * (w.toInt * p)).natAbs ≤ B + 405 * U := by
    rcases hs with rfl | rfl
    · rw [Int.one_mul]
      omega
    · rw [Int.neg_mul, Int.one_mul]
      omega
  refine ⟨?_, hr⟩
  by_cases e : w = 0
  · rw [if_pos e, e, z0, Int.zero_mul, Int.mul_zero, ha]
    omega
  · rw [if_neg e]
    obtain ⟨m1, k1⟩ := mul64 (x := g) (y := w) (a := 1) (b := 405) (by rw [hg]; rcases hs with rfl | rfl <;> decide) hw (by decide)
    obtain ⟨m2, k2⟩ := mul64 (x := g * w) (y := u) (a := 405) (b := U) (by rw [m1]; omega) (by rw [hu]; exact hub) (by omega)
    have e2 : (g * w * u).toInt = sg * (w.toInt * p) := by rw [m2, m1, hg, hu, Int.mul_assoc]
    rw [add64 (by rw [ha, e2]; omega), ha, e2]
theorem lp_1_0_1 {m : Nat → Nat → Int64} {A : Nat → Nat → Int} (hA : ∀ i j : Nat, i < 1 → j < 1 → (m i j).toInt = A i j ∧ (A i j).natAbs ≤ 405) : (lpD m 1 4 0 (nI 1)).toInt = A 0 0 ∧ (A 0 0).natAbs ≤ 405 := by
  rw [lpD, if_neg (by decide)]
  have s0 : (lpS (lpD m 1 3 1) (m 0) (nI 1) 0).2.toInt = 1 := (by decide : (1 : Int64).toInt = 1)
  have t0 : (lpS (lpD m 1 3 1) (m 0) (nI 1) 0).1.toInt = 0 := (by decide : (0 : Int64).toInt = 0)
  have m0 : (nI 1) &&& ((nI 1 <<< (nI 0 &&& 31)) ^^^ (-1)) = nI 0 := by decide
  have u0 : ((lpD m 1 3 1) ((nI 1) &&& ((nI 1 <<< (nI 0 &&& 31)) ^^^ (-1)))).toInt = 1 ∧ ((1 : Int)).natAbs ≤ 1 := by
    refine ⟨?_, by decide⟩
    rw [lpD, if_pos (by decide)]
    decide
  have w0 := hA 0 0 (by decide) (by decide)
  have q0 := acc64 (acc := (lpS (lpD m 1 3 1) (m 0) (nI 1) 0).1) (g := (lpS (lpD m 1 3 1) (m 0) (nI 1) 0).2) (w := (m 0) 0) (u := (lpD m 1 3 1) ((nI 1) &&& ((nI 1 <<< (nI 0 &&& 31)) ^^^ (-1)))) (B := 0) (U := 1) s0 (by decide) t0 (by decide) (by rw [w0.1]; exact w0.2) u0.1 u0.2 (by decide)
  have t1 : (lpS (lpD m 1 3 1) (m 0) (nI 1) 1).1.toInt = 0 + (1 : Int) * ((m 0 0).toInt * (1)) := by rw [lp_1 (by decide)]; exact q0.1
  have s1 : (lpS (lpD m 1 3 1) (m 0) (nI 1) 1).2.toInt = (-1 : Int) := by rw [lp_2 (by decide), neg64 (by rw [s0]; decide), s0]
  have en : 0 + (1 : Int) * ((m 0 0).toInt * (1)) = A 0 0 := by
    rw [w0.1]
    omega
  refine ⟨t1.trans en, ?_⟩
  rw [← en]
  exact Nat.le_trans q0.2 (by decide)
theorem lp_2_1_1 {m : Nat → Nat → Int64} {A : Nat → Nat → Int} (hA : ∀ i j : Nat, i < 2 → j < 2 → (m i j).toInt = A i j ∧ (A i j).natAbs ≤ 405) : (lpD m 2 3 1 (nI 1)).toInt = A 1 0 ∧ (A 1 0).natAbs ≤ 405 := by
  rw [lpD, if_neg (by decide)]
  have s0 : (lpS (lpD m 2 2 2) (m 1) (nI 1) 0).2.toInt = 1 := (by decide : (1 : Int64).toInt = 1)
  have t0 : (lpS (lpD m 2 2 2) (m 1) (nI 1) 0).1.toInt = 0 := (by decide : (0 : Int64).toInt = 0)
  have m0 : (nI 1) &&& ((nI 1 <<< (nI 0 &&& 31)) ^^^ (-1)) = nI 0 := by decide
  have u0 : ((lpD m 2 2 2) ((nI 1) &&& ((nI 1 <<< (nI 0 &&& 31)) ^^^ (-1)))).toInt = 1 ∧ ((1 : Int)).natAbs ≤ 1 := by
    refine ⟨?_, by decide⟩
    rw [lpD, if_pos (by decide)]
    decide
  have w0 := hA 1 0 (by decide) (by decide)
  have q0 := acc64 (acc := (lpS (lpD m 2 2 2) (m 1) (nI 1) 0).1) (g := (lpS (lpD m 2 2 2) (m 1) (nI 1) 0).2) (w := (m 1) 0) (u := (lpD m 2 2 2) ((nI 1) &&& ((nI 1 <<< (nI 0 &&& 31)) ^^^ (-1)))) (B := 0) (U := 1) s0 (by decide) t0 (by decide) (by rw [w0.1]; exact w0.2) u0.1 u0.2 (by decide)
  have t1 : (lpS (lpD m 2 2 2) (m 1) (nI 1) 1).1.toInt = 0 + (1 : Int) * ((m 1 0).toInt * (1)) := by rw [lp_1 (by decide)]; exact q0.1
  have s1 : (lpS (lpD m 2 2 2) (m 1) (nI 1) 1).2.toInt = (-1 : Int) := by rw [lp_2 (by decide), neg64 (by rw [s0]; decide), s0]
  have e2 : lpS (lpD m 2 2 2) (m 1) (nI 1) 2 = lpS (lpD m 2 2 2) (m 1) (nI 1) 1 := lp_b (by decide)
  have s2 : (lpS (lpD m 2 2 2) (m 1) (nI 1) 2).2.toInt = (-1 : Int) := by rw [e2]; exact s1
  have t2 : (lpS (lpD m 2 2 2) (m 1) (nI 1) 2).1.toInt = 0 + (1 : Int) * ((m 1 0).toInt * (1)) := by rw [e2]; exact t1
  have en : 0 + (1 : Int) * ((m 1 0).toInt * (1)) = A 1 0 := by
    rw [w0.1]
    omega
  refine ⟨t2.trans en, ?_⟩
  rw [← en]
  exact Nat.le_trans q0.2 (by decide)
theorem lp_2_1_2 {m : Nat → Nat → Int64} {A : Nat → Nat → Int} (hA : ∀ i j : Nat, i < 2 → j < 2 → (m i j).toInt = A i j ∧ (A i j).natAbs ≤ 405) : (lpD m 2 3 1 (nI 2)).toInt = A 1 1 ∧ (A 1 1).natAbs ≤ 405 := by
  rw [lpD, if_neg (by decide)]
  have s0 : (lpS (lpD m 2 2 2) (m 1) (nI 2) 0).2.toInt = 1 := (by decide : (1 : Int64).toInt = 1)
  have t0 : (lpS (lpD m 2 2 2) (m 1) (nI 2) 0).1.toInt = 0 := (by decide : (0 : Int64).toInt = 0)
  have e1 : lpS (lpD m 2 2 2) (m 1) (nI 2) 1 = lpS (lpD m 2 2 2) (m 1) (nI 2) 0 := lp_b (by decide)
  have s1 : (lpS (lpD m 2 2 2) (m 1) (nI 2) 1).2.toInt = (1 : Int) := by rw [e1]; exact s0
  have t1 : (lpS (lpD m 2 2 2) (m 1) (nI 2) 1).1.toInt = 0 := by rw [e1]; exact t0
  have m1 : (nI 2) &&& ((nI 1 <<< (nI 1 &&& 31)) ^^^ (-1)) = nI 0 := by decide
  have u1 : ((lpD m 2 2 2) ((nI 2) &&& ((nI 1 <<< (nI 1 &&& 31)) ^^^ (-1)))).toInt = 1 ∧ ((1 : Int)).natAbs ≤ 1 := by
    refine ⟨?_, by decide⟩
    rw [lpD, if_pos (by decide)]
    decide
  have w1 := hA 1 1 (by decide) (by decide)
  have q1 := acc64 (acc := (lpS (lpD m 2 2 2) (m 1) (nI 2) 1).1) (g := (lpS (lpD m 2 2 2) (m 1) (nI 2) 1).2) (w := (m 1) 1) (u := (lpD m 2 2 2) ((nI 2) &&& ((nI 1 <<< (nI 1 &&& 31)) ^^^ (-1)))) (B := 0) (U := 1) s1 (by decide) t1 (by decide) (by rw [w1.1]; exact w1.2) u1.1 u1.2 (by decide)
  have t2 : (lpS (lpD m 2 2 2) (m 1) (nI 2) 2).1.toInt = 0 + (1 : Int) * ((m 1 1).toInt * (1)) := by rw [lp_1 (by decide)]; exact q1.1
  have s2 : (lpS (lpD m 2 2 2) (m 1) (nI 2) 2).2.toInt = (-1 : Int) := by rw [lp_2 (by decide), neg64 (by rw [s1]; decide), s1]
  have en : 0 + (1 : Int) * ((m 1 1).toInt * (1)) = A 1 1 := by
    rw [w1.1]
    omega
  refine ⟨t2.trans en, ?_⟩
  rw [← en]
  exact Nat.le_trans q1.2 (by decide)
theorem lp_2_0_3 {m : Nat → Nat → Int64} {A : Nat → Nat → Int} (hA : ∀ i j : Nat, i < 2 → j < 2 → (m i j).toInt = A i j ∧ (A i j).natAbs ≤ 405) : (lpD m 2 4 0 (nI 3)).toInt = d2 A 0 1 0 1 ∧ (d2 A 0 1 0 1).natAbs ≤ 328050 := by
  rw [lpD, if_neg (by decide)]
  have s0 : (lpS (lpD m 2 3 1) (m 0) (nI 3) 0).2.toInt = 1 := (by decide : (1 : Int64).toInt = 1)
  have t0 : (lpS (lpD m 2 3 1) (m 0) (nI 3) 0).1.toInt = 0 := (by decide : (0 : Int64).toInt = 0)
  have m0 : (nI 3) &&& ((nI 1 <<< (nI 0 &&& 31)) ^^^ (-1)) = nI 2 := by decide
  have u0 : ((lpD m 2 3 1) ((nI 3) &&& ((nI 1 <<< (nI 0 &&& 31)) ^^^ (-1)))).toInt = A 1 1 ∧ (A 1 1).natAbs ≤ 405 := by rw [m0]; exact lp_2_1_2 hA
  have w0 := hA 0 0 (by decide) (by decide)
  have q0 := acc64 (acc := (lpS (lpD m 2 3 1) (m 0) (nI 3) 0).1) (g := (lpS (lpD m 2 3 1) (m 0) (nI 3) 0).2) (w := (m 0) 0) (u := (lpD m 2 3 1) ((nI 3) &&& ((nI 1 <<< (nI 0 &&& 31)) ^^^ (-1)))) (B := 0) (U := 405) s0 (by decide) t0 (by decide) (by rw [w0.1]; exact w0.2) u0.1 u0.2 (by decide)
  have t1 : (lpS (lpD m 2 3 1) (m 0) (nI 3) 1).1.toInt = 0 + (1 : Int) * ((m 0 0).toInt * (A 1 1)) := by rw [lp_1 (by decide)]; exact q0.1
  have s1 : (lpS (lpD m 2 3 1) (m 0) (nI 3) 1).2.toInt = (-1 : Int) := by rw [lp_2 (by decide), neg64 (by rw [s0]; decide), s0]
  have m1 : (nI 3) &&& ((nI 1 <<< (nI 1 &&& 31)) ^^^ (-1)) = nI 1 := by decide
  have u1 : ((lpD m 2 3 1) ((nI 3) &&& ((nI 1 <<< (nI 1 &&& 31)) ^^^ (-1)))).toInt = A 1 0 ∧ (A 1 0).natAbs ≤ 405 := by rw [m1]; exact lp_2_1_1 hA
  have w1 := hA 0 1 (by decide) (by decide)
  have q1 := acc64 (acc := (lpS (lpD m 2 3 1) (m 0) (nI 3) 1).1) (g := (lpS (lpD m 2 3 1) (m 0) (nI 3) 1).2) (w := (m 0) 1) (u := (lpD m 2 3 1) ((nI 3) &&& ((nI 1 <<< (nI 1 &&& 31)) ^^^ (-1)))) (B := 164025) (U := 405) s1 (by decide) t1 q0.2 (by rw [w1.1]; exact w1.2) u1.1 u1.2 (by decide)
  have t2 : (lpS (lpD m 2 3 1) (m 0) (nI 3) 2).1.toInt = 0 + (1 : Int) * ((m 0 0).toInt * (A 1 1)) + (-1 : Int) * ((m 0 1).toInt * (A 1 0)) := by rw [lp_1 (by decide)]; exact q1.1
  have s2 : (lpS (lpD m 2 3 1) (m 0) (nI 3) 2).2.toInt = (1 : Int) := by rw [lp_2 (by decide), neg64 (by rw [s1]; decide), s1]; decide
  have en : 0 + (1 : Int) * ((m 0 0).toInt * (A 1 1)) + (-1 : Int) * ((m 0 1).toInt * (A 1 0)) = d2 A 0 1 0 1 := by
    rw [w0.1, w1.1]
    unfold d2
    omega
  refine ⟨t2.trans en, ?_⟩
  rw [← en]
  exact Nat.le_trans q1.2 (by decide)
theorem lp_3_2_1 {m : Nat → Nat → Int64} {A : Nat → Nat → Int} (hA : ∀ i j : Nat, i < 3 → j < 3 → (m i j).toInt = A i j ∧ (A i j).natAbs ≤ 405) : (lpD m 3 2 2 (nI 1)).toInt = A 2 0 ∧ (A 2 0).natAbs ≤ 405 := by
  rw [lpD, if_neg (by decide)]
  have s0 : (lpS (lpD m 3 1 3) (m 2) (nI 1) 0).2.toInt = 1 := (by decide : (1 : Int64).toInt = 1)
  have t0 : (lpS (lpD m 3 1 3) (m 2) (nI 1) 0).1.toInt = 0 := (by decide : (0 : Int64).toInt = 0)
  have m0 : (nI 1) &&& ((nI 1 <<< (nI 0 &&& 31)) ^^^ (-1)) = nI 0 := by decide
  have u0 : ((lpD m 3 1 3) ((nI 1) &&& ((nI 1 <<< (nI 0 &&& 31)) ^^^ (-1)))).toInt = 1 ∧ ((1 : Int)).natAbs ≤ 1 := by
    refine ⟨?_, by decide⟩
    rw [lpD, if_pos (by decide)]
    decide
  have w0 := hA 2 0 (by decide) (by decide)
  have q0 := acc64 (acc := (lpS (lpD m 3 1 3) (m 2) (nI 1) 0).1) (g := (lpS (lpD m 3 1 3) (m 2) (nI 1) 0).2) (w := (m 2) 0) (u := (lpD m 3 1 3) ((nI 1) &&& ((nI 1 <<< (nI 0 &&& 31)) ^^^ (-1)))) (B := 0) (U := 1) s0 (by decide) t0 (by decide) (by rw [w0.1]; exact w0.2) u0.1 u0.2 (by decide)
  have t1 : (lpS (lpD m 3 1 3) (m 2) (nI 1) 1).1.toInt = 0 + (1 : Int) * ((m 2 0).toInt * (1)) := by rw [lp_1 (by decide)]; exact q0.1
  have s1 : (lpS (lpD m 3 1 3) (m 2) (nI 1) 1).2.toInt = (-1 : Int) := by rw [lp_2 (by decide), neg64 (by rw [s0]; decide), s0]
  have e2 : lpS (lpD m 3 1 3) (m 2) (nI 1) 2 = lpS (lpD m 3 1 3) (m 2) (nI 1) 1 := lp_b (by decide)
  have s2 : (lpS (lpD m 3 1 3) (m 2) (nI 1) 2).2.toInt = (-1 : Int) := by rw [e2]; exact s1
  have t2 : (lpS (lpD m 3 1 3) (m 2) (nI 1) 2).1.toInt = 0 + (1 : Int) * ((m 2 0).toInt * (1)) := by rw [e2]; exact t1
  have e3 : lpS (lpD m 3 1 3) (m 2) (nI 1) 3 = lpS (lpD m 3 1 3) (m 2) (nI 1) 2 := lp_b (by decide)
  have s3 : (lpS (lpD m 3 1 3) (m 2) (nI 1) 3).2.toInt = (-1 : Int) := by rw [e3]; exact s2
  have t3 : (lpS (lpD m 3 1 3) (m 2) (nI 1) 3).1.toInt = 0 + (1 : Int) * ((m 2 0).toInt * (1)) := by rw [e3]; exact t2
  have en : 0 + (1 : Int) * ((m 2 0).toInt * (1)) = A 2 0 := by
    rw [w0.1]
    omega
  refine ⟨t3.trans en, ?_⟩
  rw [← en]
  exact Nat.le_trans q0.2 (by decide)
theorem lp_3_2_2 {m : Nat → Nat → Int64} {A : Nat → Nat → Int} (hA : ∀ i j : Nat, i < 3 → j < 3 → (m i j).toInt = A i j ∧ (A i j).natAbs ≤ 405) : (lpD m 3 2 2 (nI 2)).toInt = A 2 1 ∧ (A 2 1).natAbs ≤ 405 := by
  rw [lpD, if_neg (by decide)]
  have s0 : (lpS (lpD m 3 1 3) (m 2) (nI 2) 0).2.toInt = 1 := (by decide : (1 : Int64).toInt = 1)
  have t0 : (lpS (lpD m 3 1 3) (m 2) (nI 2) 0).1.toInt = 0 := (by decide : (0 : Int64).toInt = 0)
  have e1 : lpS (lpD m 3 1 3) (m 2) (nI 2) 1 = lpS (lpD m 3 1 3) (m 2) (nI 2) 0 := lp_b (by decide)
  have s1 : (lpS (lpD m 3 1 3) (m 2) (nI 2) 1).2.toInt = (1 : Int) := by rw [e1]; exact s0
  have t1 : (lpS (lpD m 3 1 3) (m 2) (nI 2) 1).1.toInt = 0 := by rw [e1]; exact t0
  have m1 : (nI 2) &&& ((nI 1 <<< (nI 1 &&& 31)) ^^^ (-1)) = nI 0 := by decide
  have u1 : ((lpD m 3 1 3) ((nI 2) &&& ((nI 1 <<< (nI 1 &&& 31)) ^^^ (-1)))).toInt = 1 ∧ ((1 : Int)).natAbs ≤ 1 := by
    refine ⟨?_, by decide⟩
    rw [lpD, if_pos (by decide)]
    decide
  have w1 := hA 2 1 (by decide) (by decide)
  have q1 := acc64 (acc := (lpS (lpD m 3 1 3) (m 2) (nI 2) 1).1) (g := (lpS (lpD m 3 1 3) (m 2) (nI 2) 1).2) (w := (m 2) 1) (u := (lpD m 3 1 3) ((nI 2) &&& ((nI 1 <<< (nI 1 &&& 31)) ^^^ (-1)))) (B := 0) (U := 1) s1 (by decide) t1 (by decide) (by rw [w1.1]; exact w1.2) u1.1 u1.2 (by decide)
  have t2 : (lpS (lpD m 3 1 3) (m 2) (nI 2) 2).1.toInt = 0 + (1 : Int) * ((m 2 1).toInt * (1)) := by rw [lp_1 (by decide)]; exact q1.1
  have s2 : (lpS (lpD m 3 1 3) (m 2) (nI 2) 2).2.toInt = (-1 : Int) := by rw [lp_2 (by decide), neg64 (by rw [s1]; decide), s1]
  have e3 : lpS (lpD m 3 1 3) (m 2) (nI 2) 3 = lpS (lpD m 3 1 3) (m 2) (nI 2) 2 := lp_b (by decide)
  have s3 : (lpS (lpD m 3 1 3) (m 2) (nI 2) 3).2.toInt = (-1 : Int) := by rw [e3]; exact s2
  have t3 : (lpS (lpD m 3 1 3) (m 2) (nI 2) 3).1.toInt = 0 + (1 : Int) * ((m 2 1).toInt * (1)) := by rw [e3]; exact t2
  have en : 0 + (1 : Int) * ((m 2 1).toInt * (1)) = A 2 1 := by
    rw [w1.1]
    omega
  refine ⟨t3.trans en, ?_⟩
  rw [← en]
  exact Nat.le_trans q1.2 (by decide)
theorem lp_3_2_4 {m : Nat → Nat → Int64} {A : Nat → Nat → Int} (hA : ∀ i j : Nat, i < 3 → j < 3 → (m i j).toInt = A i j ∧ (A i j).natAbs ≤ 405) : (lpD m 3 2 2 (nI 4)).toInt = A 2 2 ∧ (A 2 2).natAbs ≤ 405 := by
  rw [lpD, if_neg (by decide)]
  have s0 : (lpS (lpD m 3 1 3) (m 2) (nI 4) 0).2.toInt = 1 := (by decide : (1 : Int64).toInt = 1)
  have t0 : (lpS (lpD m 3 1 3) (m 2) (nI 4) 0).1.toInt = 0 := (by decide : (0 : Int64).toInt = 0)
  have e1 : lpS (lpD m 3 1 3) (m 2) (nI 4) 1 = lpS (lpD m 3 1 3) (m 2) (nI 4) 0 := lp_b (by decide)
  have s1 : (lpS (lpD m 3 1 3) (m 2) (nI 4) 1).2.toInt = (1 : Int) := by rw [e1]; exact s0
  have t1 : (lpS (lpD m 3 1 3) (m 2) (nI 4) 1).1.toInt = 0 := by rw [e1]; exact t0
  have e2 : lpS (lpD m 3 1 3) (m 2) (nI 4) 2 = lpS (lpD m 3 1 3) (m 2) (nI 4) 1 := lp_b (by decide)
  have s2 : (lpS (lpD m 3 1 3) (m 2) (nI 4) 2).2.toInt = (1 : Int) := by rw [e2]; exact s1
  have t2 : (lpS (lpD m 3 1 3) (m 2) (nI 4) 2).1.toInt = 0 := by rw [e2]; exact t1
  have m2 : (nI 4) &&& ((nI 1 <<< (nI 2 &&& 31)) ^^^ (-1)) = nI 0 := by decide
  have u2 : ((lpD m 3 1 3) ((nI 4) &&& ((nI 1 <<< (nI 2 &&& 31)) ^^^ (-1)))).toInt = 1 ∧ ((1 : Int)).natAbs ≤ 1 := by
    refine ⟨?_, by decide⟩
    rw [lpD, if_pos (by decide)]
    decide
  have w2 := hA 2 2 (by decide) (by decide)
  have q2 := acc64 (acc := (lpS (lpD m 3 1 3) (m 2) (nI 4) 2).1) (g := (lpS (lpD m 3 1 3) (m 2) (nI 4) 2).2) (w := (m 2) 2) (u := (lpD m 3 1 3) ((nI 4) &&& ((nI 1 <<< (nI 2 &&& 31)) ^^^ (-1)))) (B := 0) (U := 1) s2 (by decide) t2 (by decide) (by rw [w2.1]; exact w2.2) u2.1 u2.2 (by decide)
  have t3 : (lpS (lpD m 3 1 3) (m 2) (nI 4) 3).1.toInt = 0 + (1 : Int) * ((m 2 2).toInt * (1)) := by rw [lp_1 (by decide)]; exact q2.1
  have s3 : (lpS (lpD m 3 1 3) (m 2) (nI 4) 3).2.toInt = (-1 : Int) := by rw [lp_2 (by decide), neg64 (by rw [s2]; decide), s2]
  have en : 0 + (1 : Int) * ((m 2 2).toInt * (1)) = A 2 2 := by
    rw [w2.1]
    omega
  refine ⟨t3.trans en, ?_⟩
  rw [← en]
  exact Nat.le_trans q2.2 (by decide)
theorem lp_3_1_3 {m : Nat → Nat → Int64} {A : Nat → Nat → Int} (hA : ∀ i j : Nat, i < 3 → j < 3 → (m i j).toInt = A i j ∧ (A i j).natAbs ≤ 405) : (lpD m 3 3 1 (nI 3)).toInt = d2 A 1 2 0 1 ∧ (d2 A 1 2 0 1).natAbs ≤ 328050 := by
  rw [lpD, if_neg (by decide)]
  have s0 : (lpS (lpD m 3 2 2) (m 1) (nI 3) 0).2.toInt = 1 := (by decide : (1 : Int64).toInt = 1)
  have t0 : (lpS (lpD m 3 2 2) (m 1) (nI 3) 0).1.toInt = 0 := (by decide : (0 : Int64).toInt = 0)
  have m0 : (nI 3) &&& ((nI 1 <<< (nI 0 &&& 31)) ^^^ (-1)) = nI 2 := by decide
  have u0 : ((lpD m 3 2 2) ((nI 3) &&& ((nI 1 <<< (nI 0 &&& 31)) ^^^ (-1)))).toInt = A 2 1 ∧ (A 2 1).natAbs ≤ 405 := by rw [m0]; exact lp_3_2_2 hA
  have w0 := hA 1 0 (by decide) (by decide)
  have q0 := acc64 (acc := (lpS (lpD m 3 2 2) (m 1) (nI 3) 0).1) (g := (lpS (lpD m 3 2 2) (m 1) (nI 3) 0).2) (w := (m 1) 0) (u := (lpD m 3 2 2) ((nI 3) &&& ((nI 1 <<< (nI 0 &&& 31)) ^^^ (-1)))) (B := 0) (U := 405) s0 (by decide) t0 (by decide) (by rw [w0.1]; exact w0.2) u0.1 u0.2 (by decide)
  have t1 : (lpS (lpD m 3 2 2) (m 1) (nI 3) 1).1.toInt = 0 + (1 : Int) * ((m 1 0).toInt * (A 2 1)) := by rw [lp_1 (by decide)]; exact q0.1
  have s1 : (lpS (lpD m 3 2 2) (m 1) (nI 3) 1).2.toInt = (-1 : Int) := by rw [lp_2 (by decide), neg64 (by rw [s0]; decide), s0]
  have m1 : (nI 3) &&& ((nI 1 <<< (nI 1 &&& 31)) ^^^ (-1)) = nI 1 := by decide
  have u1 : ((lpD m 3 2 2) ((nI 3) &&& ((nI 1 <<< (nI 1 &&& 31)) ^^^ (-1)))).toInt = A 2 0 ∧ (A 2 0).natAbs ≤ 405 := by rw [m1]; exact lp_3_2_1 hA
  have w1 := hA 1 1 (by decide) (by decide)
  have q1 := acc64 (acc := (lpS (lpD m 3 2 2) (m 1) (nI 3) 1).1) (g := (lpS (lpD m 3 2 2) (m 1) (nI 3) 1).2) (w := (m 1) 1) (u := (lpD m 3 2 2) ((nI 3) &&& ((nI 1 <<< (nI 1 &&& 31)) ^^^ (-1)))) (B := 164025) (U := 405) s1 (by decide) t1 q0.2 (by rw [w1.1]; exact w1.2) u1.1 u1.2 (by decide)
  have t2 : (lpS (lpD m 3 2 2) (m 1) (nI 3) 2).1.toInt = 0 + (1 : Int) * ((m 1 0).toInt * (A 2 1)) + (-1 : Int) * ((m 1 1).toInt * (A 2 0)) := by rw [lp_1 (by decide)]; exact q1.1
  have s2 : (lpS (lpD m 3 2 2) (m 1) (nI 3) 2).2.toInt = (1 : Int) := by rw [lp_2 (by decide), neg64 (by rw [s1]; decide), s1]; decide
  have e3 : lpS (lpD m 3 2 2) (m 1) (nI 3) 3 = lpS (lpD m 3 2 2) (m 1) (nI 3) 2 := lp_b (by decide)
  have s3 : (lpS (lpD m 3 2 2) (m 1) (nI 3) 3).2.toInt = (1 : Int) := by rw [e3]; exact s2
  have t3 : (lpS (lpD m 3 2 2) (m 1) (nI 3) 3).1.toInt = 0 + (1 : Int) * ((m 1 0).toInt * (A 2 1)) + (-1 : Int) * ((m 1 1).toInt * (A 2 0)) := by rw [e3]; exact t2
  have en : 0 + (1 : Int) * ((m 1 0).toInt * (A 2 1)) + (-1 : Int) * ((m 1 1).toInt * (A 2 0)) = d2 A 1 2 0 1 := by
    rw [w0.1, w1.1]
    unfold d2
    omega
  refine ⟨t3.trans en, ?_⟩
  rw [← en]
  exact Nat.le_trans q1.2 (by decide)
theorem lp_3_1_5 {m : Nat → Nat → Int64} {A : Nat → Nat → Int} (hA : ∀ i j : Nat, i < 3 → j < 3 → (m i j).toInt = A i j ∧ (A i j).natAbs ≤ 405) : (lpD m 3 3 1 (nI 5)).toInt = d2 A 1 2 0 2 ∧ (d2 A 1 2 0 2).natAbs ≤ 328050 := by
  rw [lpD, if_neg (by decide)]
  have s0 : (lpS (lpD m 3 2 2) (m 1) (nI 5) 0).2.toInt = 1 := (by decide : (1 : Int64).toInt = 1)
  have t0 : (lpS (lpD m 3 2 2) (m 1) (nI 5) 0).1.toInt = 0 := (by decide : (0 : Int64).toInt = 0)
  have m0 : (nI 5) &&& ((nI 1 <<< (nI 0 &&& 31)) ^^^ (-1)) = nI 4 := by decide
  have u0 : ((lpD m 3 2 2) ((nI 5) &&& ((nI 1 <<< (nI 0 &&& 31)) ^^^ (-1)))).toInt = A 2 2 ∧ (A 2 2).natAbs ≤ 405 := by rw [m0]; exact lp_3_2_4 hA
  have w0 := hA 1 0 (by decide) (by decide)
  have q0 := acc64 (acc := (lpS (lpD m 3 2 2) (m 1) (nI 5) 0).1) (g := (lpS (lpD m 3 2 2) (m 1) (nI 5) 0).2) (w := (m 1) 0) (u := (lpD m 3 2 2) ((nI 5) &&& ((nI 1 <<< (nI 0 &&& 31)) ^^^ (-1)))) (B := 0) (U := 405) s0 (by decide) t0 (by decide) (by rw [w0.1]; exact w0.2) u0.1 u0.2 (by decide)
  have t1 : (lpS (lpD m 3 2 2) (m 1) (nI 5) 1).1.toInt = 0 + (1 : Int) * ((m 1 0).toInt * (A 2 2)) := by rw [lp_1 (by decide)]; exact q0.1
  have s1 : (lpS (lpD m 3 2 2) (m 1) (nI 5) 1).2.toInt = (-1 : Int) := by rw [lp_2 (by decide), neg64 (by rw [s0]; decide), s0]
  have e2 : lpS (lpD m 3 2 2) (m 1) (nI 5) 2 = lpS (lpD m 3 2 2) (m 1) (nI 5) 1 := lp_b (by decide)
  have s2 : (lpS (lpD m 3 2 2) (m 1) (nI 5) 2).2.toInt = (-1 : Int) := by rw [e2]; exact s1
  have t2 : (lpS (lpD m 3 2 2) (m 1) (nI 5) 2).1.toInt = 0 + (1 : Int) * ((m 1 0).toInt * (A 2 2)) := by rw [e2]; exact t1
  have m2 : (nI 5) &&& ((nI 1 <<< (nI 2 &&& 31)) ^^^ (-1)) = nI 1 := by decide
  have u2 : ((lpD m 3 2 2) ((nI 5) &&& ((nI 1 <<< (nI 2 &&& 31)) ^^^ (-1)))).toInt = A 2 0 ∧ (A 2 0).natAbs ≤ 405 := by rw [m2]; exact lp_3_2_1 hA
  have w2 := hA 1 2 (by decide) (by decide)
  have q2 := acc64 (acc := (lpS (lpD m 3 2 2) (m 1) (nI 5) 2).1) (g := (lpS (lpD m 3 2 2) (m 1) (nI 5) 2).2) (w := (m 1) 2) (u := (lpD m 3 2 2) ((nI 5) &&& ((nI 1 <<< (nI 2 &&& 31)) ^^^ (-1)))) (B := 164025) (U := 405) s2 (by decide) t2 q0.2 (by rw [w2.1]; exact w2.2) u2.1 u2.2 (by decide)
  have t3 : (lpS (lpD m 3 2 2) (m 1) (nI 5) 3).1.toInt = 0 + (1 : Int) * ((m 1 0).toInt * (A 2 2)) + (-1 : Int) * ((m 1 2).toInt * (A 2 0)) := by rw [lp_1 (by decide)]; exact q2.1
  have s3 : (lpS (lpD m 3 2 2) (m 1) (nI 5) 3).2.toInt = (1 : Int) := by rw [lp_2 (by decide), neg64 (by rw [s2]; decide), s2]; decide
  have en : 0 + (1 : Int) * ((m 1 0).toInt * (A 2 2)) + (-1 : Int) * ((m 1 2).toInt * (A 2 0)) = d2 A 1 2 0 2 := by
    rw [w0.1, w2.1]
    unfold d2
    omega
  refine ⟨t3.trans en, ?_⟩
  rw [← en]
  exact Nat.le_trans q2.2 (by decide)
theorem lp_3_1_6 {m : Nat → Nat → Int64} {A : Nat → Nat → Int} (hA : ∀ i j : Nat, i < 3 → j < 3 → (m i j).toInt = A i j ∧ (A i j).natAbs ≤ 405) : (lpD m 3 3 1 (nI 6)).toInt = d2 A 1 2 1 2 ∧ (d2 A 1 2 1 2).natAbs ≤ 328050 := by
  rw [lpD, if_neg (by decide)]
  have s0 : (lpS (lpD m 3 2 2) (m 1) (nI 6) 0).2.toInt = 1 := (by decide : (1 : Int64).toInt = 1)
  have t0 : (lpS (lpD m 3 2 2) (m 1) (nI 6) 0).1.toInt = 0 := (by decide : (0 : Int64).toInt = 0)
  have e1 : lpS (lpD m 3 2 2) (m 1) (nI 6) 1 = lpS (lpD m 3 2 2) (m 1) (nI 6) 0 := lp_b (by decide)
  have s1 : (lpS (lpD m 3 2 2) (m 1) (nI 6) 1).2.toInt = (1 : Int) := by rw [e1]; exact s0
  have t1 : (lpS (lpD m 3 2 2) (m 1) (nI 6) 1).1.toInt = 0 := by rw [e1]; exact t0
  have m1 : (nI 6) &&& ((nI 1 <<< (nI 1 &&& 31)) ^^^ (-1)) = nI 4 := by decide
  have u1 : ((lpD m 3 2 2) ((nI 6) &&& ((nI 1 <<< (nI 1 &&& 31)) ^^^ (-1)))).toInt = A 2 2 ∧ (A 2 2).natAbs ≤ 405 := by rw [m1]; exact lp_3_2_4 hA
  have w1 := hA 1 1 (by decide) (by decide)
  have q1 := acc64 (acc := (lpS (lpD m 3 2 2) (m 1) (nI 6) 1).1) (g := (lpS (lpD m 3 2 2) (m 1) (nI 6) 1).2) (w := (m 1) 1) (u := (lpD m 3 2 2) ((nI 6) &&& ((nI 1 <<< (nI 1 &&& 31)) ^^^ (-1)))) (B := 0) (U := 405) s1 (by decide) t1 (by decide) (by rw [w1.1]; exact w1.2) u1.1 u1.2 (by decide)
  have t2 : (lpS (lpD m 3 2 2) (m 1) (nI 6) 2).1.toInt = 0 + (1 : Int) * ((m 1 1).toInt * (A 2 2)) := by rw [lp_1 (by decide)]; exact q1.1
  have s2 : (lpS (lpD m 3 2 2) (m 1) (nI 6) 2).2.toInt = (-1 : Int) := by rw [lp_2 (by decide), neg64 (by rw [s1]; decide), s1]
  have m2 : (nI 6) &&& ((nI 1 <<< (nI 2 &&& 31)) ^^^ (-1)) = nI 2 := by decide
  have u2 : ((lpD m 3 2 2) ((nI 6) &&& ((nI 1 <<< (nI 2 &&& 31)) ^^^ (-1)))).toInt = A 2 1 ∧ (A 2 1).natAbs ≤ 405 := by rw [m2]; exact lp_3_2_2 hA
  have w2 := hA 1 2 (by decide) (by decide)
  have q2 := acc64 (acc := (lpS (lpD m 3 2 2) (m 1) (nI 6) 2).1) (g := (lpS (lpD m 3 2 2) (m 1) (nI 6) 2).2) (w := (m 1) 2) (u := (lpD m 3 2 2) ((nI 6) &&& ((nI 1 <<< (nI 2 &&& 31)) ^^^ (-1)))) (B := 164025) (U := 405) s2 (by decide) t2 q1.2 (by rw [w2.1]; exact w2.2) u2.1 u2.2 (by decide)
  have t3 : (lpS (lpD m 3 2 2) (m 1) (nI 6) 3).1.toInt = 0 + (1 : Int) * ((m 1 1).toInt * (A 2 2)) + (-1 : Int) * ((m 1 2).toInt * (A 2 1)) := by rw [lp_1 (by decide)]; exact q2.1
  have s3 : (lpS (lpD m 3 2 2) (m 1) (nI 6) 3).2.toInt = (1 : Int) := by rw [lp_2 (by decide), neg64 (by rw [s2]; decide), s2]; decide
  have en : 0 + (1 : Int) * ((m 1 1).toInt * (A 2 2)) + (-1 : Int) * ((m 1 2).toInt * (A 2 1)) = d2 A 1 2 1 2 := by
    rw [w1.1, w2.1]
    unfold d2
    omega
  refine ⟨t3.trans en, ?_⟩
  rw [← en]
  exact Nat.le_trans q2.2 (by decide)
theorem lp_3_0_7 {m : Nat → Nat → Int64} {A : Nat → Nat → Int} (hA : ∀ i j : Nat, i < 3 → j < 3 → (m i j).toInt = A i j ∧ (A i j).natAbs ≤ 405) : (lpD m 3 4 0 (nI 7)).toInt = d3 A 0 1 2 0 1 2 ∧ (d3 A 0 1 2 0 1 2).natAbs ≤ 398580750 := by
  rw [lpD, if_neg (by decide)]
  have s0 : (lpS (lpD m 3 3 1) (m 0) (nI 7) 0).2.toInt = 1 := (by decide : (1 : Int64).toInt = 1)
  have t0 : (lpS (lpD m 3 3 1) (m 0) (nI 7) 0).1.toInt = 0 := (by decide : (0 : Int64).toInt = 0)
  have m0 : (nI 7) &&& ((nI 1 <<< (nI 0 &&& 31)) ^^^ (-1)) = nI 6 := by decide
  have u0 : ((lpD m 3 3 1) ((nI 7) &&& ((nI 1 <<< (nI 0 &&& 31)) ^^^ (-1)))).toInt = d2 A 1 2 1 2 ∧ (d2 A 1 2 1 2).natAbs ≤ 328050 := by rw [m0]; exact lp_3_1_6 hA
  have w0 := hA 0 0 (by decide) (by decide)
  have q0 := acc64 (acc := (lpS (lpD m 3 3 1) (m 0) (nI 7) 0).1) (g := (lpS (lpD m 3 3 1) (m 0) (nI 7) 0).2) (w := (m 0) 0) (u := (lpD m 3 3 1) ((nI 7) &&& ((nI 1 <<< (nI 0 &&& 31)) ^^^ (-1)))) (B := 0) (U := 328050) s0 (by decide) t0 (by decide) (by rw [w0.1]; exact w0.2) u0.1 u0.2 (by decide)
  have t1 : (lpS (lpD m 3 3 1) (m 0) (nI 7) 1).1.toInt = 0 + (1 : Int) * ((m 0 0).toInt * (d2 A 1 2 1 2)) := by rw [lp_1 (by decide)]; exact q0.1
  have s1 : (lpS (lpD m 3 3 1) (m 0) (nI 7) 1).2.toInt = (-1 : Int) := by rw [lp_2 (by decide), neg64 (by rw [s0]; decide), s0]
  have m1 : (nI 7) &&& ((nI 1 <<< (nI 1 &&& 31)) ^^^ (-1)) = nI 5 := by decide
  have u1 : ((lpD m 3 3 1) ((nI 7) &&& ((nI 1 <<< (nI 1 &&& 31)) ^^^ (-1)))).toInt = d2 A 1 2 0 2 ∧ (d2 A 1 2 0 2).natAbs ≤ 328050 := by rw [m1]; exact lp_3_1_5 hA
  have w1 := hA 0 1 (by decide) (by decide)
  have q1 := acc64 (acc := (lpS (lpD m 3 3 1) (m 0) (nI 7) 1).1) (g := (lpS (lpD m 3 3 1) (m 0) (nI 7) 1).2) (w := (m 0) 1) (u := (lpD m 3 3 1) ((nI 7) &&& ((nI 1 <<< (nI 1 &&& 31)) ^^^ (-1)))) (B := 132860250) (U := 328050) s1 (by decide) t1 q0.2 (by rw [w1.1]; exact w1.2) u1.1 u1.2 (by decide)
  have t2 : (lpS (lpD m 3 3 1) (m 0) (nI 7) 2).1.toInt = 0 + (1 : Int) * ((m 0 0).toInt * (d2 A 1 2 1 2)) + (-1 : Int) * ((m 0 1).toInt * (d2 A 1 2 0 2)) := by rw [lp_1 (by decide)]; exact q1.1
  have s2 : (lpS (lpD m 3 3 1) (m 0) (nI 7) 2).2.toInt = (1 : Int) := by rw [lp_2 (by decide), neg64 (by rw [s1]; decide), s1]; decide
  have m2 : (nI 7) &&& ((nI 1 <<< (nI 2 &&& 31)) ^^^ (-1)) = nI 3 := by decide
  have u2 : ((lpD m 3 3 1) ((nI 7) &&& ((nI 1 <<< (nI 2 &&& 31)) ^^^ (-1)))).toInt = d2 A 1 2 0 1 ∧ (d2 A 1 2 0 1).natAbs ≤ 328050 := by rw [m2]; exact lp_3_1_3 hA
  have w2 := hA 0 2 (by decide) (by decide)
  have q2 := acc64 (acc := (lpS (lpD m 3 3 1) (m 0) (nI 7) 2).1) (g := (lpS (lpD m 3 3 1) (m 0) (nI 7) 2).2) (w := (m 0) 2) (u := (lpD m 3 3 1) ((nI 7) &&& ((nI 1 <<< (nI 2 &&& 31)) ^^^ (-1)))) (B := 265720500) (U := 328050) s2 (by decide) t2 q1.2 (by rw [w2.1]; exact w2.2) u2.1 u2.2 (by decide)
  have t3 : (lpS (lpD m 3 3 1) (m 0) (nI 7) 3).1.toInt = 0 + (1 : Int) * ((m 0 0).toInt * (d2 A 1 2 1 2)) + (-1 : Int) * ((m 0 1).toInt * (d2 A 1 2 0 2)) + (1 : Int) * ((m 0 2).toInt * (d2 A 1 2 0 1)) := by rw [lp_1 (by decide)]; exact q2.1
  have s3 : (lpS (lpD m 3 3 1) (m 0) (nI 7) 3).2.toInt = (-1 : Int) := by rw [lp_2 (by decide), neg64 (by rw [s2]; decide), s2]
  have en : 0 + (1 : Int) * ((m 0 0).toInt * (d2 A 1 2 1 2)) + (-1 : Int) * ((m 0 1).toInt * (d2 A 1 2 0 2)) + (1 : Int) * ((m 0 2).toInt * (d2 A 1 2 0 1)) = d3 A 0 1 2 0 1 2 := by
    rw [w0.1, w1.1, w2.1]
    unfold d3
    omega
  refine ⟨t3.trans en, ?_⟩
  rw [← en]
  exact Nat.le_trans q2.2 (by decide)
theorem lp_4_3_1 {m : Nat → Nat → Int64} {A : Nat → Nat → Int} (hA : ∀ i j : Nat, i < 4 → j < 4 → (m i j).toInt = A i j ∧ (A i j).natAbs ≤ 405) : (lpD m 4 1 3 (nI 1)).toInt = A 3 0 ∧ (A 3 0).natAbs ≤ 405 := by
  rw [lpD, if_neg (by decide)]
  have s0 : (lpS (lpD m 4 0 4) (m 3) (nI 1) 0).2.toInt = 1 := (by decide : (1 : Int64).toInt = 1)
  have t0 : (lpS (lpD m 4 0 4) (m 3) (nI 1) 0).1.toInt = 0 := (by decide : (0 : Int64).toInt = 0)
  have m0 : (nI 1) &&& ((nI 1 <<< (nI 0 &&& 31)) ^^^ (-1)) = nI 0 := by decide
  have u0 : ((lpD m 4 0 4) ((nI 1) &&& ((nI 1 <<< (nI 0 &&& 31)) ^^^ (-1)))).toInt = 1 ∧ ((1 : Int)).natAbs ≤ 1 := by
    exact ⟨(by decide : (1 : Int64).toInt = 1), by decide⟩
  have w0 := hA 3 0 (by decide) (by decide)
  have q0 := acc64 (acc := (lpS (lpD m 4 0 4) (m 3) (nI 1) 0).1) (g := (lpS (lpD m 4 0 4) (m 3) (nI 1) 0).2) (w := (m 3) 0) (u := (lpD m 4 0 4) ((nI 1) &&& ((nI 1 <<< (nI 0 &&& 31)) ^^^ (-1)))) (B := 0) (U := 1) s0 (by decide) t0 (by decide) (by rw [w0.1]; exact w0.2) u0.1 u0.2 (by decide)
  have t1 : (lpS (lpD m 4 0 4) (m 3) (nI 1) 1).1.toInt = 0 + (1 : Int) * ((m 3 0).toInt * (1)) := by rw [lp_1 (by decide)]; exact q0.1
  have s1 : (lpS (lpD m 4 0 4) (m 3) (nI 1) 1).2.toInt = (-1 : Int) := by rw [lp_2 (by decide), neg64 (by rw [s0]; decide), s0]
  have e2 : lpS (lpD m 4 0 4) (m 3) (nI 1) 2 = lpS (lpD m 4 0 4) (m 3) (nI 1) 1 := lp_b (by decide)
  have s2 : (lpS (lpD m 4 0 4) (m 3) (nI 1) 2).2.toInt = (-1 : Int) := by rw [e2]; exact s1
  have t2 : (lpS (lpD m 4 0 4) (m 3) (nI 1) 2).1.toInt = 0 + (1 : Int) * ((m 3 0).toInt * (1)) := by rw [e2]; exact t1
  have e3 : lpS (lpD m 4 0 4) (m 3) (nI 1) 3 = lpS (lpD m 4 0 4) (m 3) (nI 1) 2 := lp_b (by decide)
  have s3 : (lpS (lpD m 4 0 4) (m 3) (nI 1) 3).2.toInt = (-1 : Int) := by rw [e3]; exact s2
  have t3 : (lpS (lpD m 4 0 4) (m 3) (nI 1) 3).1.toInt = 0 + (1 : Int) * ((m 3 0).toInt * (1)) := by rw [e3]; exact t2
  have e4 : lpS (lpD m 4 0 4) (m 3) (nI 1) 4 = lpS (lpD m 4 0 4) (m 3) (nI 1) 3 := lp_b (by decide)
  have s4 : (lpS (lpD m 4 0 4) (m 3) (nI 1) 4).2.toInt = (-1 : Int) := by rw [e4]; exact s3
  have t4 : (lpS (lpD m 4 0 4) (m 3) (nI 1) 4).1.toInt = 0 + (1 : Int) * ((m 3 0).toInt * (1)) := by rw [e4]; exact t3
  have en : 0 + (1 : Int) * ((m 3 0).toInt * (1)) = A 3 0 := by
    rw [w0.1]
    omega
  refine ⟨t4.trans en, ?_⟩
  rw [← en]
  exact Nat.le_trans q0.2 (by decide)
theorem lp_4_3_2 {m : Nat → Nat → Int64} {A : Nat → Nat → Int} (hA : ∀ i j : Nat, i < 4 → j < 4 → (m i j).toInt = A i j ∧ (A i j).natAbs ≤ 405) : (lpD m 4 1 3 (nI 2)).toInt = A 3 1 ∧ (A 3 1).natAbs ≤ 405 := by
  rw [lpD, if_neg (by decide)]
  have s0 : (lpS (lpD m 4 0 4) (m 3) (nI 2) 0).2.toInt = 1 := (by decide : (1 : Int64).toInt = 1)
  have t0 : (lpS (lpD m 4 0 4) (m 3) (nI 2) 0).1.toInt = 0 := (by decide : (0 : Int64).toInt = 0)
  have e1 : lpS (lpD m 4 0 4) (m 3) (nI 2) 1 = lpS (lpD m 4 0 4) (m 3) (nI 2) 0 := lp_b (by decide)
  have s1 : (lpS (lpD m 4 0 4) (m 3) (nI 2) 1).2.toInt = (1 : Int) := by rw [e1]; exact s0
  have t1 : (lpS (lpD m 4 0 4) (m 3) (nI 2) 1).1.toInt = 0 := by rw [e1]; exact t0
  have m1 : (nI 2) &&& ((nI 1 <<< (nI 1 &&& 31)) ^^^ (-1)) = nI 0 := by decide
  have u1 : ((lpD m 4 0 4) ((nI 2) &&& ((nI 1 <<< (nI 1 &&& 31)) ^^^ (-1)))).toInt = 1 ∧ ((1 : Int)).natAbs ≤ 1 := by
    exact ⟨(by decide : (1 : Int64).toInt = 1), by decide⟩
  have w1 := hA 3 1 (by decide) (by decide)
  have q1 := acc64 (acc := (lpS (lpD m 4 0 4) (m 3) (nI 2) 1).1) (g := (lpS (lpD m 4 0 4) (m 3) (nI 2) 1).2) (w := (m 3) 1) (u := (lpD m 4 0 4) ((nI 2) &&& ((nI 1 <<< (nI 1 &&& 31)) ^^^ (-1)))) (B := 0) (U := 1) s1 (by decide) t1 (by decide) (by rw [w1.1]; exact w1.2) u1.1 u1.2 (by decide)
  have t2 : (lpS (lpD m 4 0 4) (m 3) (nI 2) 2).1.toInt = 0 + (1 : Int) * ((m 3 1).toInt * (1)) := by rw [lp_1 (by decide)]; exact q1.1
  have s2 : (lpS (lpD m 4 0 4) (m 3) (nI 2) 2).2.toInt = (-1 : Int) := by rw [lp_2 (by decide), neg64 (by rw [s1]; decide), s1]
  have e3 : lpS (lpD m 4 0 4) (m 3) (nI 2) 3 = lpS (lpD m 4 0 4) (m 3) (nI 2) 2 := lp_b (by decide)
  have s3 : (lpS (lpD m 4 0 4) (m 3) (nI 2) 3).2.toInt = (-1 : Int) := by rw [e3]; exact s2
  have t3 : (lpS (lpD m 4 0 4) (m 3) (nI 2) 3).1.toInt = 0 + (1 : Int) * ((m 3 1).toInt * (1)) := by rw [e3]; exact t2
  have e4 : lpS (lpD m 4 0 4) (m 3) (nI 2) 4 = lpS (lpD m 4 0 4) (m 3) (nI 2) 3 := lp_b (by decide)
  have s4 : (lpS (lpD m 4 0 4) (m 3) (nI 2) 4).2.toInt = (-1 : Int) := by rw [e4]; exact s3
  have t4 : (lpS (lpD m 4 0 4) (m 3) (nI 2) 4).1.toInt = 0 + (1 : Int) * ((m 3 1).toInt * (1)) := by rw [e4]; exact t3
  have en : 0 + (1 : Int) * ((m 3 1).toInt * (1)) = A 3 1 := by
    rw [w1.1]
    omega
  refine ⟨t4.trans en, ?_⟩
  rw [← en]
  exact Nat.le_trans q1.2 (by decide)
theorem lp_4_3_4 {m : Nat → Nat → Int64} {A : Nat → Nat → Int} (hA : ∀ i j : Nat, i < 4 → j < 4 → (m i j).toInt = A i j ∧ (A i j).natAbs ≤ 405) : (lpD m 4 1 3 (nI 4)).toInt = A 3 2 ∧ (A 3 2).natAbs ≤ 405 := by
  rw [lpD, if_neg (by decide)]
  have s0 : (lpS (lpD m 4 0 4) (m 3) (nI 4) 0).2.toInt = 1 := (by decide : (1 : Int64).toInt = 1)
  have t0 : (lpS (lpD m 4 0 4) (m 3) (nI 4) 0).1.toInt = 0 := (by decide : (0 : Int64).toInt = 0)
  have e1 : lpS (lpD m 4 0 4) (m 3) (nI 4) 1 = lpS (lpD m 4 0 4) (m 3) (nI 4) 0 := lp_b (by decide)
  have s1 : (lpS (lpD m 4 0 4) (m 3) (nI 4) 1).2.toInt = (1 : Int) := by rw [e1]; exact s0
  have t1 : (lpS (lpD m 4 0 4) (m 3) (nI 4) 1).1.toInt = 0 := by rw [e1]; exact t0
  have e2 : lpS (lpD m 4 0 4) (m 3) (nI 4) 2 = lpS (lpD m 4 0 4) (m 3) (nI 4) 1 := lp_b (by decide)
  have s2 : (lpS (lpD m 4 0 4) (m 3) (nI 4) 2).2.toInt = (1 : Int) := by rw [e2]; exact s1
  have t2 : (lpS (lpD m 4 0 4) (m 3) (nI 4) 2).1.toInt = 0 := by rw [e2]; exact t1
  have m2 : (nI 4) &&& ((nI 1 <<< (nI 2 &&& 31)) ^^^ (-1)) = nI 0 := by decide
  have u2 : ((lpD m 4 0 4) ((nI 4) &&& ((nI 1 <<< (nI 2 &&& 31)) ^^^ (-1)))).toInt = 1 ∧ ((1 : Int)).natAbs ≤ 1 := by
    exact ⟨(by decide : (1 : Int64).toInt = 1), by decide⟩
  have w2 := hA 3 2 (by decide) (by decide)
  have q2 := acc64 (acc := (lpS (lpD m 4 0 4) (m 3) (nI 4) 2).1) (g := (lpS (lpD m 4 0 4) (m 3) (nI 4) 2).2) (w := (m 3) 2) (u := (lpD m 4 0 4) ((nI 4) &&& ((nI 1 <<< (nI 2 &&& 31)) ^^^ (-1)))) (B := 0) (U := 1) s2 (by decide) t2 (by decide) (by rw [w2.1]; exact w2.2) u2.1 u2.2 (by decide)
  have t3 : (lpS (lpD m 4 0 4) (m 3) (nI 4) 3).1.toInt = 0 + (1 : Int) * ((m 3 2).toInt * (1)) := by rw [lp_1 (by decide)]; exact q2.1
  have s3 : (lpS (lpD m 4 0 4) (m 3) (nI 4) 3).2.toInt = (-1 : Int) := by rw [lp_2 (by decide), neg64 (by rw [s2]; decide), s2]
  have e4 : lpS (lpD m 4 0 4) (m 3) (nI 4) 4 = lpS (lpD m 4 0 4) (m 3) (nI 4) 3 := lp_b (by decide)
  have s4 : (lpS (lpD m 4 0 4) (m 3) (nI 4) 4).2.toInt = (-1 : Int) := by rw [e4]; exact s3
  have t4 : (lpS (lpD m 4 0 4) (m 3) (nI 4) 4).1.toInt = 0 + (1 : Int) * ((m 3 2).toInt * (1)) := by rw [e4]; exact t3
  have en : 0 + (1 : Int) * ((m 3 2).toInt * (1)) = A 3 2 := by
    rw [w2.1]
    omega
  refine ⟨t4.trans en, ?_⟩
  rw [← en]
  exact Nat.le_trans q2.2 (by decide)
theorem lp_4_3_8 {m : Nat → Nat → Int64} {A : Nat → Nat → Int} (hA : ∀ i j : Nat, i < 4 → j < 4 → (m i j).toInt = A i j ∧ (A i j).natAbs ≤ 405) : (lpD m 4 1 3 (nI 8)).toInt = A 3 3 ∧ (A 3 3).natAbs ≤ 405 := by
  rw [lpD, if_neg (by decide)]
  have s0 : (lpS (lpD m 4 0 4) (m 3) (nI 8) 0).2.toInt = 1 := (by decide : (1 : Int64).toInt = 1)
  have t0 : (lpS (lpD m 4 0 4) (m 3) (nI 8) 0).1.toInt = 0 := (by decide : (0 : Int64).toInt = 0)
  have e1 : lpS (lpD m 4 0 4) (m 3) (nI 8) 1 = lpS (lpD m 4 0 4) (m 3) (nI 8) 0 := lp_b (by decide)
  have s1 : (lpS (lpD m 4 0 4) (m 3) (nI 8) 1).2.toInt = (1 : Int) := by rw [e1]; exact s0
  have t1 : (lpS (lpD m 4 0 4) (m 3) (nI 8) 1).1.toInt = 0 := by rw [e1]; exact t0
  have e2 : lpS (lpD m 4 0 4) (m 3) (nI 8) 2 = lpS (lpD m 4 0 4) (m 3) (nI 8) 1 := lp_b (by decide)
  have s2 : (lpS (lpD m 4 0 4) (m 3) (nI 8) 2).2.toInt = (1 : Int) := by rw [e2]; exact s1
  have t2 : (lpS (lpD m 4 0 4) (m 3) (nI 8) 2).1.toInt = 0 := by rw [e2]; exact t1
  have e3 : lpS (lpD m 4 0 4) (m 3) (nI 8) 3 = lpS (lpD m 4 0 4) (m 3) (nI 8) 2 := lp_b (by decide)
  have s3 : (lpS (lpD m 4 0 4) (m 3) (nI 8) 3).2.toInt = (1 : Int) := by rw [e3]; exact s2
  have t3 : (lpS (lpD m 4 0 4) (m 3) (nI 8) 3).1.toInt = 0 := by rw [e3]; exact t2
  have m3 : (nI 8) &&& ((nI 1 <<< (nI 3 &&& 31)) ^^^ (-1)) = nI 0 := by decide
  have u3 : ((lpD m 4 0 4) ((nI 8) &&& ((nI 1 <<< (nI 3 &&& 31)) ^^^ (-1)))).toInt = 1 ∧ ((1 : Int)).natAbs ≤ 1 := by
    exact ⟨(by decide : (1 : Int64).toInt = 1), by decide⟩
  have w3 := hA 3 3 (by decide) (by decide)
  have q3 := acc64 (acc := (lpS (lpD m 4 0 4) (m 3) (nI 8) 3).1) (g := (lpS (lpD m 4 0 4) (m 3) (nI 8) 3).2) (w := (m 3) 3) (u := (lpD m 4 0 4) ((nI 8) &&& ((nI 1 <<< (nI 3 &&& 31)) ^^^ (-1)))) (B := 0) (U := 1) s3 (by decide) t3 (by decide) (by rw [w3.1]; exact w3.2) u3.1 u3.2 (by decide)
  have t4 : (lpS (lpD m 4 0 4) (m 3) (nI 8) 4).1.toInt = 0 + (1 : Int) * ((m 3 3).toInt * (1)) := by rw [lp_1 (by decide)]; exact q3.1
  have s4 : (lpS (lpD m 4 0 4) (m 3) (nI 8) 4).2.toInt = (-1 : Int) := by rw [lp_2 (by decide), neg64 (by rw [s3]; decide), s3]
  have en : 0 + (1 : Int) * ((m 3 3).toInt * (1)) = A 3 3 := by
    rw [w3.1]
    omega
  refine ⟨t4.trans en, ?_⟩
  rw [← en]
  exact Nat.le_trans q3.2 (by decide)
theorem lp_4_2_3 {m : Nat → Nat → Int64} {A : Nat → Nat → Int} (hA : ∀ i j : Nat, i < 4 → j < 4 → (m i j).toInt = A i j ∧ (A i j).natAbs ≤ 405) : (lpD m 4 2 2 (nI 3)).toInt = d2 A 2 3 0 1 ∧ (d2 A 2 3 0 1).natAbs ≤ 328050 := by
  rw [lpD, if_neg (by decide)]
  have s0 : (lpS (lpD m 4 1 3) (m 2) (nI 3) 0).2.toInt = 1 := (by decide : (1 : Int64).toInt = 1)
  have t0 : (lpS (lpD m 4 1 3) (m 2) (nI 3) 0).1.toInt = 0 := (by decide : (0 : Int64).toInt = 0)
  have m0 : (nI 3) &&& ((nI 1 <<< (nI 0 &&& 31)) ^^^ (-1)) = nI 2 := by decide
  have u0 : ((lpD m 4 1 3) ((nI 3) &&& ((nI 1 <<< (nI 0 &&& 31)) ^^^ (-1)))).toInt = A 3 1 ∧ (A 3 1).natAbs ≤ 405 := by rw [m0]; exact lp_4_3_2 hA
  have w0 := hA 2 0 (by decide) (by decide)
  have q0 := acc64 (acc := (lpS (lpD m 4 1 3) (m 2) (nI 3) 0).1) (g := (lpS (lpD m 4 1 3) (m 2) (nI 3) 0).2) (w := (m 2) 0) (u := (lpD m 4 1 3) ((nI 3) &&& ((nI 1 <<< (nI 0 &&& 31)) ^^^ (-1)))) (B := 0) (U := 405) s0 (by decide) t0 (by decide) (by rw [w0.1]; exact w0.2) u0.1 u0.2 (by decide)
  have t1 : (lpS (lpD m 4 1 3) (m 2) (nI 3) 1).1.toInt = 0 + (1 : Int) * ((m 2 0).toInt * (A 3 1)) := by rw [lp_1 (by decide)]; exact q0.1
  have s1 : (lpS (lpD m 4 1 3) (m 2) (nI 3) 1).2.toInt = (-1 : Int) := by rw [lp_2 (by decide), neg64 (by rw [s0]; decide), s0]
  have m1 : (nI 3) &&& ((nI 1 <<< (nI 1 &&& 31)) ^^^ (-1)) = nI 1 := by decide
  have u1 : ((lpD m 4 1 3) ((nI 3) &&& ((nI 1 <<< (nI 1 &&& 31)) ^^^ (-1)))).toInt = A 3 0 ∧ (A 3 0).natAbs ≤ 405 := by rw [m1]; exact lp_4_3_1 hA
  have w1 := hA 2 1 (by decide) (by decide)
  have q1 := acc64 (acc := (lpS (lpD m 4 1 3) (m 2) (nI 3) 1).1) (g := (lpS (lpD m 4 1 3) (m 2) (nI 3) 1).2) (w := (m 2) 1) (u := (lpD m 4 1 3) ((nI 3) &&& ((nI 1 <<< (nI 1 &&& 31)) ^^^ (-1)))) (B := 164025) (U := 405) s1 (by decide) t1 q0.2 (by rw [w1.1]; exact w1.2) u1.1 u1.2 (by decide)
  have t2 : (lpS (lpD m 4 1 3) (m 2) (nI 3) 2).1.toInt = 0 + (1 : Int) * ((m 2 0).toInt * (A 3 1)) + (-1 : Int) * ((m 2 1).toInt * (A 3 0)) := by rw [lp_1 (by decide)]; exact q1.1
  have s2 : (lpS (lpD m 4 1 3) (m 2) (nI 3) 2).2.toInt = (1 : Int) := by rw [lp_2 (by decide), neg64 (by rw [s1]; decide), s1]; decide
  have e3 : lpS (lpD m 4 1 3) (m 2) (nI 3) 3 = lpS (lpD m 4 1 3) (m 2) (nI 3) 2 := lp_b (by decide)
  have s3 : (lpS (lpD m 4 1 3) (m 2) (nI 3) 3).2.toInt = (1 : Int) := by rw [e3]; exact s2
  have t3 : (lpS (lpD m 4 1 3) (m 2) (nI 3) 3).1.toInt = 0 + (1 : Int) * ((m 2 0).toInt * (A 3 1)) + (-1 : Int) * ((m 2 1).toInt * (A 3 0)) := by rw [e3]; exact t2
  have e4 : lpS (lpD m 4 1 3) (m 2) (nI 3) 4 = lpS (lpD m 4 1 3) (m 2) (nI 3) 3 := lp_b (by decide)
  have s4 : (lpS (lpD m 4 1 3) (m 2) (nI 3) 4).2.toInt = (1 : Int) := by rw [e4]; exact s3
  have t4 : (lpS (lpD m 4 1 3) (m 2) (nI 3) 4).1.toInt = 0 + (1 : Int) * ((m 2 0).toInt * (A 3 1)) + (-1 : Int) * ((m 2 1).toInt * (A 3 0)) := by rw [e4]; exact t3
  have en : 0 + (1 : Int) * ((m 2 0).toInt * (A 3 1)) + (-1 : Int) * ((m 2 1).toInt * (A 3 0)) = d2 A 2 3 0 1 := by
    rw [w0.1, w1.1]
    unfold d2
    omega
  refine ⟨t4.trans en, ?_⟩
  rw [← en]
  exact Nat.le_trans q1.2 (by decide)
theorem lp_4_2_5 {m : Nat → Nat → Int64} {A : Nat → Nat → Int} (hA : ∀ i j : Nat, i < 4 → j < 4 → (m i j).toInt = A i j ∧ (A i j).natAbs ≤ 405) : (lpD m 4 2 2 (nI 5)).toInt = d2 A 2 3 0 2 ∧ (d2 A 2 3 0 2).natAbs ≤ 328050 := by
  rw [lpD, if_neg (by decide)]
  have s0 : (lpS (lpD m 4 1 3) (m 2) (nI 5) 0).2.toInt = 1 := (by decide : (1 : Int64).toInt = 1)
  have t0 : (lpS (lpD m 4 1 3) (m 2) (nI 5) 0).1.toInt = 0 := (by decide : (0 : Int64).toInt = 0)
  have m0 : (nI 5) &&& ((nI 1 <<< (nI 0 &&& 31)) ^^^ (-1)) = nI 4 := by decide
  have u0 : ((lpD m 4 1 3) ((nI 5) &&& ((nI 1 <<< (nI 0 &&& 31)) ^^^ (-1)))).toInt = A 3 2 ∧ (A 3 2).natAbs ≤ 405 := by rw [m0]; exact lp_4_3_4 hA
  have w0 := hA 2 0 (by decide) (by decide)
  have q0 := acc64 (acc := (lpS (lpD m 4 1 3) (m 2) (nI 5) 0).1) (g := (lpS (lpD m 4 1 3) (m 2) (nI 5) 0).2) (w := (m 2) 0) (u := (lpD m 4 1 3) ((nI 5) &&& ((nI 1 <<< (nI 0 &&& 31)) ^^^ (-1)))) (B := 0) (U := 405) s0 (by decide) t0 (by decide) (by rw [w0.1]; exact w0.2) u0.1 u0.2 (by decide)
  have t1 : (lpS (lpD m 4 1 3) (m 2) (nI 5) 1).1.toInt = 0 + (1 : Int) * ((m 2 0).toInt * (A 3 2)) := by rw [lp_1 (by decide)]; exact q0.1
  have s1 : (lpS (lpD m 4 1 3) (m 2) (nI 5) 1).2.toInt = (-1 : Int) := by rw [lp_2 (by decide), neg64 (by rw [s0]; decide), s0]
  have e2 : lpS (lpD m 4 1 3) (m 2) (nI 5) 2 = lpS (lpD m 4 1 3) (m 2) (nI 5) 1 := lp_b (by decide)
  have s2 : (lpS (lpD m 4 1 3) (m 2) (nI 5) 2).2.toInt = (-1 : Int) := by rw [e2]; exact s1
  have t2 : (lpS (lpD m 4 1 3) (m 2) (nI 5) 2).1.toInt = 0 + (1 : Int) * ((m 2 0).toInt * (A 3 2)) := by rw [e2]; exact t1
  have m2 : (nI 5) &&& ((nI 1 <<< (nI 2 &&& 31)) ^^^ (-1)) = nI 1 := by decide
  have u2 : ((lpD m 4 1 3) ((nI 5) &&& ((nI 1 <<< (nI 2 &&& 31)) ^^^ (-1)))).toInt = A 3 0 ∧ (A 3 0).natAbs ≤ 405 := by rw [m2]; exact lp_4_3_1 hA
  have w2 := hA 2 2 (by decide) (by decide)
  have q2 := acc64 (acc := (lpS (lpD m 4 1 3) (m 2) (nI 5) 2).1) (g := (lpS (lpD m 4 1 3) (m 2) (nI 5) 2).2) (w := (m 2) 2) (u := (lpD m 4 1 3) ((nI 5) &&& ((nI 1 <<< (nI 2 &&& 31)) ^^^ (-1)))) (B := 164025) (U := 405) s2 (by decide) t2 q0.2 (by rw [w2.1]; exact w2.2) u2.1 u2.2 (by decide)
  have t3 : (lpS (lpD m 4 1 3) (m 2) (nI 5) 3).1.toInt = 0 + (1 : Int) * ((m 2 0).toInt * (A 3 2)) + (-1 : Int) * ((m 2 2).toInt * (A 3 0)) := by rw [lp_1 (by decide)]; exact q2.1
  have s3 : (lpS (lpD m 4 1 3) (m 2) (nI 5) 3).2.toInt = (1 : Int) := by rw [lp_2 (by decide), neg64 (by rw [s2]; decide), s2]; decide
  have e4 : lpS (lpD m 4 1 3) (m 2) (nI 5) 4 = lpS (lpD m 4 1 3) (m 2) (nI 5) 3 := lp_b (by decide)
  have s4 : (lpS (lpD m 4 1 3) (m 2) (nI 5) 4).2.toInt = (1 : Int) := by rw [e4]; exact s3
  have t4 : (lpS (lpD m 4 1 3) (m 2) (nI 5) 4).1.toInt = 0 + (1 : Int) * ((m 2 0).toInt * (A 3 2)) + (-1 : Int) * ((m 2 2).toInt * (A 3 0)) := by rw [e4]; exact t3
  have en : 0 + (1 : Int) * ((m 2 0).toInt * (A 3 2)) + (-1 : Int) * ((m 2 2).toInt * (A 3 0)) = d2 A 2 3 0 2 := by
    rw [w0.1, w2.1]
    unfold d2
    omega
  refine ⟨t4.trans en, ?_⟩
  rw [← en]
  exact Nat.le_trans q2.2 (by decide)
theorem lp_4_2_6 {m : Nat → Nat → Int64} {A : Nat → Nat → Int} (hA : ∀ i j : Nat, i < 4 → j < 4 → (m i j).toInt = A i j ∧ (A i j).natAbs ≤ 405) : (lpD m 4 2 2 (nI 6)).toInt = d2 A 2 3 1 2 ∧ (d2 A 2 3 1 2).natAbs ≤ 328050 := by
  rw [lpD, if_neg (by decide)]
  have s0 : (lpS (lpD m 4 1 3) (m 2) (nI 6) 0).2.toInt = 1 := (by decide : (1 : Int64).toInt = 1)
  have t0 : (lpS (lpD m 4 1 3) (m 2) (nI 6) 0).1.toInt = 0 := (by decide : (0 : Int64).toInt = 0)
  have e1 : lpS (lpD m 4 1 3) (m 2) (nI 6) 1 = lpS (lpD m 4 1 3) (m 2) (nI 6) 0 := lp_b (by decide)
  have s1 : (lpS (lpD m 4 1 3) (m 2) (nI 6) 1).2.toInt = (1 : Int) := by rw [e1]; exact s0
  have t1 : (lpS (lpD m 4 1 3) (m 2) (nI 6) 1).1.toInt = 0 := by rw [e1]; exact t0
  have m1 : (nI 6) &&& ((nI 1 <<< (nI 1 &&& 31)) ^^^ (-1)) = nI 4 := by decide
  have u1 : ((lpD m 4 1 3) ((nI 6) &&& ((nI 1 <<< (nI 1 &&& 31)) ^^^ (-1)))).toInt = A 3 2 ∧ (A 3 2).natAbs ≤ 405 := by rw [m1]; exact lp_4_3_4 hA
  have w1 := hA 2 1 (by decide) (by decide)
  have q1 := acc64 (acc := (lpS (lpD m 4 1 3) (m 2) (nI 6) 1).1) (g := (lpS (lpD m 4 1 3) (m 2) (nI 6) 1).2) (w := (m 2) 1) (u := (lpD m 4 1 3) ((nI 6) &&& ((nI 1 <<< (nI 1 &&& 31)) ^^^ (-1)))) (B := 0) (U := 405) s1 (by decide) t1 (by decide) (by rw [w1.1]; exact w1.2) u1.1 u1.2 (by decide)
  have t2 : (lpS (lpD m 4 1 3) (m 2) (nI 6) 2).1.toInt = 0 + (1 : Int) * ((m 2 1).toInt * (A 3 2)) := by rw [lp_1 (by decide)]; exact q1.1
  have s2 : (lpS (lpD m 4 1 3) (m 2) (nI 6) 2).2.toInt = (-1 : Int) := by rw [lp_2 (by decide), neg64 (by rw [s1]; decide), s1]
  have m2 : (nI 6) &&& ((nI 1 <<< (nI 2 &&& 31)) ^^^ (-1)) = nI 2 := by decide
  have u2 : ((lpD m 4 1 3) ((nI 6) &&& ((nI 1 <<< (nI 2 &&& 31)) ^^^ (-1)))).toInt = A 3 1 ∧ (A 3 1).natAbs ≤ 405 := by rw [m2]; exact lp_4_3_2 hA
  have w2 := hA 2 2 (by decide) (by decide)
  have q2 := acc64 (acc := (lpS (lpD m 4 1 3) (m 2) (nI 6) 2).1) (g := (lpS (lpD m 4 1 3) (m 2) (nI 6) 2).2) (w := (m 2) 2) (u := (lpD m 4 1 3) ((nI 6) &&& ((nI 1 <<< (nI 2 &&& 31)) ^^^ (-1)))) (B := 164025) (U := 405) s2 (by decide) t2 q1.2 (by rw [w2.1]; exact w2.2) u2.1 u2.2 (by decide)
  have t3 : (lpS (lpD m 4 1 3) (m 2) (nI 6) 3).1.toInt = 0 + (1 : Int) * ((m 2 1).toInt * (A 3 2)) + (-1 : Int) * ((m 2 2).toInt * (A 3 1)) := by rw [lp_1 (by decide)]; exact q2.1
  have s3 : (lpS (lpD m 4 1 3) (m 2) (nI 6) 3).2.toInt = (1 : Int) := by rw [lp_2 (by decide), neg64 (by rw [s2]; decide), s2]; decide
  have e4 : lpS (lpD m 4 1 3) (m 2) (nI 6) 4 = lpS (lpD m 4 1 3) (m 2) (nI 6) 3 := lp_b (by decide)
  have s4 : (lpS (lpD m 4 1 3) (m 2) (nI 6) 4).2.toInt = (1 : Int) := by rw [e4]; exact s3
  have t4 : (lpS (lpD m 4 1 3) (m 2) (nI 6) 4).1.toInt = 0 + (1 : Int) * ((m 2 1).toInt * (A 3 2)) + (-1 : Int) * ((m 2 2).toInt * (A 3 1)) := by rw [e4]; exact t3
  have en : 0 + (1 : Int) * ((m 2 1).toInt * (A 3 2)) + (-1 : Int) * ((m 2 2).toInt * (A 3 1)) = d2 A 2 3 1 2 := by
    rw [w1.1, w2.1]
    unfold d2
    omega
  refine ⟨t4.trans en, ?_⟩
  rw [← en]
  exact Nat.le_trans q2.2 (by decide)
theorem lp_4_2_9 {m : Nat → Nat → Int64} {A : Nat → Nat → Int} (hA : ∀ i j : Nat, i < 4 → j < 4 → (m i j).toInt = A i j ∧ (A i j).natAbs ≤ 405) : (lpD m 4 2 2 (nI 9)).toInt = d2 A 2 3 0 3 ∧ (d2 A 2 3 0 3).natAbs ≤ 328050 := by
  rw [lpD, if_neg (by decide)]
  have s0 : (lpS (lpD m 4 1 3) (m 2) (nI 9) 0).2.toInt = 1 := (by decide : (1 : Int64).toInt = 1)
  have t0 : (lpS (lpD m 4 1 3) (m 2) (nI 9) 0).1.toInt = 0 := (by decide : (0 : Int64).toInt = 0)
  have m0 : (nI 9) &&& ((nI 1 <<< (nI 0 &&& 31)) ^^^ (-1)) = nI 8 := by decide
  have u0 : ((lpD m 4 1 3) ((nI 9) &&& ((nI 1 <<< (nI 0 &&& 31)) ^^^ (-1)))).toInt = A 3 3 ∧ (A 3 3).natAbs ≤ 405 := by rw [m0]; exact lp_4_3_8 hA
  have w0 := hA 2 0 (by decide) (by decide)
  have q0 := acc64 (acc := (lpS (lpD m 4 1 3) (m 2) (nI 9) 0).1) (g := (lpS (lpD m 4 1 3) (m 2) (nI 9) 0).2) (w := (m 2) 0) (u := (lpD m 4 1 3) ((nI 9) &&& ((nI 1 <<< (nI 0 &&& 31)) ^^^ (-1)))) (B := 0) (U := 405) s0 (by decide) t0 (by decide) (by rw [w0.1]; exact w0.2) u0.1 u0.2 (by decide)
  have t1 : (lpS (lpD m 4 1 3) (m 2) (nI 9) 1).1.toInt = 0 + (1 : Int) * ((m 2 0).toInt * (A 3 3)) := by rw [lp_1 (by decide)]; exact q0.1
  have s1 : (lpS (lpD m 4 1 3) (m 2) (nI 9) 1).2.toInt = (-1 : Int) := by rw [lp_2 (by decide), neg64 (by rw [s0]; decide), s0]
  have e2 : lpS (lpD m 4 1 3) (m 2) (nI 9) 2 = lpS (lpD m 4 1 3) (m 2) (nI 9) 1 := lp_b (by decide)
  have s2 : (lpS (lpD m 4 1 3) (m 2) (nI 9) 2).2.toInt = (-1 : Int) := by rw [e2]; exact s1
  have t2 : (lpS (lpD m 4 1 3) (m 2) (nI 9) 2).1.toInt = 0 + (1 : Int) * ((m 2 0).toInt * (A 3 3)) := by rw [e2]; exact t1
  have e3 : lpS (lpD m 4 1 3) (m 2) (nI 9) 3 = lpS (lpD m 4 1 3) (m 2) (nI 9) 2 := lp_b (by decide)
  have s3 : (lpS (lpD m 4 1 3) (m 2) (nI 9) 3).2.toInt = (-1 : Int) := by rw [e3]; exact s2
  have t3 : (lpS (lpD m 4 1 3) (m 2) (nI 9) 3).1.toInt = 0 + (1 : Int) * ((m 2 0).toInt * (A 3 3)) := by rw [e3]; exact t2
  have m3 : (nI 9) &&& ((nI 1 <<< (nI 3 &&& 31)) ^^^ (-1)) = nI 1 := by decide
  have u3 : ((lpD m 4 1 3) ((nI 9) &&& ((nI 1 <<< (nI 3 &&& 31)) ^^^ (-1)))).toInt = A 3 0 ∧ (A 3 0).natAbs ≤ 405 := by rw [m3]; exact lp_4_3_1 hA
  have w3 := hA 2 3 (by decide) (by decide)
  have q3 := acc64 (acc := (lpS (lpD m 4 1 3) (m 2) (nI 9) 3).1) (g := (lpS (lpD m 4 1 3) (m 2) (nI 9) 3).2) (w := (m 2) 3) (u := (lpD m 4 1 3) ((nI 9) &&& ((nI 1 <<< (nI 3 &&& 31)) ^^^ (-1)))) (B := 164025) (U := 405) s3 (by decide) t3 q0.2 (by rw [w3.1]; exact w3.2) u3.1 u3.2 (by decide)
  have t4 : (lpS (lpD m 4 1 3) (m 2) (nI 9) 4).1.toInt = 0 + (1 : Int) * ((m 2 0).toInt * (A 3 3)) + (-1 : Int) * ((m 2 3).toInt * (A 3 0)) := by rw [lp_1 (by decide)]; exact q3.1
  have s4 : (lpS (lpD m 4 1 3) (m 2) (nI 9) 4).2.toInt = (1 : Int) := by rw [lp_2 (by decide), neg64 (by rw [s3]; decide), s3]; decide
  have en : 0 + (1 : Int) * ((m 2 0).toInt * (A 3 3)) + (-1 : Int) * ((m 2 3).toInt * (A 3 0)) = d2 A 2 3 0 3 := by
    rw [w0.1, w3.1]
    unfold d2
    omega
  refine ⟨t4.trans en, ?_⟩
  rw [← en]
  exact Nat.le_trans q3.2 (by decide)
theorem lp_4_2_10 {m : Nat → Nat → Int64} {A : Nat → Nat → Int} (hA : ∀ i j : Nat, i < 4 → j < 4 → (m i j).toInt = A i j ∧ (A i j).natAbs ≤ 405) : (lpD m 4 2 2 (nI 10)).toInt = d2 A 2 3 1 3 ∧ (d2 A 2 3 1 3).natAbs ≤ 328050 := by
  rw [lpD, if_neg (by decide)]
  have s0 : (lpS (lpD m 4 1 3) (m 2) (nI 10) 0).2.toInt = 1 := (by decide : (1 : Int64).toInt = 1)
  have t0 : (lpS (lpD m 4 1 3) (m 2) (nI 10) 0).1.toInt = 0 := (by decide : (0 : Int64).toInt = 0)
  have e1 : lpS (lpD m 4 1 3) (m 2) (nI 10) 1 = lpS (lpD m 4 1 3) (m 2) (nI 10) 0 := lp_b (by decide)
  have s1 : (lpS (lpD m 4 1 3) (m 2) (nI 10) 1).2.toInt = (1 : Int) := by rw [e1]; exact s0
  have t1 : (lpS (lpD m 4 1 3) (m 2) (nI 10) 1).1.toInt = 0 := by rw [e1]; exact t0
  have m1 : (nI 10) &&& ((nI 1 <<< (nI 1 &&& 31)) ^^^ (-1)) = nI 8 := by decide
  have u1 : ((lpD m 4 1 3) ((nI 10) &&& ((nI 1 <<< (nI 1 &&& 31)) ^^^ (-1)))).toInt = A 3 3 ∧ (A 3 3).natAbs ≤ 405 := by rw [m1]; exact lp_4_3_8 hA
  have w1 := hA 2 1 (by decide) (by decide)
  have q1 := acc64 (acc := (lpS (lpD m 4 1 3) (m 2) (nI 10) 1).1) (g := (lpS (lpD m 4 1 3) (m 2) (nI 10) 1).2) (w := (m 2) 1) (u := (lpD m 4 1 3) ((nI 10) &&& ((nI 1 <<< (nI 1 &&& 31)) ^^^ (-1)))) (B := 0) (U := 405) s1 (by decide) t1 (by decide) (by rw [w1.1]; exact w1.2) u1.1 u1.2 (by decide)
  have t2 : (lpS (lpD m 4 1 3) (m 2) (nI 10) 2).1.toInt = 0 + (1 : Int) * ((m 2 1).toInt * (A 3 3)) := by rw [lp_1 (by decide)]; exact q1.1
  have s2 : (lpS (lpD m 4 1 3) (m 2) (nI 10) 2).2.toInt = (-1 : Int) := by rw [lp_2 (by decide), neg64 (by rw [s1]; decide), s1]
  have e3 : lpS (lpD m 4 1 3) (m 2) (nI 10) 3 = lpS (lpD m 4 1 3) (m 2) (nI 10) 2 := lp_b (by decide)
  have s3 : (lpS (lpD m 4 1 3) (m 2) (nI 10) 3).2.toInt = (-1 : Int) := by rw [e3]; exact s2
  have t3 : (lpS (lpD m 4 1 3) (m 2) (nI 10) 3).1.toInt = 0 + (1 : Int) * ((m 2 1).toInt * (A 3 3)) := by rw [e3]; exact t2
  have m3 : (nI 10) &&& ((nI 1 <<< (nI 3 &&& 31)) ^^^ (-1)) = nI 2 := by decide
  have u3 : ((lpD m 4 1 3) ((nI 10) &&& ((nI 1 <<< (nI 3 &&& 31)) ^^^ (-1)))).toInt = A 3 1 ∧ (A 3 1).natAbs ≤ 405 := by rw [m3]; exact lp_4_3_2 hA
  have w3 := hA 2 3 (by decide) (by decide)
  have q3 := acc64 (acc := (lpS (lpD m 4 1 3) (m 2) (nI 10) 3).1) (g := (lpS (lpD m 4 1 3) (m 2) (nI 10) 3).2) (w := (m 2) 3) (u := (lpD m 4 1 3) ((nI 10) &&& ((nI 1 <<< (nI 3 &&& 31)) ^^^ (-1)))) (B := 164025) (U := 405) s3 (by decide) t3 q1.2 (by rw [w3.1]; exact w3.2) u3.1 u3.2 (by decide)
  have t4 : (lpS (lpD m 4 1 3) (m 2) (nI 10) 4).1.toInt = 0 + (1 : Int) * ((m 2 1).toInt * (A 3 3)) + (-1 : Int) * ((m 2 3).toInt * (A 3 1)) := by rw [lp_1 (by decide)]; exact q3.1
  have s4 : (lpS (lpD m 4 1 3) (m 2) (nI 10) 4).2.toInt = (1 : Int) := by rw [lp_2 (by decide), neg64 (by rw [s3]; decide), s3]; decide
  have en : 0 + (1 : Int) * ((m 2 1).toInt * (A 3 3)) + (-1 : Int) * ((m 2 3).toInt * (A 3 1)) = d2 A 2 3 1 3 := by
    rw [w1.1, w3.1]
    unfold d2
    omega
  refine ⟨t4.trans en, ?_⟩
  rw [← en]
  exact Nat.le_trans q3.2 (by decide)
theorem lp_4_2_12 {m : Nat → Nat → Int64} {A : Nat → Nat → Int} (hA : ∀ i j : Nat, i < 4 → j < 4 → (m i j).toInt = A i j ∧ (A i j).natAbs ≤ 405) : (lpD m 4 2 2 (nI 12)).toInt = d2 A 2 3 2 3 ∧ (d2 A 2 3 2 3).natAbs ≤ 328050 := by
  rw [lpD, if_neg (by decide)]
  have s0 : (lpS (lpD m 4 1 3) (m 2) (nI 12) 0).2.toInt = 1 := (by decide : (1 : Int64).toInt = 1)
  have t0 : (lpS (lpD m 4 1 3) (m 2) (nI 12) 0).1.toInt = 0 := (by decide : (0 : Int64).toInt = 0)
  have e1 : lpS (lpD m 4 1 3) (m 2) (nI 12) 1 = lpS (lpD m 4 1 3) (m 2) (nI 12) 0 := lp_b (by decide)
  have s1 : (lpS (lpD m 4 1 3) (m 2) (nI 12) 1).2.toInt = (1 : Int) := by rw [e1]; exact s0
  have t1 : (lpS (lpD m 4 1 3) (m 2) (nI 12) 1).1.toInt = 0 := by rw [e1]; exact t0
  have e2 : lpS (lpD m 4 1 3) (m 2) (nI 12) 2 = lpS (lpD m 4 1 3) (m 2) (nI 12) 1 := lp_b (by decide)
  have s2 : (lpS (lpD m 4 1 3) (m 2) (nI 12) 2).2.toInt = (1 : Int) := by rw [e2]; exact s1
  have t2 : (lpS (lpD m 4 1 3) (m 2) (nI 12) 2).1.toInt = 0 := by rw [e2]; exact t1
  have m2 : (nI 12) &&& ((nI 1 <<< (nI 2 &&& 31)) ^^^ (-1)) = nI 8 := by decide
  have u2 : ((lpD m 4 1 3) ((nI 12) &&& ((nI 1 <<< (nI 2 &&& 31)) ^^^ (-1)))).toInt = A 3 3 ∧ (A 3 3).natAbs ≤ 405 := by rw [m2]; exact lp_4_3_8 hA
  have w2 := hA 2 2 (by decide) (by decide)
  have q2 := acc64 (acc := (lpS (lpD m 4 1 3) (m 2) (nI 12) 2).1) (g := (lpS (lpD m 4 1 3) (m 2) (nI 12) 2).2) (w := (m 2) 2) (u := (lpD m 4 1 3) ((nI 12) &&& ((nI 1 <<< (nI 2 &&& 31)) ^^^ (-1)))) (B := 0) (U := 405) s2 (by decide) t2 (by decide) (by rw [w2.1]; exact w2.2) u2.1 u2.2 (by decide)
  have t3 : (lpS (lpD m 4 1 3) (m 2) (nI 12) 3).1.toInt = 0 + (1 : Int) * ((m 2 2).toInt * (A 3 3)) := by rw [lp_1 (by decide)]; exact q2.1
  have s3 : (lpS (lpD m 4 1 3) (m 2) (nI 12) 3).2.toInt = (-1 : Int) := by rw [lp_2 (by decide), neg64 (by rw [s2]; decide), s2]
  have m3 : (nI 12) &&& ((nI 1 <<< (nI 3 &&& 31)) ^^^ (-1)) = nI 4 := by decide
  have u3 : ((lpD m 4 1 3) ((nI 12) &&& ((nI 1 <<< (nI 3 &&& 31)) ^^^ (-1)))).toInt = A 3 2 ∧ (A 3 2).natAbs ≤ 405 := by rw [m3]; exact lp_4_3_4 hA
  have w3 := hA 2 3 (by decide) (by decide)
  have q3 := acc64 (acc := (lpS (lpD m 4 1 3) (m 2) (nI 12) 3).1) (g := (lpS (lpD m 4 1 3) (m 2) (nI 12) 3).2) (w := (m 2) 3) (u := (lpD m 4 1 3) ((nI 12) &&& ((nI 1 <<< (nI 3 &&& 31)) ^^^ (-1)))) (B := 164025) (U := 405) s3 (by decide) t3 q2.2 (by rw [w3.1]; exact w3.2) u3.1 u3.2 (by decide)
  have t4 : (lpS (lpD m 4 1 3) (m 2) (nI 12) 4).1.toInt = 0 + (1 : Int) * ((m 2 2).toInt * (A 3 3)) + (-1 : Int) * ((m 2 3).toInt * (A 3 2)) := by rw [lp_1 (by decide)]; exact q3.1
  have s4 : (lpS (lpD m 4 1 3) (m 2) (nI 12) 4).2.toInt = (1 : Int) := by rw [lp_2 (by decide), neg64 (by rw [s3]; decide), s3]; decide
  have en : 0 + (1 : Int) * ((m 2 2).toInt * (A 3 3)) + (-1 : Int) * ((m 2 3).toInt * (A 3 2)) = d2 A 2 3 2 3 := by
    rw [w2.1, w3.1]
    unfold d2
    omega
  refine ⟨t4.trans en, ?_⟩
  rw [← en]
  exact Nat.le_trans q3.2 (by decide)
theorem lp_4_1_7 {m : Nat → Nat → Int64} {A : Nat → Nat → Int} (hA : ∀ i j : Nat, i < 4 → j < 4 → (m i j).toInt = A i j ∧ (A i j).natAbs ≤ 405) : (lpD m 4 3 1 (nI 7)).toInt = d3 A 1 2 3 0 1 2 ∧ (d3 A 1 2 3 0 1 2).natAbs ≤ 398580750 := by
  rw [lpD, if_neg (by decide)]
  have s0 : (lpS (lpD m 4 2 2) (m 1) (nI 7) 0).2.toInt = 1 := (by decide : (1 : Int64).toInt = 1)
  have t0 : (lpS (lpD m 4 2 2) (m 1) (nI 7) 0).1.toInt = 0 := (by decide : (0 : Int64).toInt = 0)
  have m0 : (nI 7) &&& ((nI 1 <<< (nI 0 &&& 31)) ^^^ (-1)) = nI 6 := by decide
  have u0 : ((lpD m 4 2 2) ((nI 7) &&& ((nI 1 <<< (nI 0 &&& 31)) ^^^ (-1)))).toInt = d2 A 2 3 1 2 ∧ (d2 A 2 3 1 2).natAbs ≤ 328050 := by rw [m0]; exact lp_4_2_6 hA
  have w0 := hA 1 0 (by decide) (by decide)
  have q0 := acc64 (acc := (lpS (lpD m 4 2 2) (m 1) (nI 7) 0).1) (g := (lpS (lpD m 4 2 2) (m 1) (nI 7) 0).2) (w := (m 1) 0) (u := (lpD m 4 2 2) ((nI 7) &&& ((nI 1 <<< (nI 0 &&& 31)) ^^^ (-1)))) (B := 0) (U := 328050) s0 (by decide) t0 (by decide) (by rw [w0.1]; exact w0.2) u0.1 u0.2 (by decide)
  have t1 : (lpS (lpD m 4 2 2) (m 1) (nI 7) 1).1.toInt = 0 + (1 : Int) * ((m 1 0).toInt * (d2 A 2 3 1 2)) := by rw [lp_1 (by decide)]; exact q0.1
  have s1 : (lpS (lpD m 4 2 2) (m 1) (nI 7) 1).2.toInt = (-1 : Int) := by rw [lp_2 (by decide), neg64 (by rw [s0]; decide), s0]
  have m1 : (nI 7) &&& ((nI 1 <<< (nI 1 &&& 31)) ^^^ (-1)) = nI 5 := by decide
  have u1 : ((lpD m 4 2 2) ((nI 7) &&& ((nI 1 <<< (nI 1 &&& 31)) ^^^ (-1)))).toInt = d2 A 2 3 0 2 ∧ (d2 A 2 3 0 2).natAbs ≤ 328050 := by rw [m1]; exact lp_4_2_5 hA
  have w1 := hA 1 1 (by decide) (by decide)
  have q1 := acc64 (acc := (lpS (lpD m 4 2 2) (m 1) (nI 7) 1).1) (g := (lpS (lpD m 4 2 2) (m 1) (nI 7) 1).2) (w := (m 1) 1) (u := (lpD m 4 2 2) ((nI 7) &&& ((nI 1 <<< (nI 1 &&& 31)) ^^^ (-1)))) (B := 132860250) (U := 328050) s1 (by decide) t1 q0.2 (by rw [w1.1]; exact w1.2) u1.1 u1.2 (by decide)
  have t2 : (lpS (lpD m 4 2 2) (m 1) (nI 7) 2).1.toInt = 0 + (1 : Int) * ((m 1 0).toInt * (d2 A 2 3 1 2)) + (-1 : Int) * ((m 1 1).toInt * (d2 A 2 3 0 2)) := by rw [lp_1 (by decide)]; exact q1.1
  have s2 : (lpS (lpD m 4 2 2) (m 1) (nI 7) 2).2.toInt = (1 : Int) := by rw [lp_2 (by decide), neg64 (by rw [s1]; decide), s1]; decide
  have m2 : (nI 7) &&& ((nI 1 <<< (nI 2 &&& 31)) ^^^ (-1)) = nI 3 := by decide
  have u2 : ((lpD m 4 2 2) ((nI 7) &&& ((nI 1 <<< (nI 2 &&& 31)) ^^^ (-1)))).toInt = d2 A 2 3 0 1 ∧ (d2 A 2 3 0 1).natAbs ≤ 328050 := by rw [m2]; exact lp_4_2_3 hA
  have w2 := hA 1 2 (by decide) (by decide)
  have q2 := acc64 (acc := (lpS (lpD m 4 2 2) (m 1) (nI 7) 2).1) (g := (lpS (lpD m 4 2 2) (m 1) (nI 7) 2).2) (w := (m 1) 2) (u := (lpD m 4 2 2) ((nI 7) &&& ((nI 1 <<< (nI 2 &&& 31)) ^^^ (-1)))) (B := 265720500) (U := 328050) s2 (by decide) t2 q1.2 (by rw [w2.1]; exact w2.2) u2.1 u2.2 (by decide)
  have t3 : (lpS (lpD m 4 2 2) (m 1) (nI 7) 3).1.toInt = 0 + (1 : Int) * ((m 1 0).toInt * (d2 A 2 3 1 2)) + (-1 : Int) * ((m 1 1).toInt * (d2 A 2 3 0 2)) + (1 : Int) * ((m 1 2).toInt * (d2 A 2 3 0 1)) := by rw [lp_1 (by decide)]; exact q2.1
  have s3 : (lpS (lpD m 4 2 2) (m 1) (nI 7) 3).2.toInt = (-1 : Int) := by rw [lp_2 (by decide), neg64 (by rw [s2]; decide), s2]
  have e4 : lpS (lpD m 4 2 2) (m 1) (nI 7) 4 = lpS (lpD m 4 2 2) (m 1) (nI 7) 3 := lp_b (by decide)
  have s4 : (lpS (lpD m 4 2 2) (m 1) (nI 7) 4).2.toInt = (-1 : Int) := by rw [e4]; exact s3
  have t4 : (lpS (lpD m 4 2 2) (m 1) (nI 7) 4).1.toInt = 0 + (1 : Int) * ((m 1 0).toInt * (d2 A 2 3 1 2)) + (-1 : Int) * ((m 1 1).toInt * (d2 A 2 3 0 2)) + (1 : Int) * ((m 1 2).toInt * (d2 A 2 3 0 1)) := by rw [e4]; exact t3
  have en : 0 + (1 : Int) * ((m 1 0).toInt * (d2 A 2 3 1 2)) + (-1 : Int) * ((m 1 1).toInt * (d2 A 2 3 0 2)) + (1 : Int) * ((m 1 2).toInt * (d2 A 2 3 0 1)) = d3 A 1 2 3 0 1 2 := by
    rw [w0.1, w1.1, w2.1]
    unfold d3
    omega
  refine ⟨t4.trans en, ?_⟩
  rw [← en]
  exact Nat.le_trans q2.2 (by decide)
theorem lp_4_1_11 {m : Nat → Nat → Int64} {A : Nat → Nat → Int} (hA : ∀ i j : Nat, i < 4 → j < 4 → (m i j).toInt = A i j ∧ (A i j).natAbs ≤ 405) : (lpD m 4 3 1 (nI 11)).toInt = d3 A 1 2 3 0 1 3 ∧ (d3 A 1 2 3 0 1 3).natAbs ≤ 398580750 := by
  rw [lpD, if_neg (by decide)]
  have s0 : (lpS (lpD m 4 2 2) (m 1) (nI 11) 0).2.toInt = 1 := (by decide : (1 : Int64).toInt = 1)
  have t0 : (lpS (lpD m 4 2 2) (m 1) (nI 11) 0).1.toInt = 0 := (by decide : (0 : Int64).toInt = 0)
  have m0 : (nI 11) &&& ((nI 1 <<< (nI 0 &&& 31)) ^^^ (-1)) = nI 10 := by decide
  have u0 : ((lpD m 4 2 2) ((nI 11) &&& ((nI 1 <<< (nI 0 &&& 31)) ^^^ (-1)))).toInt = d2 A 2 3 1 3 ∧ (d2 A 2 3 1 3).natAbs ≤ 328050 := by rw [m0]; exact lp_4_2_10 hA
  have w0 := hA 1 0 (by decide) (by decide)
  have q0 := acc64 (acc := (lpS (lpD m 4 2 2) (m 1) (nI 11) 0).1) (g := (lpS (lpD m 4 2 2) (m 1) (nI 11) 0).2) (w := (m 1) 0) (u := (lpD m 4 2 2) ((nI 11) &&& ((nI 1 <<< (nI 0 &&& 31)) ^^^ (-1)))) (B := 0) (U := 328050) s0 (by decide) t0 (by decide) (by rw [w0.1]; exact w0.2) u0.1 u0.2 (by decide)
  have t1 : (lpS (lpD m 4 2 2) (m 1) (nI 11) 1).1.toInt = 0 + (1 : Int) * ((m 1 0).toInt * (d2 A 2 3 1 3)) := by rw [lp_1 (by decide)]; exact q0.1
  have s1 : (lpS (lpD m 4 2 2) (m 1) (nI 11) 1).2.toInt = (-1 : Int) := by rw [lp_2 (by decide), neg64 (by rw [s0]; decide), s0]
  have m1 : (nI 11) &&& ((nI 1 <<< (nI 1 &&& 31)) ^^^ (-1)) = nI 9 := by decide
  have u1 : ((lpD m 4 2 2) ((nI 11) &&& ((nI 1 <<< (nI 1 &&& 31)) ^^^ (-1)))).toInt = d2 A 2 3 0 3 ∧ (d2 A 2 3 0 3).natAbs ≤ 328050 := by rw [m1]; exact lp_4_2_9 hA
  have w1 := hA 1 1 (by decide) (by decide)
  have q1 := acc64 (acc := (lpS (lpD m 4 2 2) (m 1) (nI 11) 1).1) (g := (lpS (lpD m 4 2 2) (m 1) (nI 11) 1).2) (w := (m 1) 1) (u := (lpD m 4 2 2) ((nI 11) &&& ((nI 1 <<< (nI 1 &&& 31)) ^^^ (-1)))) (B := 132860250) (U := 328050) s1 (by decide) t1 q0.2 (by rw [w1.1]; exact w1.2) u1.1 u1.2 (by decide)
  have t2 : (lpS (lpD m 4 2 2) (m 1) (nI 11) 2).1.toInt = 0 + (1 : Int) * ((m 1 0).toInt * (d2 A 2 3 1 3)) + (-1 : Int) * ((m 1 1).toInt * (d2 A 2 3 0 3)) := by rw [lp_1 (by decide)]; exact q1.1
  have s2 : (lpS (lpD m 4 2 2) (m 1) (nI 11) 2).2.toInt = (1 : Int) := by rw [lp_2 (by decide), neg64 (by rw [s1]; decide), s1]; decide
  have e3 : lpS (lpD m 4 2 2) (m 1) (nI 11) 3 = lpS (lpD m 4 2 2) (m 1) (nI 11) 2 := lp_b (by decide)
  have s3 : (lpS (lpD m 4 2 2) (m 1) (nI 11) 3).2.toInt = (1 : Int) := by rw [e3]; exact s2
  have t3 : (lpS (lpD m 4 2 2) (m 1) (nI 11) 3).1.toInt = 0 + (1 : Int) * ((m 1 0).toInt * (d2 A 2 3 1 3)) + (-1 : Int) * ((m 1 1).toInt * (d2 A 2 3 0 3)) := by rw [e3]; exact t2
  have m3 : (nI 11) &&& ((nI 1 <<< (nI 3 &&& 31)) ^^^ (-1)) = nI 3 := by decide
  have u3 : ((lpD m 4 2 2) ((nI 11) &&& ((nI 1 <<< (nI 3 &&& 31)) ^^^ (-1)))).toInt = d2 A 2 3 0 1 ∧ (d2 A 2 3 0 1).natAbs ≤ 328050 := by rw [m3]; exact lp_4_2_3 hA
  have w3 := hA 1 3 (by decide) (by decide)
  have q3 := acc64 (acc := (lpS (lpD m 4 2 2) (m 1) (nI 11) 3).1) (g := (lpS (lpD m 4 2 2) (m 1) (nI 11) 3).2) (w := (m 1) 3) (u := (lpD m 4 2 2) ((nI 11) &&& ((nI 1 <<< (nI 3 &&& 31)) ^^^ (-1)))) (B := 265720500) (U := 328050) s3 (by decide) t3 q1.2 (by rw [w3.1]; exact w3.2) u3.1 u3.2 (by decide)
  have t4 : (lpS (lpD m 4 2 2) (m 1) (nI 11) 4).1.toInt = 0 + (1 : Int) * ((m 1 0).toInt * (d2 A 2 3 1 3)) + (-1 : Int) * ((m 1 1).toInt * (d2 A 2 3 0 3)) + (1 : Int) * ((m 1 3).toInt * (d2 A 2 3 0 1)) := by rw [lp_1 (by decide)]; exact q3.1
  have s4 : (lpS (lpD m 4 2 2) (m 1) (nI 11) 4).2.toInt = (-1 : Int) := by rw [lp_2 (by decide), neg64 (by rw [s3]; decide), s3]
  have en : 0 + (1 : Int) * ((m 1 0).toInt * (d2 A 2 3 1 3)) + (-1 : Int) * ((m 1 1).toInt * (d2 A 2 3 0 3)) + (1 : Int) * ((m 1 3).toInt * (d2 A 2 3 0 1)) = d3 A 1 2 3 0 1 3 := by
    rw [w0.1, w1.1, w3.1]
    unfold d3
    omega
  refine ⟨t4.trans en, ?_⟩
  rw [← en]
  exact Nat.le_trans q3.2 (by decide)
theorem lp_4_1_13 {m : Nat → Nat → Int64} {A : Nat → Nat → Int} (hA : ∀ i j : Nat, i < 4 → j < 4 → (m i j).toInt = A i j ∧ (A i j).natAbs ≤ 405) : (lpD m 4 3 1 (nI 13)).toInt = d3 A 1 2 3 0 2 3 ∧ (d3 A 1 2 3 0 2 3).natAbs ≤ 398580750 := by
  rw [lpD, if_neg (by decide)]
  have s0 : (lpS (lpD m 4 2 2) (m 1) (nI 13) 0).2.toInt = 1 := (by decide : (1 : Int64).toInt = 1)
  have t0 : (lpS (lpD m 4 2 2) (m 1) (nI 13) 0).1.toInt = 0 := (by decide : (0 : Int64).toInt = 0)
  have m0 : (nI 13) &&& ((nI 1 <<< (nI 0 &&& 31)) ^^^ (-1)) = nI 12 := by decide
  have u0 : ((lpD m 4 2 2) ((nI 13) &&& ((nI 1 <<< (nI 0 &&& 31)) ^^^ (-1)))).toInt = d2 A 2 3 2 3 ∧ (d2 A 2 3 2 3).natAbs ≤ 328050 := by rw [m0]; exact lp_4_2_12 hA
  have w0 := hA 1 0 (by decide) (by decide)
  have q0 := acc64 (acc := (lpS (lpD m 4 2 2) (m 1) (nI 13) 0).1) (g := (lpS (lpD m 4 2 2) (m 1) (nI 13) 0).2) (w := (m 1) 0) (u := (lpD m 4 2 2) ((nI 13) &&& ((nI 1 <<< (nI 0 &&& 31)) ^^^ (-1)))) (B := 0) (U := 328050) s0 (by decide) t0 (by decide) (by rw [w0.1]; exact w0.2) u0.1 u0.2 (by decide)
  have t1 : (lpS (lpD m 4 2 2) (m 1) (nI 13) 1).1.toInt = 0 + (1 : Int) * ((m 1 0).toInt * (d2 A 2 3 2 3)) := by rw [lp_1 (by decide)]; exact q0.1
  have s1 : (lpS (lpD m 4 2 2) (m 1) (nI 13) 1).2.toInt = (-1 : Int) := by rw [lp_2 (by decide), neg64 (by rw [s0]; decide), s0]
  have e2 : lpS (lpD m 4 2 2) (m 1) (nI 13) 2 = lpS (lpD m 4 2 2) (m 1) (nI 13) 1 := lp_b (by decide)
  have s2 : (lpS (lpD m 4 2 2) (m 1) (nI 13) 2).2.toInt = (-1 : Int) := by rw [e2]; exact s1
  have t2 : (lpS (lpD m 4 2 2) (m 1) (nI 13) 2).1.toInt = 0 + (1 : Int) * ((m 1 0).toInt * (d2 A 2 3 2 3)) := by rw [e2]; exact t1
  have m2 : (nI 13) &&& ((nI 1 <<< (nI 2 &&& 31)) ^^^ (-1)) = nI 9 := by decide
  have u2 : ((lpD m 4 2 2) ((nI 13) &&& ((nI 1 <<< (nI 2 &&& 31)) ^^^ (-1)))).toInt = d2 A 2 3 0 3 ∧ (d2 A 2 3 0 3).natAbs ≤ 328050 := by rw [m2]; exact lp_4_2_9 hA
  have w2 := hA 1 2 (by decide) (by decide)
  have q2 := acc64 (acc := (lpS (lpD m 4 2 2) (m 1) (nI 13) 2).1) (g := (lpS (lpD m 4 2 2) (m 1) (nI 13) 2).2) (w := (m 1) 2) (u := (lpD m 4 2 2) ((nI 13) &&& ((nI 1 <<< (nI 2 &&& 31)) ^^^ (-1)))) (B := 132860250) (U := 328050) s2 (by decide) t2 q0.2 (by rw [w2.1]; exact w2.2) u2.1 u2.2 (by decide)
  have t3 : (lpS (lpD m 4 2 2) (m 1) (nI 13) 3).1.toInt = 0 + (1 : Int) * ((m 1 0).toInt * (d2 A 2 3 2 3)) + (-1 : Int) * ((m 1 2).toInt * (d2 A 2 3 0 3)) := by rw [lp_1 (by decide)]; exact q2.1
  have s3 : (lpS (lpD m 4 2 2) (m 1) (nI 13) 3).2.toInt = (1 : Int) := by rw [lp_2 (by decide), neg64 (by rw [s2]; decide), s2]; decide
  have m3 : (nI 13) &&& ((nI 1 <<< (nI 3 &&& 31)) ^^^ (-1)) = nI 5 := by decide
  have u3 : ((lpD m 4 2 2) ((nI 13) &&& ((nI 1 <<< (nI 3 &&& 31)) ^^^ (-1)))).toInt = d2 A 2 3 0 2 ∧ (d2 A 2 3 0 2).natAbs ≤ 328050 := by rw [m3]; exact lp_4_2_5 hA
  have w3 := hA 1 3 (by decide) (by decide)
  have q3 := acc64 (acc := (lpS (lpD m 4 2 2) (m 1) (nI 13) 3).1) (g := (lpS (lpD m 4 2 2) (m 1) (nI 13) 3).2) (w := (m 1) 3) (u := (lpD m 4 2 2) ((nI 13) &&& ((nI 1 <<< (nI 3 &&& 31)) ^^^ (-1)))) (B := 265720500) (U := 328050) s3 (by decide) t3 q2.2 (by rw [w3.1]; exact w3.2) u3.1 u3.2 (by decide)
  have t4 : (lpS (lpD m 4 2 2) (m 1) (nI 13) 4).1.toInt = 0 + (1 : Int) * ((m 1 0).toInt * (d2 A 2 3 2 3)) + (-1 : Int) * ((m 1 2).toInt * (d2 A 2 3 0 3)) + (1 : Int) * ((m 1 3).toInt * (d2 A 2 3 0 2)) := by rw [lp_1 (by decide)]; exact q3.1
  have s4 : (lpS (lpD m 4 2 2) (m 1) (nI 13) 4).2.toInt = (-1 : Int) := by rw [lp_2 (by decide), neg64 (by rw [s3]; decide), s3]
  have en : 0 + (1 : Int) * ((m 1 0).toInt * (d2 A 2 3 2 3)) + (-1 : Int) * ((m 1 2).toInt * (d2 A 2 3 0 3)) + (1 : Int) * ((m 1 3).toInt * (d2 A 2 3 0 2)) = d3 A 1 2 3 0 2 3 := by
    rw [w0.1, w2.1, w3.1]
    unfold d3
    omega
  refine ⟨t4.trans en, ?_⟩
  rw [← en]
  exact Nat.le_trans q3.2 (by decide)
theorem lp_4_1_14 {m : Nat → Nat → Int64} {A : Nat → Nat → Int} (hA : ∀ i j : Nat, i < 4 → j < 4 → (m i j).toInt = A i j ∧ (A i j).natAbs ≤ 405) : (lpD m 4 3 1 (nI 14)).toInt = d3 A 1 2 3 1 2 3 ∧ (d3 A 1 2 3 1 2 3).natAbs ≤ 398580750 := by
  rw [lpD, if_neg (by decide)]
  have s0 : (lpS (lpD m 4 2 2) (m 1) (nI 14) 0).2.toInt = 1 := (by decide : (1 : Int64).toInt = 1)
  have t0 : (lpS (lpD m 4 2 2) (m 1) (nI 14) 0).1.toInt = 0 := (by decide : (0 : Int64).toInt = 0)
  have e1 : lpS (lpD m 4 2 2) (m 1) (nI 14) 1 = lpS (lpD m 4 2 2) (m 1) (nI 14) 0 := lp_b (by decide)
  have s1 : (lpS (lpD m 4 2 2) (m 1) (nI 14) 1).2.toInt = (1 : Int) := by rw [e1]; exact s0
  have t1 : (lpS (lpD m 4 2 2) (m 1) (nI 14) 1).1.toInt = 0 := by rw [e1]; exact t0
  have m1 : (nI 14) &&& ((nI 1 <<< (nI 1 &&& 31)) ^^^ (-1)) = nI 12 := by decide
  have u1 : ((lpD m 4 2 2) ((nI 14) &&& ((nI 1 <<< (nI 1 &&& 31)) ^^^ (-1)))).toInt = d2 A 2 3 2 3 ∧ (d2 A 2 3 2 3).natAbs ≤ 328050 := by rw [m1]; exact lp_4_2_12 hA
  have w1 := hA 1 1 (by decide) (by decide)
  have q1 := acc64 (acc := (lpS (lpD m 4 2 2) (m 1) (nI 14) 1).1) (g := (lpS (lpD m 4 2 2) (m 1) (nI 14) 1).2) (w := (m 1) 1) (u := (lpD m 4 2 2) ((nI 14) &&& ((nI 1 <<< (nI 1 &&& 31)) ^^^ (-1)))) (B := 0) (U := 328050) s1 (by decide) t1 (by decide) (by rw [w1.1]; exact w1.2) u1.1 u1.2 (by decide)
  have t2 : (lpS (lpD m 4 2 2) (m 1) (nI 14) 2).1.toInt = 0 + (1 : Int) * ((m 1 1).toInt * (d2 A 2 3 2 3)) := by rw [lp_1 (by decide)]; exact q1.1
  have s2 : (lpS (lpD m 4 2 2) (m 1) (nI 14) 2).2.toInt = (-1 : Int) := by rw [lp_2 (by decide), neg64 (by rw [s1]; decide), s1]
  have m2 : (nI 14) &&& ((nI 1 <<< (nI 2 &&& 31)) ^^^ (-1)) = nI 10 := by decide
  have u2 : ((lpD m 4 2 2) ((nI 14) &&& ((nI 1 <<< (nI 2 &&& 31)) ^^^ (-1)))).toInt = d2 A 2 3 1 3 ∧ (d2 A 2 3 1 3).natAbs ≤ 328050 := by rw [m2]; exact lp_4_2_10 hA
  have w2 := hA 1 2 (by decide) (by decide)
  have q2 := acc64 (acc := (lpS (lpD m 4 2 2) (m 1) (nI 14) 2).1) (g := (lpS (lpD m 4 2 2) (m 1) (nI 14) 2).2) (w := (m 1) 2) (u := (lpD m 4 2 2) ((nI 14) &&& ((nI 1 <<< (nI 2 &&& 31)) ^^^ (-1)))) (B := 132860250) (U := 328050) s2 (by decide) t2 q1.2 (by rw [w2.1]; exact w2.2) u2.1 u2.2 (by decide)
  have t3 : (lpS (lpD m 4 2 2) (m 1) (nI 14) 3).1.toInt = 0 + (1 : Int) * ((m 1 1).toInt * (d2 A 2 3 2 3)) + (-1 : Int) * ((m 1 2).toInt * (d2 A 2 3 1 3)) := by rw [lp_1 (by decide)]; exact q2.1
  have s3 : (lpS (lpD m 4 2 2) (m 1) (nI 14) 3).2.toInt = (1 : Int) := by rw [lp_2 (by decide), neg64 (by rw [s2]; decide), s2]; decide
  have m3 : (nI 14) &&& ((nI 1 <<< (nI 3 &&& 31)) ^^^ (-1)) = nI 6 := by decide
  have u3 : ((lpD m 4 2 2) ((nI 14) &&& ((nI 1 <<< (nI 3 &&& 31)) ^^^ (-1)))).toInt = d2 A 2 3 1 2 ∧ (d2 A 2 3 1 2).natAbs ≤ 328050 := by rw [m3]; exact lp_4_2_6 hA
  have w3 := hA 1 3 (by decide) (by decide)
  have q3 := acc64 (acc := (lpS (lpD m 4 2 2) (m 1) (nI 14) 3).1) (g := (lpS (lpD m 4 2 2) (m 1) (nI 14) 3).2) (w := (m 1) 3) (u := (lpD m 4 2 2) ((nI 14) &&& ((nI 1 <<< (nI 3 &&& 31)) ^^^ (-1)))) (B := 265720500) (U := 328050) s3 (by decide) t3 q2.2 (by rw [w3.1]; exact w3.2) u3.1 u3.2 (by decide)
  have t4 : (lpS (lpD m 4 2 2) (m 1) (nI 14) 4).1.toInt = 0 + (1 : Int) * ((m 1 1).toInt * (d2 A 2 3 2 3)) + (-1 : Int) * ((m 1 2).toInt * (d2 A 2 3 1 3)) + (1 : Int) * ((m 1 3).toInt * (d2 A 2 3 1 2)) := by rw [lp_1 (by decide)]; exact q3.1
  have s4 : (lpS (lpD m 4 2 2) (m 1) (nI 14) 4).2.toInt = (-1 : Int) := by rw [lp_2 (by decide), neg64 (by rw [s3]; decide), s3]
  have en : 0 + (1 : Int) * ((m 1 1).toInt * (d2 A 2 3 2 3)) + (-1 : Int) * ((m 1 2).toInt * (d2 A 2 3 1 3)) + (1 : Int) * ((m 1 3).toInt * (d2 A 2 3 1 2)) = d3 A 1 2 3 1 2 3 := by
    rw [w1.1, w2.1, w3.1]
    unfold d3
    omega
  refine ⟨t4.trans en, ?_⟩
  rw [← en]
  exact Nat.le_trans q3.2 (by decide)
theorem lp_4_0_15 {m : Nat → Nat → Int64} {A : Nat → Nat → Int} (hA : ∀ i j : Nat, i < 4 → j < 4 → (m i j).toInt = A i j ∧ (A i j).natAbs ≤ 405) : (lpD m 4 4 0 (nI 15)).toInt = d4 A 0 1 2 3 ∧ (d4 A 0 1 2 3).natAbs ≤ 645700815000 := by
  rw [lpD, if_neg (by decide)]
  have s0 : (lpS (lpD m 4 3 1) (m 0) (nI 15) 0).2.toInt = 1 := (by decide : (1 : Int64).toInt = 1)
  have t0 : (lpS (lpD m 4 3 1) (m 0) (nI 15) 0).1.toInt = 0 := (by decide : (0 : Int64).toInt = 0)
  have m0 : (nI 15) &&& ((nI 1 <<< (nI 0 &&& 31)) ^^^ (-1)) = nI 14 := by decide
  have u0 : ((lpD m 4 3 1) ((nI 15) &&& ((nI 1 <<< (nI 0 &&& 31)) ^^^ (-1)))).toInt = d3 A 1 2 3 1 2 3 ∧ (d3 A 1 2 3 1 2 3).natAbs ≤ 398580750 := by rw [m0]; exact lp_4_1_14 hA
  have w0 := hA 0 0 (by decide) (by decide)
  have q0 := acc64 (acc := (lpS (lpD m 4 3 1) (m 0) (nI 15) 0).1) (g := (lpS (lpD m 4 3 1) (m 0) (nI 15) 0).2) (w := (m 0) 0) (u := (lpD m 4 3 1) ((nI 15) &&& ((nI 1 <<< (nI 0 &&& 31)) ^^^ (-1)))) (B := 0) (U := 398580750) s0 (by decide) t0 (by decide) (by rw [w0.1]; exact w0.2) u0.1 u0.2 (by decide)
  have t1 : (lpS (lpD m 4 3 1) (m 0) (nI 15) 1).1.toInt = 0 + (1 : Int) * ((m 0 0).toInt * (d3 A 1 2 3 1 2 3)) := by rw [lp_1 (by decide)]; exact q0.1
  have s1 : (lpS (lpD m 4 3 1) (m 0) (nI 15) 1).2.toInt = (-1 : Int) := by rw [lp_2 (by decide), neg64 (by rw [s0]; decide), s0]
  have m1 : (nI 15) &&& ((nI 1 <<< (nI 1 &&& 31)) ^^^ (-1)) = nI 13 := by decide
  have u1 : ((lpD m 4 3 1) ((nI 15) &&& ((nI 1 <<< (nI 1 &&& 31)) ^^^ (-1)))).toInt = d3 A 1 2 3 0 2 3 ∧ (d3 A 1 2 3 0 2 3).natAbs ≤ 398580750 := by rw [m1]; exact lp_4_1_13 hA
  have w1 := hA 0 1 (by decide) (by decide)
  have q1 := acc64 (acc := (lpS (lpD m 4 3 1) (m 0) (nI 15) 1).1) (g := (lpS (lpD m 4 3 1) (m 0) (nI 15) 1).2) (w := (m 0) 1) (u := (lpD m 4 3 1) ((nI 15) &&& ((nI 1 <<< (nI 1 &&& 31)) ^^^ (-1)))) (B := 161425203750) (U := 398580750) s1 (by decide) t1 q0.2 (by rw [w1.1]; exact w1.2) u1.1 u1.2 (by decide)
  have t2 : (lpS (lpD m 4 3 1) (m 0) (nI 15) 2).1.toInt = 0 + (1 : Int) * ((m 0 0).toInt * (d3 A 1 2 3 1 2 3)) + (-1 : Int) * ((m 0 1).toInt * (d3 A 1 2 3 0 2 3)) := by rw [lp_1 (by decide)]; exact q1.1
  have s2 : (lpS (lpD m 4 3 1) (m 0) (nI 15) 2).2.toInt = (1 : Int) := by rw [lp_2 (by decide), neg64 (by rw [s1]; decide), s1]; decide
  have m2 : (nI 15) &&& ((nI 1 <<< (nI 2 &&& 31)) ^^^ (-1)) = nI 11 := by decide
  have u2 : ((lpD m 4 3 1) ((nI 15) &&& ((nI 1 <<< (nI 2 &&& 31)) ^^^ (-1)))).toInt = d3 A 1 2 3 0 1 3 ∧ (d3 A 1 2 3 0 1 3).natAbs ≤ 398580750 := by rw [m2]; exact lp_4_1_11 hA
  have w2 := hA 0 2 (by decide) (by decide)
  have q2 := acc64 (acc := (lpS (lpD m 4 3 1) (m 0) (nI 15) 2).1) (g := (lpS (lpD m 4 3 1) (m 0) (nI 15) 2).2) (w := (m 0) 2) (u := (lpD m 4 3 1) ((nI 15) &&& ((nI 1 <<< (nI 2 &&& 31)) ^^^ (-1)))) (B := 322850407500) (U := 398580750) s2 (by decide) t2 q1.2 (by rw [w2.1]; exact w2.2) u2.1 u2.2 (by decide)
  have t3 : (lpS (lpD m 4 3 1) (m 0) (nI 15) 3).1.toInt = 0 + (1 : Int) * ((m 0 0).toInt * (d3 A 1 2 3 1 2 3)) + (-1 : Int) * ((m 0 1).toInt * (d3 A 1 2 3 0 2 3)) + (1 : Int) * ((m 0 2).toInt * (d3 A 1 2 3 0 1 3)) := by rw [lp_1 (by decide)]; exact q2.1
  have s3 : (lpS (lpD m 4 3 1) (m 0) (nI 15) 3).2.toInt = (-1 : Int) := by rw [lp_2 (by decide), neg64 (by rw [s2]; decide), s2]
  have m3 : (nI 15) &&& ((nI 1 <<< (nI 3 &&& 31)) ^^^ (-1)) = nI 7 := by decide
  have u3 : ((lpD m 4 3 1) ((nI 15) &&& ((nI 1 <<< (nI 3 &&& 31)) ^^^ (-1)))).toInt = d3 A 1 2 3 0 1 2 ∧ (d3 A 1 2 3 0 1 2).natAbs ≤ 398580750 := by rw [m3]; exact lp_4_1_7 hA
  have w3 := hA 0 3 (by decide) (by decide)
  have q3 := acc64 (acc := (lpS (lpD m 4 3 1) (m 0) (nI 15) 3).1) (g := (lpS (lpD m 4 3 1) (m 0) (nI 15) 3).2) (w := (m 0) 3) (u := (lpD m 4 3 1) ((nI 15) &&& ((nI 1 <<< (nI 3 &&& 31)) ^^^ (-1)))) (B := 484275611250) (U := 398580750) s3 (by decide) t3 q2.2 (by rw [w3.1]; exact w3.2) u3.1 u3.2 (by decide)
  have t4 : (lpS (lpD m 4 3 1) (m 0) (nI 15) 4).1.toInt = 0 + (1 : Int) * ((m 0 0).toInt * (d3 A 1 2 3 1 2 3)) + (-1 : Int) * ((m 0 1).toInt * (d3 A 1 2 3 0 2 3)) + (1 : Int) * ((m 0 2).toInt * (d3 A 1 2 3 0 1 3)) + (-1 : Int) * ((m 0 3).toInt * (d3 A 1 2 3 0 1 2)) := by rw [lp_1 (by decide)]; exact q3.1
  have s4 : (lpS (lpD m 4 3 1) (m 0) (nI 15) 4).2.toInt = (1 : Int) := by rw [lp_2 (by decide), neg64 (by rw [s3]; decide), s3]; decide
  have en : 0 + (1 : Int) * ((m 0 0).toInt * (d3 A 1 2 3 1 2 3)) + (-1 : Int) * ((m 0 1).toInt * (d3 A 1 2 3 0 2 3)) + (1 : Int) * ((m 0 2).toInt * (d3 A 1 2 3 0 1 3)) + (-1 : Int) * ((m 0 3).toInt * (d3 A 1 2 3 0 1 2)) = d4 A 0 1 2 3 := by
    rw [w0.1, w1.1, w2.1, w3.1]
    unfold d4
    omega
  refine ⟨t4.trans en, ?_⟩
  rw [← en]
  exact Nat.le_trans q3.2 (by decide)

/-! the reference's side -/
theorem piv_all {m : Nat → Nat → Int64} {n k : Nat} : ∀ (f r : Nat), r + f = n → pivG m n k f r = n → ∀ q : Nat, r ≤ q → q < n → m q k = 0
  | 0, r, h, _, q, h1, h2 => by omega
  | f + 1, r, h, g, q, h1, h2 => by
    rw [pivG] at g
    by_cases e : r < n ∧ m r k = 0
    · rw [if_pos e] at g
      by_cases e2 : q = r
      · rw [e2]
        exact e.2
      · exact piv_all f (r + 1) (by omega) g q (by omega) h2
    · rw [if_neg e] at g
      omega
theorem zero64 {x : Int64} {a : Int} (h : x.toInt = a) (e : x = 0) : a = 0 := by
  rw [← h, e]
  decide
theorem fin_val {n k : Nat} {m : Nat → Nat → Int64} {b s : Int64} {sg d : Int} (hk : k + 1 = n) (hs : s.toInt = sg) (hs2 : sg = 1 ∨ sg = -1) (hd : (m k k).toInt = d) (hb : d.natAbs ≤ CD) : (detG n 1 k m b s).toInt = sg * d := by
  obtain ⟨p1, p2, p3⟩ := piv_sp (m := m) (n := n) (k := k) (n - k) k (by omega)
  rw [detG]
  by_cases e : pivG m n k (n - k) k = n
  · rw [if_pos e]
    have z := piv_all (n - k) k (by omega) e k (Nat.le_refl k) (by omega)
    rw [zero64 hd z, Int.mul_zero]
    decide
  · have e2 : pivG m n k (n - k) k = k := by omega
    rw [if_neg e, e2, detG, if_pos rfl]
    have e3 : swapM m k k k k = m k k := by simp [swapM]
    rw [e3, (mul64 (x := s) (y := m k k) (a := 1) (b := CD) (by rw [hs]; rcases hs2 with rfl | rfl <;> decide) (by rw [hd]; exact hb) (by decide)).1, hs, hd]
theorem neg_sg {s : Int64} {sg : Int} (hs : s.toInt = sg) (hs2 : sg = 1 ∨ sg = -1) : (0 - s).toInt = -sg ∧ (-sg = 1 ∨ -sg = -1) := by
  have z0 : (0 : Int64).toInt = 0 := by decide
  rw [sub64 (by rw [z0, hs]; omega), z0, hs]
  omega
theorem tdiv_mul {p D : Int} (hp : ¬ p = 0) : (p * D).tdiv p = D := Int.mul_tdiv_cancel_left _ hp
/-- two rows are left -/
theorem two_val {n k B : Nat} {m : Nat → Nat → Int64} {b s : Int64} {sg p D a00 a01 a10 a11 : Int} (hn : k + 2 = n) (hs : s.toInt = sg) (hs2 : sg = 1 ∨ sg = -1) (hb : b.toInt = p) (hp : ¬ p = 0) (h00 : (m k k).toInt = a00) (h01 : (m k (k + 1)).toInt = a01) (h10 : (m (k + 1) k).toInt = a10) (h11 : (m (k + 1) (k + 1)).toInt = a11) (b00 : a00.natAbs ≤ B) (b01 : a01.natAbs ≤ B) (b10 : a10.natAbs ≤ B) (b11 : a11.natAbs ≤ B) (hB : 2 * (B * B) ≤ CD) (hid : a11 * a00 - a10 * a01 = p * D) : (detG n 2 k m b s).toInt = sg * D := by
  have hCD : CD < 9223372036854775808 := by decide
  obtain ⟨p1, p2, p3⟩ := piv_sp (m := m) (n := n) (k := k) (n - k) k (by omega)
  rw [detG]
  by_cases e : pivG m n k (n - k) k = n
  · rw [if_pos e]
    have z0 := zero64 h00 (piv_all (n - k) k (by omega) e k (Nat.le_refl k) (by omega))
    have z1 := zero64 h10 (piv_all (n - k) k (by omega) e (k + 1) (by omega) (by omega))
    rw [z0, z1, Int.mul_zero, Int.zero_mul, Int.sub_self] at hid
    have d0 : D = 0 := by
      rcases Int.mul_eq_zero.mp hid.symm with q | q
      · exact absurd q hp
      · exact q
    rw [d0, Int.mul_zero]
    decide
  · rw [if_neg e]
    rcases (show pivG m n k (n - k) k = k ∨ pivG m n k (n - k) k = k + 1 by omega) with q | q
    · rw [q, if_pos rfl]
      have el := el64 (x := m (k + 1) (k + 1)) (y := m k k) (z := m (k + 1) k) (w := m k (k + 1)) (b := b) (B := B) (by rw [h11]; exact b11) (by rw [h00]; exact b00) (by rw [h10]; exact b10) (by rw [h01]; exact b01) (by omega)
      rw [h11, h00, h10, h01, hb, hid, tdiv_mul hp] at el
      refine fin_val (by omega) hs hs2 (d := D) ?_ (by have := el.2; rw [el.1] at this; omega)
      rw [elim_at (by omega) (by omega)]
      have w1 : swapM m k k (k + 1) (k + 1) = m (k + 1) (k + 1) := by simp [swapM]
      have w2 : swapM m k k k k = m k k := by simp [swapM]
      have w3 : swapM m k k (k + 1) k = m (k + 1) k := by simp [swapM]
      have w4 : swapM m k k k (k + 1) = m k (k + 1) := by simp [swapM]
      rw [w1, w2, w3, w4]
      exact el.1
    · rw [q, if_neg (by omega)]
      have el := el64 (x := m k (k + 1)) (y := m (k + 1) k) (z := m k k) (w := m (k + 1) (k + 1)) (b := b) (B := B) (by rw [h01]; exact b01) (by rw [h10]; exact b10) (by rw [h00]; exact b00) (by rw [h11]; exact b11) (by omega)
      have hid2 : a01 * a10 - a00 * a11 = p * -D := by
        rw [Int.mul_comm a01 a10, Int.mul_comm a00 a11, Int.mul_neg, ← hid]
        omega
      rw [h11, h00, h10, h01, hb, hid2, tdiv_mul hp] at el
      obtain ⟨n1, n2⟩ := neg_sg hs hs2
      have r := fin_val (n := n) (k := k + 1) (m := elimM (swapM m (k + 1) k) k b) (b := swapM m (k + 1) k k k) (by omega) n1 n2 (d := -D) (by
        rw [elim_at (by omega) (by omega)]
        have w1 : swapM m (k + 1) k (k + 1) (k + 1) = m k (k + 1) := by simp [swapM]
        have w2 : swapM m (k + 1) k k k = m (k + 1) k := by simp [swapM]
        have w3 : swapM m (k + 1) k (k + 1) k = m k k := by simp [swapM]
        have w4 : swapM m (k + 1) k k (k + 1) = m (k + 1) (k + 1) := by simp [swapM]
        rw [w1, w2, w3, w4]
        exact el.1) (by have := el.2; rw [el.1] at this; omega)
      rw [r, Int.neg_mul_neg]
def bM (A : Nat → Nat → Int) : Nat → Nat → Int := fun i j => A i j * A 0 0 - A i 0 * A 0 j
def cM (A : Nat → Nat → Int) : Nat → Nat → Int := fun i j => A i j * A 0 0 * A 1 1 - A i j * A 1 0 * A 0 1 - A i 0 * A 0 j * A 1 1 - A i 1 * A 0 0 * A 1 j + A i 1 * A 1 0 * A 0 j + A i 0 * A 0 1 * A 1 j
theorem id3 (A : Nat → Nat → Int) : bM A 2 2 * bM A 1 1 - bM A 2 1 * bM A 1 2 = A 0 0 * d3 A 0 1 2 0 1 2 := by
  unfold bM d3 d2
  grind
theorem id4c (A : Nat → Nat → Int) (i j : Nat) : bM A i j * bM A 1 1 - bM A i 1 * bM A 1 j = A 0 0 * cM A i j := by
  unfold bM cM
  grind
theorem id4 (A : Nat → Nat → Int) : cM A 3 3 * cM A 2 2 - cM A 3 2 * cM A 2 3 = bM A 1 1 * d4 A 0 1 2 3 := by
  unfold cM bM d4 d3 d2
  grind
theorem id4b (A : Nat → Nat → Int) : A 0 0 * (A 0 0 * d4 A 0 1 2 3) = bM A 1 1 * (bM A 2 2 * bM A 3 3 - bM A 2 3 * bM A 3 2) - bM A 1 2 * (bM A 2 1 * bM A 3 3 - bM A 2 3 * bM A 3 1) + bM A 1 3 * (bM A 2 1 * bM A 3 2 - bM A 2 2 * bM A 3 1) := by
  unfold bM d4 d3 d2
  grind
def rA2 (A : Nat → Nat → Int) (p k : Nat) : Nat → Nat → Int := fun r c => A (row2 p k r) c
theorem sw3 (A : Nat → Nat → Int) (p : Nat) (hp : p < 3) : d3 (rA2 A p 0) 0 1 2 0 1 2 = if p = 0 then d3 A 0 1 2 0 1 2 else -d3 A 0 1 2 0 1 2 := by
  rcases (show p = 0 ∨ p = 1 ∨ p = 2 by omega) with rfl | rfl | rfl
  · simp [rA2, row2, d3, d2]
  · simp only [rA2, row2, d3, d2]
    simp
    grind
  · simp only [rA2, row2, d3, d2]
    simp
    grind
theorem sw4 (A : Nat → Nat → Int) (p k : Nat) (hk : k < 2) (hkp : k ≤ p) (hp : p < 4) : d4 (rA2 A p k) 0 1 2 3 = if p = k then d4 A 0 1 2 3 else -d4 A 0 1 2 3 := by
  rcases (show k = 0 ∨ k = 1 by omega) with rfl | rfl
  · rcases (show p = 0 ∨ p = 1 ∨ p = 2 ∨ p = 3 by omega) with rfl | rfl | rfl | rfl
    · simp [rA2, row2, d4, d3, d2]
    · simp only [rA2, row2, d4, d3, d2]
      simp
      grind
    · simp only [rA2, row2, d4, d3, d2]
      simp
      grind
    · simp only [rA2, row2, d4, d3, d2]
      simp
      grind
  · rcases (show p = 1 ∨ p = 2 ∨ p = 3 by omega) with rfl | rfl | rfl
    · simp [rA2, row2, d4, d3, d2]
    · simp only [rA2, row2, d4, d3, d2]
      simp
      grind
    · simp only [rA2, row2, d4, d3, d2]
      simp
      grind

theorem bM_bd {A : Nat → Nat → Int} {n : Nat} (hA : ∀ i j : Nat, i < n → j < n → (A i j).natAbs ≤ 405) {i j : Nat} (hi : i < n) (hj : j < n) (hn : 0 < n) : (bM A i j).natAbs ≤ 328050 := by
  have k1 := mulB (hA i j hi hj) (hA 0 0 hn hn)
  have k2 := mulB (hA i 0 hi hn) (hA 0 j hn hj)
  unfold bM
  omega
theorem cM_bd {A : Nat → Nat → Int} (hA : ∀ i j : Nat, i < 4 → j < 4 → (A i j).natAbs ≤ 405) {i j : Nat} (hi : i < 4) (hj : j < 4) : (cM A i j).natAbs ≤ 398580750 := by
  have t1 := min_bd (hA i j hi hj) (hA 0 0 (by decide) (by decide)) (hA 1 1 (by decide) (by decide))
  have t2 := min_bd (hA i j hi hj) (hA 1 0 (by decide) (by decide)) (hA 0 1 (by decide) (by decide))
  have t3 := min_bd (hA i 0 hi (by decide)) (hA 0 j (by decide) hj) (hA 1 1 (by decide) (by decide))
  have t4 := min_bd (hA i 1 hi (by decide)) (hA 0 0 (by decide) (by decide)) (hA 1 j (by decide) hj)
  have t5 := min_bd (hA i 1 hi (by decide)) (hA 1 0 (by decide) (by decide)) (hA 0 j (by decide) hj)
  have t6 := min_bd (hA i 0 hi (by decide)) (hA 0 1 (by decide) (by decide)) (hA 1 j (by decide) hj)
  unfold cM
  omega
theorem row2_lt4 {p k r n : Nat} (hp : p < n) (hk : k < n) (hr : r < n) : row2 p k r < n := row2_lt hp hk hr
/-- one step from the first row -/
theorem el_b {n p : Nat} {m : Nat → Nat → Int64} {A : Nat → Nat → Int} (hA : ∀ i j : Nat, i < n → j < n → (m i j).toInt = A i j ∧ (A i j).natAbs ≤ 405) (hp : p < n) {i j : Nat} (hi : i < n) (hj : j < n) (hi0 : 0 < i) (hj0 : 0 < j) : (elimM (swapM m p 0) 0 1 i j).toInt = bM (rA2 A p 0) i j := by
  have hn : 0 < n := by omega
  have h : ∀ r c : Nat, r < n → c < n → (swapM m p 0 r c).toInt = rA2 A p 0 r c ∧ (rA2 A p 0 r c).natAbs ≤ 405 := fun r c hr hc => by
    rw [swap_row]
    exact hA _ _ (row2_lt hp hn hr) hc
  rw [elim_at hi0 hj0]
  have e := el64 (x := swapM m p 0 i j) (y := swapM m p 0 0 0) (z := swapM m p 0 i 0) (w := swapM m p 0 0 j) (b := 1) (B := 405) (by rw [(h i j hi hj).1]; exact (h i j hi hj).2) (by rw [(h 0 0 hn hn).1]; exact (h 0 0 hn hn).2) (by rw [(h i 0 hi hn).1]; exact (h i 0 hi hn).2) (by rw [(h 0 j hn hj).1]; exact (h 0 j hn hj).2) (by decide)
  rw [e.1, (h i j hi hj).1, (h 0 0 hn hn).1, (h i 0 hi hn).1, (h 0 j hn hj).1, show (1 : Int64).toInt = 1 by decide, Int.tdiv_one]
  rfl
theorem sg_if {s : Int64} {sg : Int} {p k : Nat} (hs : s.toInt = sg) (hs2 : sg = 1 ∨ sg = -1) : (if p = k then s else 0 - s).toInt = (if p = k then sg else -sg) ∧ ((if p = k then sg else -sg) = 1 ∨ (if p = k then sg else -sg) = -1) := by
  by_cases e : p = k
  · rw [if_pos e, if_pos e]
    exact ⟨hs, hs2⟩
  · rw [if_neg e, if_neg e]
    exact neg_sg hs hs2
theorem sg_mul {sg D : Int} {p k : Nat} : (if p = k then sg else -sg) * (if p = k then D else -D) = sg * D := by
  by_cases e : p = k
  · rw [if_pos e, if_pos e]
  · rw [if_neg e, if_neg e, Int.neg_mul_neg]
theorem det_v3 {m : Nat → Nat → Int64} {A : Nat → Nat → Int} (hA : ∀ i j : Nat, i < 3 → j < 3 → (m i j).toInt = A i j ∧ (A i j).natAbs ≤ 405) : (detM 3 m).toInt = d3 A 0 1 2 0 1 2 := by
  unfold detM
  obtain ⟨p1, p2, p3⟩ := piv_sp (m := m) (n := 3) (k := 0) (3 - 0) 0 (by omega)
  rw [detG]
  by_cases e : pivG m 3 0 (3 - 0) 0 = 3
  · rw [if_pos e]
    have z0 := zero64 (hA 0 0 (by decide) (by decide)).1 (piv_all (3 - 0) 0 (by omega) e 0 (by omega) (by omega))
    have z1 := zero64 (hA 1 0 (by decide) (by decide)).1 (piv_all (3 - 0) 0 (by omega) e 1 (by omega) (by omega))
    have z2 := zero64 (hA 2 0 (by decide) (by decide)).1 (piv_all (3 - 0) 0 (by omega) e 2 (by omega) (by omega))
    unfold d3 d2
    rw [z0, z1, z2]
    simp
  · rw [if_neg e]
    have hp : pivG m 3 0 (3 - 0) 0 < 3 := by omega
    have hz := p3 hp
    generalize pivG m 3 0 (3 - 0) 0 = p at hp hz
    obtain ⟨s1, s2⟩ := sg_if (p := p) (k := 0) (show (1 : Int64).toInt = 1 by decide) (Or.inl rfl)
    have hA2 : ∀ i j : Nat, i < 3 → j < 3 → (rA2 A p 0 i j).natAbs ≤ 405 := fun i j hi hj => (hA _ _ (row2_lt hp (by decide) hi) hj).2
    have hb0 : (swapM m p 0 0 0).toInt = rA2 A p 0 0 0 := by
      rw [swap_row]
      exact (hA _ _ (row2_lt hp (by decide) (by decide)) (by decide)).1
    have hp0 : ¬ rA2 A p 0 0 0 = 0 := fun q => by
      rw [← hb0] at q
      have e2 : swapM m p 0 0 0 = m p 0 := by simp [swapM]
      rw [e2] at q
      exact hz (Int64.toInt_inj.mp (by rw [q]; decide))
    have r := two_val (n := 3) (k := 1) (B := 328050) (D := d3 (rA2 A p 0) 0 1 2 0 1 2) (by decide) s1 s2 hb0 hp0 (el_b hA hp (i := 1) (j := 1) (by decide) (by decide) (by decide) (by decide)) (el_b hA hp (i := 1) (j := 2) (by decide) (by decide) (by decide) (by decide)) (el_b hA hp (i := 2) (j := 1) (by decide) (by decide) (by decide) (by decide)) (el_b hA hp (i := 2) (j := 2) (by decide) (by decide) (by decide) (by decide)) (bM_bd hA2 (by decide) (by decide) (by decide)) (bM_bd hA2 (by decide) (by decide) (by decide)) (bM_bd hA2 (by decide) (by decide) (by decide)) (bM_bd hA2 (by decide) (by decide) (by decide)) (by decide) (id3 (rA2 A p 0))
    rw [r, sw3 A p hp, sg_mul, Int.one_mul]
theorem det_s4 {m1 : Nat → Nat → Int64} {b1 s : Int64} {sg : Int} {A : Nat → Nat → Int} (hA2 : ∀ i j : Nat, i < 4 → j < 4 → (A i j).natAbs ≤ 405) (hs : s.toInt = sg) (hs2 : sg = 1 ∨ sg = -1) (hb0 : b1.toInt = A 0 0) (hp0 : ¬ A 0 0 = 0) (hel : ∀ i j : Nat, 0 < i → 0 < j → i < 4 → j < 4 → (m1 i j).toInt = bM A i j) : (detG 4 3 1 m1 b1 s).toInt = sg * d4 A 0 1 2 3 := by
  obtain ⟨p1, p2, p3⟩ := piv_sp (m := m1) (n := 4) (k := 1) (4 - 1) 1 (by omega)
  rw [detG]
  by_cases e : pivG m1 4 1 (4 - 1) 1 = 4
  · rw [if_pos e]
    have z1 := zero64 (hel 1 1 (by decide) (by decide) (by decide) (by decide)) (piv_all (4 - 1) 1 (by omega) e 1 (by omega) (by omega))
    have z2 := zero64 (hel 2 1 (by decide) (by decide) (by decide) (by decide)) (piv_all (4 - 1) 1 (by omega) e 2 (by omega) (by omega))
    have z3 := zero64 (hel 3 1 (by decide) (by decide) (by decide) (by decide)) (piv_all (4 - 1) 1 (by omega) e 3 (by omega) (by omega))
    have i4 := id4b A
    rw [z1, z2, z3] at i4
    have i5 : A 0 0 * (A 0 0 * d4 A 0 1 2 3) = 0 := by
      rw [i4]
      simp
    have d0 : d4 A 0 1 2 3 = 0 := by
      rcases Int.mul_eq_zero.mp i5 with q | q
      · exact absurd q hp0
      · rcases Int.mul_eq_zero.mp q with q | q
        · exact absurd q hp0
        · exact q
    rw [d0, Int.mul_zero]
    decide
  · rw [if_neg e]
    have hp : pivG m1 4 1 (4 - 1) 1 < 4 := by omega
    have hz := p3 hp
    generalize pivG m1 4 1 (4 - 1) 1 = p at p1 hp hz
    obtain ⟨s1, s2⟩ := sg_if (p := p) (k := 1) hs hs2
    have hA3 : ∀ i j : Nat, i < 4 → j < 4 → (rA2 A p 1 i j).natAbs ≤ 405 := fun i j hi hj => hA2 _ _ (row2_lt hp (by decide) hi) hj
    have r0 : row2 p 1 0 = 0 := by
      unfold row2
      rw [if_neg (by decide)]
      split <;> omega
    have h00 : rA2 A p 1 0 0 = A 0 0 := by
      unfold rA2
      rw [r0]
    have hsw : ∀ i j : Nat, 0 < i → 0 < j → i < 4 → j < 4 → (swapM m1 p 1 i j).toInt = bM (rA2 A p 1) i j := fun i j a b c d => by
      rw [swap_row, hel _ _ (row2_ge p1 a) b (row2_lt hp (by decide) c) d]
      unfold bM rA2
      rw [r0]
    have hbd : ∀ i j : Nat, i < 4 → j < 4 → (bM (rA2 A p 1) i j).natAbs ≤ 328050 := fun i j a b => bM_bd hA3 a b (by decide)
    have hc : ∀ i j : Nat, 1 < i → 1 < j → i < 4 → j < 4 → (elimM (swapM m1 p 1) 1 b1 i j).toInt = cM (rA2 A p 1) i j := fun i j a b c d => by
      rw [elim_at a b]
      have q := el64 (x := swapM m1 p 1 i j) (y := swapM m1 p 1 1 1) (z := swapM m1 p 1 i 1) (w := swapM m1 p 1 1 j) (b := b1) (B := 328050) (by rw [hsw i j (by omega) (by omega) c d]; exact hbd i j c d) (by rw [hsw 1 1 (by decide) (by decide) (by decide) (by decide)]; exact hbd 1 1 (by decide) (by decide)) (by rw [hsw i 1 (by omega) (by decide) c (by decide)]; exact hbd i 1 c (by decide)) (by rw [hsw 1 j (by decide) (by omega) (by decide) d]; exact hbd 1 j (by decide) d) (by decide)
      rw [q.1, hsw i j (by omega) (by omega) c d, hsw 1 1 (by decide) (by decide) (by decide) (by decide), hsw i 1 (by omega) (by decide) c (by decide), hsw 1 j (by decide) (by omega) (by decide) d, id4c, hb0, h00, tdiv_mul hp0]
    have hb1 : (swapM m1 p 1 1 1).toInt = bM (rA2 A p 1) 1 1 := hsw 1 1 (by decide) (by decide) (by decide) (by decide)
    have hb10 : ¬ bM (rA2 A p 1) 1 1 = 0 := fun q => by
      rw [← hb1] at q
      have e2 : swapM m1 p 1 1 1 = m1 p 1 := by simp [swapM]
      rw [e2] at q
      exact hz (Int64.toInt_inj.mp (by rw [q]; decide))
    have r := two_val (n := 4) (k := 2) (B := 398580750) (D := d4 (rA2 A p 1) 0 1 2 3) (by decide) s1 s2 hb1 hb10 (hc 2 2 (by decide) (by decide) (by decide) (by decide)) (hc 2 3 (by decide) (by decide) (by decide) (by decide)) (hc 3 2 (by decide) (by decide) (by decide) (by decide)) (hc 3 3 (by decide) (by decide) (by decide) (by decide)) (cM_bd hA3 (by decide) (by decide)) (cM_bd hA3 (by decide) (by decide)) (cM_bd hA3 (by decide) (by decide)) (cM_bd hA3 (by decide) (by decide)) (by decide) (id4 (rA2 A p 1))
    rw [r, sw4 A p 1 (by decide) p1 hp, sg_mul]
theorem det_v4 {m : Nat → Nat → Int64} {A : Nat → Nat → Int} (hA : ∀ i j : Nat, i < 4 → j < 4 → (m i j).toInt = A i j ∧ (A i j).natAbs ≤ 405) : (detM 4 m).toInt = d4 A 0 1 2 3 := by
  unfold detM
  obtain ⟨p1, p2, p3⟩ := piv_sp (m := m) (n := 4) (k := 0) (4 - 0) 0 (by omega)
  rw [detG]
  by_cases e : pivG m 4 0 (4 - 0) 0 = 4
  · rw [if_pos e]
    have z0 := zero64 (hA 0 0 (by decide) (by decide)).1 (piv_all (4 - 0) 0 (by omega) e 0 (by omega) (by omega))
    have z1 := zero64 (hA 1 0 (by decide) (by decide)).1 (piv_all (4 - 0) 0 (by omega) e 1 (by omega) (by omega))
    have z2 := zero64 (hA 2 0 (by decide) (by decide)).1 (piv_all (4 - 0) 0 (by omega) e 2 (by omega) (by omega))
    have z3 := zero64 (hA 3 0 (by decide) (by decide)).1 (piv_all (4 - 0) 0 (by omega) e 3 (by omega) (by omega))
    unfold d4 d3 d2
    rw [z0, z1, z2, z3]
    simp
  · rw [if_neg e]
    have hp : pivG m 4 0 (4 - 0) 0 < 4 := by omega
    have hz := p3 hp
    generalize pivG m 4 0 (4 - 0) 0 = p at hp hz
    obtain ⟨s1, s2⟩ := sg_if (p := p) (k := 0) (show (1 : Int64).toInt = 1 by decide) (Or.inl rfl)
    have hA2 : ∀ i j : Nat, i < 4 → j < 4 → (rA2 A p 0 i j).natAbs ≤ 405 := fun i j hi hj => (hA _ _ (row2_lt hp (by decide) hi) hj).2
    have hb0 : (swapM m p 0 0 0).toInt = rA2 A p 0 0 0 := by
      rw [swap_row]
      exact (hA _ _ (row2_lt hp (by decide) (by decide)) (by decide)).1
    have hp0 : ¬ rA2 A p 0 0 0 = 0 := fun q => by
      rw [← hb0] at q
      have e2 : swapM m p 0 0 0 = m p 0 := by simp [swapM]
      rw [e2] at q
      exact hz (Int64.toInt_inj.mp (by rw [q]; decide))
    have r := det_s4 hA2 s1 s2 hb0 hp0 (fun i j a b c d => el_b hA hp c d a b)
    rw [r, sw4 A p 0 (by decide) (Nat.zero_le p) hp, sg_mul, Int.one_mul]
theorem det_v2 {m : Nat → Nat → Int64} {A : Nat → Nat → Int} (hA : ∀ i j : Nat, i < 2 → j < 2 → (m i j).toInt = A i j ∧ (A i j).natAbs ≤ 405) : (detM 2 m).toInt = d2 A 0 1 0 1 := by
  unfold detM
  have r := two_val (n := 2) (k := 0) (m := m) (b := 1) (s := 1) (sg := 1) (p := 1) (B := 405) (D := d2 A 0 1 0 1) (by decide) (by decide) (Or.inl rfl) (by decide) (by decide) (hA 0 0 (by decide) (by decide)).1 (hA 0 1 (by decide) (by decide)).1 (hA 1 0 (by decide) (by decide)).1 (hA 1 1 (by decide) (by decide)).1 (hA 0 0 (by decide) (by decide)).2 (hA 0 1 (by decide) (by decide)).2 (hA 1 0 (by decide) (by decide)).2 (hA 1 1 (by decide) (by decide)).2 (by decide) (by
    unfold d2
    rw [Int.one_mul, Int.mul_comm (A 1 1) (A 0 0), Int.mul_comm (A 1 0) (A 0 1)])
  rw [r, Int.one_mul]
theorem det_v1 {m : Nat → Nat → Int64} {A : Nat → Nat → Int} (hA : ∀ i j : Nat, i < 1 → j < 1 → (m i j).toInt = A i j ∧ (A i j).natAbs ≤ 405) : (detM 1 m).toInt = A 0 0 := by
  unfold detM
  have r := fin_val (n := 1) (k := 0) (m := m) (b := 1) (s := 1) (sg := 1) (by decide) (by decide) (Or.inl rfl) (hA 0 0 (by decide) (by decide)).1 (Nat.le_trans (hA 0 0 (by decide) (by decide)).2 (by decide))
  rw [r, Int.one_mul]
/-- both determinants are the same -/
theorem det_same {n : Nat} {m m2 : Nat → Nat → Int64} (hn : n ≤ 4) (hb : ∀ i j : Nat, i < n → j < n → (m i j).toInt.natAbs ≤ 405) (he : ∀ i j : Nat, i < n → j < n → m2 i j = m i j) : lpD m2 n 4 0 (nI 1 <<< (nI n &&& 31) - nI 1) = detM n m := by
  have hA : ∀ i j : Nat, i < n → j < n → (m i j).toInt = (fun i j => (m i j).toInt) i j ∧ ((fun i j => (m i j).toInt) i j).natAbs ≤ 405 := fun i j hi hj => ⟨rfl, hb i j hi hj⟩
  rw [lpD_c he]
  apply Int64.toInt_inj.mp
  rcases (show n = 0 ∨ n = 1 ∨ n = 2 ∨ n = 3 ∨ n = 4 by omega) with rfl | rfl | rfl | rfl | rfl
  · rfl
  · rw [show nI 1 <<< (nI 1 &&& 31) - nI 1 = nI 1 by decide, (lp_1_0_1 hA).1, det_v1 hA]
  · rw [show nI 1 <<< (nI 2 &&& 31) - nI 1 = nI 3 by decide, (lp_2_0_3 hA).1, det_v2 hA]
  · rw [show nI 1 <<< (nI 3 &&& 31) - nI 1 = nI 7 by decide, (lp_3_0_7 hA).1, det_v3 hA]
  · rw [show nI 1 <<< (nI 4 &&& 31) - nI 1 = nI 15 by decide, (lp_4_0_15 hA).1, det_v4 hA]
theorem worth_same {R M : Nat} {x : Int32} {he t co tr : Nat → Int32} {g : Nat → Nat → Int32} (hR1 : 1 ≤ R) (hR : R ≤ 5) (hM1 : 1 ≤ M) (hM : M ≤ 4) (h : RelT R M he g t) (hl : laid t R M co tr) (hb : tb9 t R M) : lpD (gramC g R M x) (selC x M) 4 0 (nI 1 <<< (nI (selC x M) &&& 31) - nI 1) = worthF co M x := by
  have hs := laid_short hl hb
  refine det_same (Nat.le_trans (selC_le x M) hM) (fun i j hi hj => ?_) (fun i j hi hj => ?_)
  · unfold gramM
    have h1 := selI_lt (x := x) (r := i) M hM1
    have h2 := selI_lt (x := x) (r := j) M hM1
    rw [to64, dot_int (hs _ (by omega)) (hs _ (by omega))]
    exact dt_le (hs _ (by omega)) (hs _ (by omega))
  · unfold gramC gramM
    rw [prod_dot hR1 hR hM (selI_lt M hM1) (selI_lt M hM1) h hl]
