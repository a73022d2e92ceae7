/-! numbers: products and sums that don't wrap around -/
theorem mulB {x y : Int} {a b : Nat} (hx : x.natAbs ≤ a) (hy : y.natAbs ≤ b) : (x * y).natAbs ≤ a * b := by
  rw [Int.natAbs_mul]
  exact Nat.mul_le_mul hx hy
theorem add32 {x y : Int32} (h : -2147483648 ≤ x.toInt + y.toInt ∧ x.toInt + y.toInt < 2147483648) : (x + y).toInt = x.toInt + y.toInt := by
  rw [Int32.toInt_add]
  exact Int.bmod_eq_of_le (by omega) (by omega)
theorem sub32 {x y : Int32} (h : -2147483648 ≤ x.toInt - y.toInt ∧ x.toInt - y.toInt < 2147483648) : (x - y).toInt = x.toInt - y.toInt := by
  rw [Int32.toInt_sub]
  exact Int.bmod_eq_of_le (by omega) (by omega)
theorem neg32 {x : Int32} (h : -2147483648 ≤ -x.toInt ∧ -x.toInt < 2147483648) : (-x).toInt = -x.toInt := by
  rw [Int32.toInt_neg]
  exact Int.bmod_eq_of_le (by omega) (by omega)
theorem mul32 {x y : Int32} {a b : Nat} (hx : x.toInt.natAbs ≤ a) (hy : y.toInt.natAbs ≤ b) (hab : a * b < 2147483648) : (x * y).toInt = x.toInt * y.toInt ∧ (x.toInt * y.toInt).natAbs ≤ a * b := by
  have h := mulB hx hy
  refine ⟨?_, h⟩
  rw [Int32.toInt_mul]
  exact Int.bmod_eq_of_le (by omega) (by omega)
theorem sq_nn (a : Int) : 0 ≤ a * a := by
  rcases Int.le_total 0 a with h | h
  · exact Int.mul_nonneg h h
  · have := Int.mul_nonneg (show 0 ≤ -a by omega) (show 0 ≤ -a by omega)
    rw [Int.neg_mul_neg] at this
    exact this
theorem sq_20 {a : Int} (h : a * a ≤ 405) : a.natAbs ≤ 20 := by
  rcases Nat.lt_or_ge 20 a.natAbs with g | g
  · have h0 := sq_nn a
    have h1 := Int.natAbs_mul a a
    have h2 : 21 * 21 ≤ a.natAbs * a.natAbs := Nat.mul_le_mul g g
    omega
  · exact g
theorem two_xy (x y : Int) : 2 * (x * y) ≤ x * x + y * y ∧ -(2 * (x * y)) ≤ x * x + y * y := by
  have h1 := sq_nn (x - y)
  have h2 := sq_nn (x + y)
  have e1 : (x - y) * (x - y) = x * x - 2 * (x * y) + y * y := by
    rw [Int.sub_mul, Int.mul_sub, Int.mul_sub, Int.mul_comm y x]
    omega
  have e2 : (x + y) * (x + y) = x * x + 2 * (x * y) + y * y := by
    rw [Int.add_mul, Int.mul_add, Int.mul_add, Int.mul_comm y x]
    omega
  omega
/-! the columns -/
def cI (f : Nat → Int32) (i r : Nat) : Int := (f (5 * i + r)).toInt
def dtI (f : Nat → Int32) (i j : Nat) : Int := cI f i 0 * cI f j 0 + cI f i 1 * cI f j 1 + cI f i 2 * cI f j 2 + cI f i 3 * cI f j 3 + cI f i 4 * cI f j 4
def short (f : Nat → Int32) : Prop := ∀ i : Nat, i < 4 → dtI f i i ≤ 405
def SI (f : Nat → Int32) : Int := dtI f 0 0 + dtI f 1 1 + dtI f 2 2 + dtI f 3 3
theorem dt_nn (f : Nat → Int32) (i : Nat) : 0 ≤ dtI f i i := by
  have h0 := sq_nn (cI f i 0)
  have h1 := sq_nn (cI f i 1)
  have h2 := sq_nn (cI f i 2)
  have h3 := sq_nn (cI f i 3)
  have h4 := sq_nn (cI f i 4)
  unfold dtI
  omega
theorem SI_nn (f : Nat → Int32) : 0 ≤ SI f := by
  have h0 := dt_nn f 0
  have h1 := dt_nn f 1
  have h2 := dt_nn f 2
  have h3 := dt_nn f 3
  unfold SI
  omega
theorem c_20 {f : Nat → Int32} {i : Nat} (h : dtI f i i ≤ 405) : (cI f i 0).natAbs ≤ 20 ∧ (cI f i 1).natAbs ≤ 20 ∧ (cI f i 2).natAbs ≤ 20 ∧ (cI f i 3).natAbs ≤ 20 ∧ (cI f i 4).natAbs ≤ 20 := by
  have h0 := sq_nn (cI f i 0)
  have h1 := sq_nn (cI f i 1)
  have h2 := sq_nn (cI f i 2)
  have h3 := sq_nn (cI f i 3)
  have h4 := sq_nn (cI f i 4)
  unfold dtI at h
  exact ⟨sq_20 (by omega), sq_20 (by omega), sq_20 (by omega), sq_20 (by omega), sq_20 (by omega)⟩
theorem dt_le {f : Nat → Int32} {i j : Nat} (hi : dtI f i i ≤ 405) (hj : dtI f j j ≤ 405) : (dtI f i j).natAbs ≤ 405 := by
  have h0 := two_xy (cI f i 0) (cI f j 0)
  have h1 := two_xy (cI f i 1) (cI f j 1)
  have h2 := two_xy (cI f i 2) (cI f j 2)
  have h3 := two_xy (cI f i 3) (cI f j 3)
  have h4 := two_xy (cI f i 4) (cI f j 4)
  unfold dtI at *
  omega
theorem sum5 {p0 p1 p2 p3 p4 : Int32} (h0 : p0.toInt.natAbs ≤ 400) (h1 : p1.toInt.natAbs ≤ 400) (h2 : p2.toInt.natAbs ≤ 400) (h3 : p3.toInt.natAbs ≤ 400) (h4 : p4.toInt.natAbs ≤ 400) : (nI 0 + p0 + p1 + p2 + p3 + p4).toInt = p0.toInt + p1.toInt + p2.toInt + p3.toInt + p4.toInt := by
  have z : (nI 0).toInt = 0 := by decide
  have a0 := add32 (x := nI 0) (y := p0) (by omega)
  have a1 := add32 (x := nI 0 + p0) (y := p1) (by omega)
  have a2 := add32 (x := nI 0 + p0 + p1) (y := p2) (by omega)
  have a3 := add32 (x := nI 0 + p0 + p1 + p2) (y := p3) (by omega)
  have a4 := add32 (x := nI 0 + p0 + p1 + p2 + p3) (y := p4) (by omega)
  omega
theorem dot_int {f : Nat → Int32} {i j : Nat} (hi : dtI f i i ≤ 405) (hj : dtI f j j ≤ 405) : (dotF f i j).toInt = dtI f i j := by
  obtain ⟨a0, a1, a2, a3, a4⟩ := c_20 hi
  obtain ⟨b0, b1, b2, b3, b4⟩ := c_20 hj
  obtain ⟨m0, n0⟩ := mul32 (x := f (5 * i + 0)) (y := f (5 * j + 0)) a0 b0 (by decide)
  obtain ⟨m1, n1⟩ := mul32 (x := f (5 * i + 1)) (y := f (5 * j + 1)) a1 b1 (by decide)
  obtain ⟨m2, n2⟩ := mul32 (x := f (5 * i + 2)) (y := f (5 * j + 2)) a2 b2 (by decide)
  obtain ⟨m3, n3⟩ := mul32 (x := f (5 * i + 3)) (y := f (5 * j + 3)) a3 b3 (by decide)
  obtain ⟨m4, n4⟩ := mul32 (x := f (5 * i + 4)) (y := f (5 * j + 4)) a4 b4 (by decide)
  unfold dotF dtI
  rw [sum5 (by rw [m0]; exact n0) (by rw [m1]; exact n1) (by rw [m2]; exact n2) (by rw [m3]; exact n3) (by rw [m4]; exact n4), m0, m1, m2, m3, m4]
  rfl
theorem div32 {x y : Int32} {a : Nat} (hx : x.toInt.natAbs ≤ a) (ha : a < 2147483648) : (x / y).toInt = x.toInt.tdiv y.toInt ∧ (x / y).toInt.natAbs ≤ a := by
  have h1 : (x.toInt.tdiv y.toInt).natAbs ≤ a := by
    rw [Int.natAbs_tdiv]
    exact Nat.le_trans (Nat.div_le_self _ _) hx
  have e : (x / y).toInt = x.toInt.tdiv y.toInt := by
    rw [Int32.toInt_div]
    exact Int.bmod_eq_of_le (by omega) (by omega)
  exact ⟨e, by rw [e]; exact h1⟩
theorem nw_bd {up low : Int32} (hu : up.toInt.natAbs ≤ 405) (h2 : low.toInt.natAbs ≤ 405) : (nwF up low).toInt.natAbs ≤ 1300 := by
  have z2 : (nI 2).toInt = 2 := by decide
  have z1 : (nI 1).toInt = 1 := by decide
  unfold nwF
  split
  · have a1 := (mul32 (x := nI 2) (y := up) (a := 2) (b := 405) (by rw [z2]; decide) hu (by decide)).1
    rw [z2] at a1
    have a2 := add32 (x := nI 2 * up) (y := low) (by omega)
    have a3 := sub32 (x := nI 2 * up + low) (y := nI 1) (by omega)
    exact (div32 (x := nI 2 * up + low - nI 1) (y := nI 2 * low) (a := 1300) (by omega) (by decide)).2
  · have n1 := neg32 (x := up) (by omega)
    have a1 := (mul32 (x := nI 2) (y := -up) (a := 2) (b := 405) (by rw [z2]; decide) (by omega) (by decide)).1
    rw [z2] at a1
    have a2 := add32 (x := nI 2 * -up) (y := low) (by omega)
    have a3 := sub32 (x := nI 2 * -up + low) (y := nI 1) (by omega)
    have a4 := (div32 (x := nI 2 * -up + low - nI 1) (y := nI 2 * low) (a := 1300) (by omega) (by decide)).2
    have a5 := neg32 (x := (nI 2 * -up + low - nI 1) / (nI 2 * low)) (by omega)
    omega
theorem two_low {low : Int32} (h2 : low.toInt.natAbs ≤ 405) (h : ¬ low = 0) : ¬ nI 2 * low = 0 := fun e => by
  have z2 : (nI 2).toInt = 2 := by decide
  have a1 := (mul32 (x := nI 2) (y := low) (a := 2) (b := 405) (by rw [z2]; decide) h2 (by decide)).1
  rw [z2, e] at a1
  have z0 : (0 : Int32).toInt = 0 := by decide
  rw [z0] at a1
  exact h (Int32.toInt_inj.mp (by rw [z0]; omega))
theorem sqexp (a b Q : Int) : (a - Q * b) * (a - Q * b) = a * a + Q * (Q * (b * b)) - Q * (2 * (a * b)) := by grind
theorem step_id (a0 a1 a2 a3 a4 b0 b1 b2 b3 b4 Q : Int) : (a0 - Q * b0) * (a0 - Q * b0) + (a1 - Q * b1) * (a1 - Q * b1) + (a2 - Q * b2) * (a2 - Q * b2) + (a3 - Q * b3) * (a3 - Q * b3) + (a4 - Q * b4) * (a4 - Q * b4) = (a0 * a0 + a1 * a1 + a2 * a2 + a3 * a3 + a4 * a4) + Q * (Q * (b0 * b0 + b1 * b1 + b2 * b2 + b3 * b3 + b4 * b4) - 2 * (a0 * b0 + a1 * b1 + a2 * b2 + a3 * b3 + a4 * b4)) := by
  rw [sqexp, sqexp, sqexp, sqexp, sqexp]
  simp only [Int.mul_add, Int.mul_sub]
  omega
/-- what steps() takes as a step, over whole numbers -/
theorem stepv {f : Nat → Int32} {i j : Nat} {q : Int32} (hi : dtI f i i ≤ 405) (hj : dtI f j j ≤ 405) (hq : q.toInt.natAbs ≤ 1300) : (q * (q * dotF f j j - nI 2 * dotF f i j)).toInt = q.toInt * (q.toInt * dtI f j j - 2 * dtI f i j) := by
  have z2 : (nI 2).toInt = 2 := by decide
  have d1 := dot_int hj hj
  have d2 := dot_int hi hj
  have l1 := dt_le hj hj
  have l2 := dt_le hi hj
  obtain ⟨m1, k1⟩ := mul32 (x := q) (y := dotF f j j) (a := 1300) (b := 405) hq (by rw [d1]; exact l1) (by decide)
  obtain ⟨m2, k2⟩ := mul32 (x := nI 2) (y := dotF f i j) (a := 2) (b := 405) (by rw [z2]; decide) (by rw [d2]; exact l2) (by decide)
  have s1 := sub32 (x := q * dotF f j j) (y := nI 2 * dotF f i j) (by omega)
  obtain ⟨m3, k3⟩ := mul32 (x := q) (y := q * dotF f j j - nI 2 * dotF f i j) (a := 1300) (b := 528000) hq (by omega) (by decide)
  rw [m3, s1, m1, m2, z2, d1, d2]
theorem step_sq {f g : Nat → Int32} {i j : Nat} {q : Int32} (hi4 : i < 4) (hj4 : j < 4) (hb : short f) (hq : q.toInt.natAbs ≤ 1300) (hneg : q * (q * dotF f j j - nI 2 * dotF f i j) < 0) (hg : ∀ t : Nat, t < 5 → g (5 * i + t) = f (5 * i + t) - q * f (5 * j + t)) (ho : ∀ p : Nat, p < 20 → ¬ (5 * i ≤ p ∧ p < 5 * i + 5) → g p = f p) : short g ∧ SI g < SI f := by
  have hi := hb i hi4
  have hj := hb j hj4
  have z0 : (0 : Int32).toInt = 0 := by decide
  rw [Int32.lt_iff_toInt_lt, stepv hi hj hq, z0] at hneg
  obtain ⟨a0, a1, a2, a3, a4⟩ := c_20 hi
  obtain ⟨b0, b1, b2, b3, b4⟩ := c_20 hj
  have one : ∀ t : Nat, t < 5 → (cI f i t).natAbs ≤ 20 → (cI f j t).natAbs ≤ 20 → cI g i t = cI f i t - q.toInt * cI f j t := fun t ht h1 h2 => by
    obtain ⟨m1, k1⟩ := mul32 (x := q) (y := f (5 * j + t)) (a := 1300) (b := 20) hq h2 (by decide)
    have h1 : (f (5 * i + t)).toInt.natAbs ≤ 20 := h1
    unfold cI
    rw [hg t ht, sub32 (by omega), m1]
  have e0 := one 0 (by decide) a0 b0
  have e1 := one 1 (by decide) a1 b1
  have e2 := one 2 (by decide) a2 b2
  have e3 := one 3 (by decide) a3 b3
  have e4 := one 4 (by decide) a4 b4
  have new : dtI g i i < dtI f i i := by
    have e : dtI g i i = dtI f i i + q.toInt * (q.toInt * dtI f j j - 2 * dtI f i j) := by
      unfold dtI
      rw [e0, e1, e2, e3, e4, step_id]
    omega
  have old : ∀ t : Nat, t < 4 → ¬ t = i → dtI g t t = dtI f t t := fun t ht hne => by
    have c : ∀ r : Nat, r < 5 → cI g t r = cI f t r := fun r hr => by
      unfold cI
      rw [ho (5 * t + r) (by omega) (by omega)]
    unfold dtI
    rw [c 0 (by decide), c 1 (by decide), c 2 (by decide), c 3 (by decide), c 4 (by decide)]
  refine ⟨fun t ht => ?_, ?_⟩
  · by_cases e : t = i
    · rw [e]
      omega
    · rw [old t ht e]
      exact hb t ht
  · unfold SI
    rcases (show i = 0 ∨ i = 1 ∨ i = 2 ∨ i = 3 by omega) with rfl | rfl | rfl | rfl
    · rw [old 1 (by decide) (by decide), old 2 (by decide) (by decide), old 3 (by decide) (by decide)]
      omega
    · rw [old 0 (by decide) (by decide), old 2 (by decide) (by decide), old 3 (by decide) (by decide)]
      omega
    · rw [old 0 (by decide) (by decide), old 1 (by decide) (by decide), old 3 (by decide) (by decide)]
      omega
    · rw [old 0 (by decide) (by decide), old 1 (by decide) (by decide), old 2 (by decide) (by decide)]
      omega
def b9 (x : Int32) : Prop := -9 ≤ x.toInt ∧ x.toInt ≤ 9
def tb9 (t : Nat → Int32) (R M : Nat) : Prop := ∀ i j : Nat, i < R → j < M → b9 (t (5 * i + j))
theorem laid_short {t co tr : Nat → Int32} {R M : Nat} (h : laid t R M co tr) (hb : tb9 t R M) : short co := fun c hc => by
  have one : ∀ r : Nat, r < 5 → (cI co c r).natAbs ≤ 9 := fun r hr => by
    unfold cI
    rw [h.1 (5 * c + r) (by omega), show (5 * c + r) / 5 = c by omega, show (5 * c + r) % 5 = r by omega]
    unfold colF
    split
    · rename_i g
      have := hb r c g.2 g.1
      unfold b9 at this
      omega
    · decide
  have p : ∀ r : Nat, r < 5 → (cI co c r * cI co c r).natAbs ≤ 9 * 9 := fun r hr => mulB (one r hr) (one r hr)
  have h0 := p 0 (by decide)
  have h1 := p 1 (by decide)
  have h2 := p 2 (by decide)
  have h3 := p 3 (by decide)
  have h4 := p 4 (by decide)
  unfold dtI
  omega
