theorem mul64 {x y : Int64} {a b : Nat} (hx : x.toInt.natAbs ≤ a) (hy : y.toInt.natAbs ≤ b) (hab : a * b < 9223372036854775808) : (x * y).toInt = x.toInt * y.toInt ∧ (x.toInt * y.toInt).natAbs ≤ a * b := by
  have h := mulB hx hy
  refine ⟨?_, h⟩
  rw [Int64.toInt_mul]
  exact Int.bmod_eq_of_le (by omega) (by omega)
theorem sub64 {x y : Int64} (h : -9223372036854775808 ≤ x.toInt - y.toInt ∧ x.toInt - y.toInt < 9223372036854775808) : (x - y).toInt = x.toInt - y.toInt := by
  rw [Int64.toInt_sub]
  exact Int.bmod_eq_of_le (by omega) (by omega)
theorem div64 {x y : Int64} {a : Nat} (hx : x.toInt.natAbs ≤ a) (ha : a < 9223372036854775808) : (x / y).toInt = x.toInt.tdiv y.toInt ∧ (x / y).toInt.natAbs ≤ a := by
  have h1 : (x.toInt.tdiv y.toInt).natAbs ≤ a := by
    rw [Int.natAbs_tdiv]
    exact Nat.le_trans (Nat.div_le_self _ _) hx
  have e : (x / y).toInt = x.toInt.tdiv y.toInt := by
    rw [Int64.toInt_div]
    exact Int.bmod_eq_of_le (by omega) (by omega)
  exact ⟨e, by rw [e]; exact h1⟩
theorem el64 {x y z w b : Int64} {B : Nat} (hx : x.toInt.natAbs ≤ B) (hy : y.toInt.natAbs ≤ B) (hz : z.toInt.natAbs ≤ B) (hw : w.toInt.natAbs ≤ B) (hB : 2 * (B * B) < 9223372036854775808) : ((x * y - z * w) / b).toInt = (x.toInt * y.toInt - z.toInt * w.toInt).tdiv b.toInt ∧ ((x * y - z * w) / b).toInt.natAbs ≤ 2 * (B * B) := by
  obtain ⟨m1, k1⟩ := mul64 hx hy (by omega)
  obtain ⟨m2, k2⟩ := mul64 hz hw (by omega)
  have s1 := sub64 (x := x * y) (y := z * w) (by omega)
  obtain ⟨d1, d2⟩ := div64 (x := x * y - z * w) (y := b) (a := 2 * (B * B)) (by omega) hB
  exact ⟨by rw [d1, s1, m1, m2], d2⟩
theorem piv_sp {m : Nat → Nat → Int64} {n k : Nat} : ∀ (f r : Nat), r + f = n → r ≤ pivG m n k f r ∧ pivG m n k f r ≤ n ∧ (pivG m n k f r < n → ¬ m (pivG m n k f r) k = 0)
  | 0, r, h => by
    rw [pivG]
    exact ⟨Nat.le_refl _, by omega, fun g => by omega⟩
  | f + 1, r, h => by
    rw [pivG]
    split
    · obtain ⟨a, b, c⟩ := piv_sp (m := m) (n := n) (k := k) f (r + 1) (by omega)
      exact ⟨by omega, b, c⟩
    · rename_i g
      exact ⟨Nat.le_refl _, by omega, fun _ e => g ⟨by omega, e⟩⟩
def sgn (s : Int64) : Prop := s = 1 ∨ s = -1
theorem sgn_if {s : Int64} {p k : Nat} (h : sgn s) : sgn (if p = k then s else 0 - s) := by
  split
  · exact h
  · rcases h with rfl | rfl
    · exact Or.inr (by decide)
    · exact Or.inl (by decide)
theorem sgn_mul {s b : Int64} {B : Nat} (h : sgn s) (hb : b.toInt.natAbs ≤ B) (hB : B < 9223372036854775808) : (s * b).toInt.natAbs ≤ B := by
  have hs : s.toInt.natAbs ≤ 1 := by rcases h with rfl | rfl <;> decide
  obtain ⟨m1, k1⟩ := mul64 hs hb (by omega)
  rw [m1]
  omega
def CD : Nat := 400000000000000000
theorem det_fin {n k : Nat} {m : Nat → Nat → Int64} {b s : Int64} (hk : k + 1 = n) (hs : sgn s) (h : (m k k).toInt.natAbs ≤ CD) : (detG n 1 k m b s).toInt.natAbs ≤ CD := by
  obtain ⟨p1, p2, p3⟩ := piv_sp (m := m) (n := n) (k := k) (n - k) k (by omega)
  rw [detG]
  split
  · decide
  · rw [detG]
    have e : pivG m n k (n - k) k = k := by omega
    rw [e]
    refine sgn_mul (sgn_if hs) ?_ (by decide)
    simp only [swapM, if_true]
    exact h
def row2 (p k r : Nat) : Nat := if r = k then p else if r = p then k else r
theorem swap_row (m : Nat → Nat → Int64) (p k r c : Nat) : swapM m p k r c = m (row2 p k r) c := by
  unfold swapM row2
  split
  · rfl
  · split <;> rfl
theorem row2_ge {p k r : Nat} (hp : k ≤ p) (hr : k ≤ r) : k ≤ row2 p k r := by
  unfold row2
  split
  · exact hp
  · split <;> omega
theorem row2_lt {p k r n : Nat} (hp : p < n) (hk : k < n) (hr : r < n) : row2 p k r < n := by
  unfold row2
  split
  · exact hp
  · split <;> omega
theorem elim_at {m : Nat → Nat → Int64} {k r c : Nat} {b : Int64} (hr : k < r) (hc : k < c) : elimM m k b r c = (m r c * m k k - m r k * m k c) / b := by
  unfold elimM
  rw [if_pos ⟨hr, hc⟩]
theorem det_2 {n f : Nat} {m : Nat → Nat → Int64} {b s : Int64} (hn : n ≤ 4) (hf : f + 3 = n) (hs : sgn s) (h : ∀ r c : Nat, 2 ≤ r → 2 ≤ c → r < n → c < n → (m r c).toInt.natAbs ≤ 398580750) : (detG n (f + 1) 2 m b s).toInt.natAbs ≤ CD := by
  rcases (show f = 0 ∨ f = 1 by omega) with rfl | rfl
  · refine det_fin (by omega) hs (Nat.le_trans (h 2 2 (by omega) (by omega) (by omega) (by omega)) (by decide))
  · have hn4 : n = 4 := by omega
    subst hn4
    obtain ⟨p1, p2, p3⟩ := piv_sp (m := m) (n := 4) (k := 2) (4 - 2) 2 (by omega)
    rw [detG]
    split
    · decide
    · refine det_fin (by omega) (sgn_if hs) ?_
      have hp : pivG m 4 2 (4 - 2) 2 < 4 := by omega
      generalize pivG m 4 2 (4 - 2) 2 = p at p1 p2 p3 hp
      rw [elim_at (by decide) (by decide), swap_row, swap_row, swap_row, swap_row]
      have r3 := row2_ge (p := p) (k := 2) (r := 3) p1 (by decide)
      have r2 := row2_ge (p := p) (k := 2) (r := 2) p1 (by decide)
      have l3 := row2_lt (p := p) (k := 2) (r := 3) hp (by decide) (by decide)
      have l2 := row2_lt (p := p) (k := 2) (r := 2) hp (by decide) (by decide)
      refine Nat.le_trans (el64 (B := 398580750) (h _ _ r3 (by decide) l3 (by decide)) (h _ _ r2 (by decide) l2 (by decide)) (h _ _ r3 (by decide) l3 (by decide)) (h _ _ r2 (by decide) l2 (by decide)) (by decide)).2 (by decide)
theorem bar3 (a00 a01 a0c ai0 ai1 aic ap0 ap1 apc : Int) : (aic * a00 - ai0 * a0c) * (ap1 * a00 - ap0 * a01) - (ai1 * a00 - ai0 * a01) * (apc * a00 - ap0 * a0c) = a00 * (aic * a00 * ap1 - aic * ap0 * a01 - ai0 * a0c * ap1 - ai1 * a00 * apc + ai1 * ap0 * a0c + ai0 * a01 * apc) := by grind
theorem min_bd {a b c : Int} (ha : a.natAbs ≤ 405) (hb : b.natAbs ≤ 405) (hc : c.natAbs ≤ 405) : (a * b * c).natAbs ≤ 66430125 := Nat.le_trans (mulB (mulB ha hb) hc) (by decide)
theorem det_1 {n f : Nat} {m : Nat → Nat → Int64} {b s : Int64} (hn : n ≤ 4) (hf : f + 2 = n) (hs : sgn s) (A : Nat → Nat → Int) (hA : ∀ r c : Nat, r < n → c < n → (A r c).natAbs ≤ 405) (hb : b.toInt = A 0 0) (hb0 : ¬ A 0 0 = 0)
    (h : ∀ r c : Nat, 1 ≤ r → 1 ≤ c → r < n → c < n → (m r c).toInt = A r c * A 0 0 - A r 0 * A 0 c) : (detG n (f + 1) 1 m b s).toInt.natAbs ≤ CD := by
  have hm : ∀ r c : Nat, 1 ≤ r → 1 ≤ c → r < n → c < n → (m r c).toInt.natAbs ≤ 328050 := fun r c h1 h2 h3 h4 => by
    have k1 := mulB (hA r c h3 h4) (hA 0 0 (by omega) (by omega))
    have k2 := mulB (hA r 0 h3 (by omega)) (hA 0 c (by omega) h4)
    rw [h r c h1 h2 h3 h4]
    omega
  rcases (show f = 0 ∨ 1 ≤ f by omega) with rfl | hf1
  · refine det_fin (by omega) hs (Nat.le_trans (hm 1 1 (by omega) (by omega) (by omega) (by omega)) (by decide))
  · obtain ⟨g, rfl⟩ : ∃ g : Nat, f = g + 1 := ⟨f - 1, by omega⟩
    obtain ⟨p1, p2, p3⟩ := piv_sp (m := m) (n := n) (k := 1) (n - 1) 1 (by omega)
    rw [detG]
    split
    · decide
    · have hp : pivG m n 1 (n - 1) 1 < n := by omega
      generalize pivG m n 1 (n - 1) 1 = p at p1 p2 p3 hp
      refine det_2 (f := g) hn (by omega) (sgn_if hs) ?_
      intro r c h1 h2 h3 h4
      rw [elim_at (by omega) (by omega), swap_row, swap_row, swap_row, swap_row]
      have q1 := row2_ge (p := p) (k := 1) (r := r) p1 (by omega)
      have q2 := row2_ge (p := p) (k := 1) (r := 1) p1 (by omega)
      have l1 := row2_lt (p := p) (k := 1) (r := r) hp (by omega) h3
      have l2 := row2_lt (p := p) (k := 1) (r := 1) hp (by omega) (by omega)
      generalize row2 p 1 r = i at q1 l1 ⊢
      generalize row2 p 1 1 = u at q2 l2 ⊢
      rw [(el64 (B := 328050) (hm i c q1 (by omega) l1 h4) (hm u 1 q2 (by omega) l2 (by omega)) (hm i 1 q1 (by omega) l1 (by omega)) (hm u c q2 (by omega) l2 h4) (by decide)).1]
      rw [h i c q1 (by omega) l1 h4, h u 1 q2 (by omega) l2 (by omega), h i 1 q1 (by omega) l1 (by omega), h u c q2 (by omega) l2 h4, bar3, hb, Int.mul_tdiv_cancel_left _ hb0]
      have t1 := min_bd (hA i c l1 h4) (hA 0 0 (by omega) (by omega)) (hA u 1 l2 (by omega))
      have t2 := min_bd (hA i c l1 h4) (hA u 0 l2 (by omega)) (hA 0 1 (by omega) (by omega))
      have t3 := min_bd (hA i 0 l1 (by omega)) (hA 0 c (by omega) h4) (hA u 1 l2 (by omega))
      have t4 := min_bd (hA i 1 l1 (by omega)) (hA 0 0 (by omega) (by omega)) (hA u c l2 h4)
      have t5 := min_bd (hA i 1 l1 (by omega)) (hA u 0 l2 (by omega)) (hA 0 c (by omega) h4)
      have t6 := min_bd (hA i 0 l1 (by omega)) (hA 0 1 (by omega) (by omega)) (hA u c l2 h4)
      omega
theorem det_bd {n : Nat} {m : Nat → Nat → Int64} (hn : n ≤ 4) (h : ∀ r c : Nat, r < n → c < n → (m r c).toInt.natAbs ≤ 405) : (detM n m).toInt.natAbs ≤ CD := by
  unfold detM
  rcases (show n = 0 ∨ n = 1 ∨ 2 ≤ n by omega) with rfl | rfl | h2
  · rw [detG]
    decide
  · exact det_fin (by omega) (Or.inl rfl) (Nat.le_trans (h 0 0 (by omega) (by omega)) (by decide))
  · obtain ⟨g, rfl⟩ : ∃ g : Nat, n = g + 2 := ⟨n - 2, by omega⟩
    obtain ⟨p1, p2, p3⟩ := piv_sp (m := m) (n := g + 2) (k := 0) (g + 2 - 0) 0 (by omega)
    rw [detG]
    split
    · decide
    · have hp : pivG m (g + 2) 0 (g + 2 - 0) 0 < g + 2 := by omega
      generalize pivG m (g + 2) 0 (g + 2 - 0) 0 = p at p1 p2 p3 hp
      have hs : ∀ r c : Nat, r < g + 2 → c < g + 2 → (swapM m p 0 r c).toInt.natAbs ≤ 405 := fun r c hr hc => by
        rw [swap_row]
        exact h _ _ (row2_lt hp (by omega) hr) hc
      refine det_1 (f := g) hn rfl (sgn_if (Or.inl rfl)) (fun r c => (swapM m p 0 r c).toInt) hs rfl ?_ ?_
      · intro e
        have e2 : swapM m p 0 0 0 = m p 0 := by simp [swapM]
        rw [e2] at e
        exact p3 hp (Int64.toInt_inj.mp (by rw [e]; decide))
      · intro r c h1 h2 h3 h4
        rw [elim_at (by omega) (by omega), (el64 (B := 405) (hs r c h3 h4) (hs 0 0 (by omega) (by omega)) (hs r 0 h3 (by omega)) (hs 0 c (by omega) h4) (by decide)).1]
        rw [show (1 : Int64).toInt = 1 by decide, Int.tdiv_one]
theorem to64 (x : Int32) : x.toInt64.toInt = x.toInt := Int32.toInt_toInt64 x
theorem selI_lt {x : Int32} {r : Nat} : ∀ M : Nat, 1 ≤ M → selI x r M < M
  | 0, h => absurd h (by decide)
  | M + 1, _ => by
    rw [selI]
    split
    · omega
    · rcases Nat.eq_zero_or_pos M with rfl | g
      · rw [selI]
        omega
      · have := selI_lt (x := x) (r := r) M g
        omega
theorem worth_bd {co : Nat → Int32} {M : Nat} {x : Int32} (hM1 : 1 ≤ M) (hM : M ≤ 4) (h : short co) : (worthF co M x).toInt.natAbs ≤ CD := by
  refine det_bd (Nat.le_trans (selC_le x M) hM) (fun r c _ _ => ?_)
  unfold gramM
  have h1 := selI_lt (x := x) (r := r) M hM1
  have h2 := selI_lt (x := x) (r := c) M hM1
  rw [to64, dot_int (h _ (by omega)) (h _ (by omega))]
  exact dt_le (h _ (by omega)) (h _ (by omega))
theorem two_worth {co : Nat → Int32} {M : Nat} {x : Int32} (hM1 : 1 ≤ M) (hM : M ≤ 4) (h : short co) (hw : ¬ worthF co M x = 0) : ¬ 2 * worthF co M x = 0 := fun e => by
  have hb := worth_bd (x := x) hM1 hM h
  have z2 : (2 : Int64).toInt = 2 := by decide
  have z0 : (0 : Int64).toInt = 0 := by decide
  obtain ⟨m1, -⟩ := mul64 (x := 2) (y := worthF co M x) (a := 2) (b := CD) (by rw [z2]; decide) hb (by decide)
  rw [e, z2, z0] at m1
  exact hw (Int64.toInt_inj.mp (by rw [z0]; omega))
