theorem d_sym (f : Nat → Int32) (i j : Nat) : dtI f i j = dtI f j i := by
  unfold dtI
  rw [Int.mul_comm (cI f i 0), Int.mul_comm (cI f i 1), Int.mul_comm (cI f i 2), Int.mul_comm (cI f i 3), Int.mul_comm (cI f i 4)]
/-- one row of the table, times numbers for four columns -/
def lnI (f : Nat → Int32) (s : Nat → Nat) (v0 v1 v2 v3 : Int) (r : Nat) : Int := cI f (s 0) r * v0 + cI f (s 1) r * v1 + cI f (s 2) r * v2 + cI f (s 3) r * v3
def gS (f : Nat → Int32) (s : Nat → Nat) : Nat → Nat → Int := fun i j => dtI f (s i) (s j)
def gMv (A : Nat → Nat → Int) (v0 v1 v2 v3 : Int) (i : Nat) : Int := A i 0 * v0 + A i 1 * v1 + A i 2 * v2 + A i 3 * v3
def qMv (A : Nat → Nat → Int) (v0 v1 v2 v3 : Int) : Int := v0 * gMv A v0 v1 v2 v3 0 + v1 * gMv A v0 v1 v2 v3 1 + v2 * gMv A v0 v1 v2 v3 2 + v3 * gMv A v0 v1 v2 v3 3
theorem gMv_ln (f : Nat → Int32) (s : Nat → Nat) (v0 v1 v2 v3 : Int) (i : Nat) : gMv (gS f s) v0 v1 v2 v3 i = cI f (s i) 0 * lnI f s v0 v1 v2 v3 0 + cI f (s i) 1 * lnI f s v0 v1 v2 v3 1 + cI f (s i) 2 * lnI f s v0 v1 v2 v3 2 + cI f (s i) 3 * lnI f s v0 v1 v2 v3 3 + cI f (s i) 4 * lnI f s v0 v1 v2 v3 4 := by
  unfold gMv gS lnI dtI
  grind
theorem qMv_ln (f : Nat → Int32) (s : Nat → Nat) (v0 v1 v2 v3 : Int) : qMv (gS f s) v0 v1 v2 v3 = lnI f s v0 v1 v2 v3 0 * lnI f s v0 v1 v2 v3 0 + lnI f s v0 v1 v2 v3 1 * lnI f s v0 v1 v2 v3 1 + lnI f s v0 v1 v2 v3 2 * lnI f s v0 v1 v2 v3 2 + lnI f s v0 v1 v2 v3 3 * lnI f s v0 v1 v2 v3 3 + lnI f s v0 v1 v2 v3 4 * lnI f s v0 v1 v2 v3 4 := by
  unfold qMv
  rw [gMv_ln, gMv_ln, gMv_ln, gMv_ln]
  have e : ∀ r : Nat, lnI f s v0 v1 v2 v3 r = cI f (s 0) r * v0 + cI f (s 1) r * v1 + cI f (s 2) r * v2 + cI f (s 3) r * v3 := fun r => rfl
  have h : ∀ r : Nat, lnI f s v0 v1 v2 v3 r * lnI f s v0 v1 v2 v3 r = v0 * (cI f (s 0) r * lnI f s v0 v1 v2 v3 r) + v1 * (cI f (s 1) r * lnI f s v0 v1 v2 v3 r) + v2 * (cI f (s 2) r * lnI f s v0 v1 v2 v3 r) + v3 * (cI f (s 3) r * lnI f s v0 v1 v2 v3 r) := fun r => by
    rw [e r]
    grind
  rw [h 0, h 1, h 2, h 3, h 4]
  generalize lnI f s v0 v1 v2 v3 0 = y0
  generalize lnI f s v0 v1 v2 v3 1 = y1
  generalize lnI f s v0 v1 v2 v3 2 = y2
  generalize lnI f s v0 v1 v2 v3 3 = y3
  generalize lnI f s v0 v1 v2 v3 4 = y4
  grind
theorem sq_0 {a : Int} (h : a * a = 0) : a = 0 := (Int.mul_eq_zero.mp h).elim id id
theorem qMv_nn (f : Nat → Int32) (s : Nat → Nat) (v0 v1 v2 v3 : Int) : 0 ≤ qMv (gS f s) v0 v1 v2 v3 := by
  rw [qMv_ln]
  have h0 := sq_nn (lnI f s v0 v1 v2 v3 0)
  have h1 := sq_nn (lnI f s v0 v1 v2 v3 1)
  have h2 := sq_nn (lnI f s v0 v1 v2 v3 2)
  have h3 := sq_nn (lnI f s v0 v1 v2 v3 3)
  have h4 := sq_nn (lnI f s v0 v1 v2 v3 4)
  omega
theorem qMv_z {f : Nat → Int32} {s : Nat → Nat} {v0 v1 v2 v3 : Int} (h : qMv (gS f s) v0 v1 v2 v3 = 0) (i : Nat) : gMv (gS f s) v0 v1 v2 v3 i = 0 := by
  rw [qMv_ln] at h
  have h0 := sq_nn (lnI f s v0 v1 v2 v3 0)
  have h1 := sq_nn (lnI f s v0 v1 v2 v3 1)
  have h2 := sq_nn (lnI f s v0 v1 v2 v3 2)
  have h3 := sq_nn (lnI f s v0 v1 v2 v3 3)
  have h4 := sq_nn (lnI f s v0 v1 v2 v3 4)
  have k0 := sq_0 (a := lnI f s v0 v1 v2 v3 0) (by omega)
  have k1 := sq_0 (a := lnI f s v0 v1 v2 v3 1) (by omega)
  have k2 := sq_0 (a := lnI f s v0 v1 v2 v3 2) (by omega)
  have k3 := sq_0 (a := lnI f s v0 v1 v2 v3 3) (by omega)
  have k4 := sq_0 (a := lnI f s v0 v1 v2 v3 4) (by omega)
  rw [gMv_ln, k0, k1, k2, k3, k4]
  simp
theorem pos_of {a b : Int} (ha : 0 < a) (h : 0 ≤ a * b) : 0 ≤ b := by
  rcases Int.lt_or_le b 0 with q | q
  · have := Int.mul_neg_of_pos_of_neg ha q
    omega
  · exact q
/-! a row of numbers that takes every row to 0 -/
theorem kr2 (A : Nat → Nat → Int) (v0 v1 : Int) : v0 * d2 A 0 1 0 1 = A 1 1 * gMv A v0 v1 0 0 0 - A 0 1 * gMv A v0 v1 0 0 1 ∧ v1 * d2 A 0 1 0 1 = A 0 0 * gMv A v0 v1 0 0 1 - A 1 0 * gMv A v0 v1 0 0 0 := by
  unfold d2 gMv
  constructor <;> grind
theorem kr3_0 (A : Nat → Nat → Int) (v0 v1 v2 : Int) : v0 * d3 A 0 1 2 0 1 2 = d2 A 1 2 1 2 * gMv A v0 v1 v2 0 0 - d2 A 0 2 1 2 * gMv A v0 v1 v2 0 1 + d2 A 0 1 1 2 * gMv A v0 v1 v2 0 2 := by
  unfold d3 d2 gMv
  grind
theorem kr3_1 (A : Nat → Nat → Int) (v0 v1 v2 : Int) : v1 * d3 A 0 1 2 0 1 2 = -(d2 A 1 2 0 2 * gMv A v0 v1 v2 0 0) + d2 A 0 2 0 2 * gMv A v0 v1 v2 0 1 - d2 A 0 1 0 2 * gMv A v0 v1 v2 0 2 := by
  unfold d3 d2 gMv
  grind
theorem kr4_0 (A : Nat → Nat → Int) (v0 v1 v2 v3 : Int) : v0 * d4 A 0 1 2 3 = d3 A 1 2 3 1 2 3 * gMv A v0 v1 v2 v3 0 - d3 A 0 2 3 1 2 3 * gMv A v0 v1 v2 v3 1 + d3 A 0 1 3 1 2 3 * gMv A v0 v1 v2 v3 2 - d3 A 0 1 2 1 2 3 * gMv A v0 v1 v2 v3 3 := by
  unfold d4 d3 d2 gMv
  grind
theorem kr4_1 (A : Nat → Nat → Int) (v0 v1 v2 v3 : Int) : v1 * d4 A 0 1 2 3 = -(d3 A 1 2 3 0 2 3 * gMv A v0 v1 v2 v3 0) + d3 A 0 2 3 0 2 3 * gMv A v0 v1 v2 v3 1 - d3 A 0 1 3 0 2 3 * gMv A v0 v1 v2 v3 2 + d3 A 0 1 2 0 2 3 * gMv A v0 v1 v2 v3 3 := by
  unfold d4 d3 d2 gMv
  grind
theorem kr4_2 (A : Nat → Nat → Int) (v0 v1 v2 v3 : Int) : v2 * d4 A 0 1 2 3 = d3 A 1 2 3 0 1 3 * gMv A v0 v1 v2 v3 0 - d3 A 0 2 3 0 1 3 * gMv A v0 v1 v2 v3 1 + d3 A 0 1 3 0 1 3 * gMv A v0 v1 v2 v3 2 - d3 A 0 1 2 0 1 3 * gMv A v0 v1 v2 v3 3 := by
  unfold d4 d3 d2 gMv
  grind
/-! the last row of the others' determinants -/
theorem ad2 (A : Nat → Nat → Int) : qMv A (-A 0 1) (A 0 0) 0 0 = A 0 0 * d2 A 0 1 0 1 := by
  unfold qMv gMv d2
  grind
def x3 (A : Nat → Nat → Int) : Int := d2 A 0 1 1 2
def y3 (A : Nat → Nat → Int) : Int := -d2 A 0 1 0 2
theorem ad3 (A : Nat → Nat → Int) : qMv A (x3 A) (y3 A) (d2 A 0 1 0 1) 0 = d2 A 0 1 0 1 * d3 A 0 1 2 0 1 2 := by
  have g0 : gMv A (x3 A) (y3 A) (d2 A 0 1 0 1) 0 0 = 0 := by
    unfold gMv x3 y3 d2
    grind
  have g1 : gMv A (x3 A) (y3 A) (d2 A 0 1 0 1) 0 1 = 0 := by
    unfold gMv x3 y3 d2
    grind
  have g2 : gMv A (x3 A) (y3 A) (d2 A 0 1 0 1) 0 2 = d3 A 0 1 2 0 1 2 := by
    unfold gMv x3 y3 d3 d2
    grind
  unfold qMv
  rw [g0, g1, g2]
  simp
def x4 (A : Nat → Nat → Int) : Int := -d3 A 0 1 2 1 2 3
def y4 (A : Nat → Nat → Int) : Int := d3 A 0 1 2 0 2 3
def z4 (A : Nat → Nat → Int) : Int := -d3 A 0 1 2 0 1 3
theorem ad4 (A : Nat → Nat → Int) : qMv A (x4 A) (y4 A) (z4 A) (d3 A 0 1 2 0 1 2) = d3 A 0 1 2 0 1 2 * d4 A 0 1 2 3 := by
  have g0 : gMv A (x4 A) (y4 A) (z4 A) (d3 A 0 1 2 0 1 2) 0 = 0 := by
    unfold gMv x4 y4 z4 d3 d2
    grind
  have g1 : gMv A (x4 A) (y4 A) (z4 A) (d3 A 0 1 2 0 1 2) 1 = 0 := by
    unfold gMv x4 y4 z4 d3 d2
    grind
  have g2 : gMv A (x4 A) (y4 A) (z4 A) (d3 A 0 1 2 0 1 2) 2 = 0 := by
    unfold gMv x4 y4 z4 d3 d2
    grind
  have g3 : gMv A (x4 A) (y4 A) (z4 A) (d3 A 0 1 2 0 1 2) 3 = d4 A 0 1 2 3 := by
    unfold gMv x4 y4 z4 d4 d3 d2
    grind
  unfold qMv
  rw [g0, g1, g2, g3]
  simp
theorem q1 (A : Nat → Nat → Int) : qMv A 1 0 0 0 = A 0 0 := by
  unfold qMv gMv
  simp
theorem zero_of {a b : Int} (ha : ¬ a = 0) (h : a * b = 0) : b = 0 := (Int.mul_eq_zero.mp h).resolve_left ha
theorem g_nn (f : Nat → Int32) (s : Nat → Nat) : 0 ≤ gS f s 0 0 := dt_nn f (s 0)
theorem d2_nn (f : Nat → Int32) (s : Nat → Nat) : 0 ≤ d2 (gS f s) 0 1 0 1 := by
  by_cases e : gS f s 0 0 = 0
  · have k := qMv_z (f := f) (s := s) (v0 := 1) (v1 := 0) (v2 := 0) (v3 := 0) (by rw [q1]; exact e)
    have r := (kr2 (gS f s) 1 0).1
    rw [k 0, k 1] at r
    omega
  · have h := g_nn f s
    refine pos_of (a := gS f s 0 0) (by omega) ?_
    rw [← ad2]
    exact qMv_nn f s _ _ _ _
theorem d3_z {f : Nat → Int32} {s : Nat → Nat} (h : d2 (gS f s) 0 1 0 1 = 0) : d3 (gS f s) 0 1 2 0 1 2 = 0 := by
  by_cases e : gS f s 0 0 = 0
  · have k := qMv_z (f := f) (s := s) (v0 := 1) (v1 := 0) (v2 := 0) (v3 := 0) (by rw [q1]; exact e)
    have r := kr3_0 (gS f s) 1 0 0
    rw [k 0, k 1, k 2] at r
    omega
  · have k := qMv_z (f := f) (s := s) (v0 := -gS f s 0 1) (v1 := gS f s 0 0) (v2 := 0) (v3 := 0) (by rw [ad2, h, Int.mul_zero])
    have r := kr3_1 (gS f s) (-gS f s 0 1) (gS f s 0 0) 0
    rw [k 0, k 1, k 2] at r
    exact zero_of e (by rw [r]; simp)
theorem d3_nn (f : Nat → Int32) (s : Nat → Nat) : 0 ≤ d3 (gS f s) 0 1 2 0 1 2 := by
  have h := d2_nn f s
  by_cases e : d2 (gS f s) 0 1 0 1 = 0
  · rw [d3_z e]
    decide
  · refine pos_of (a := d2 (gS f s) 0 1 0 1) (by omega) ?_
    rw [← ad3]
    exact qMv_nn f s _ _ _ _
theorem d4_z {f : Nat → Int32} {s : Nat → Nat} (h : d3 (gS f s) 0 1 2 0 1 2 = 0) : d4 (gS f s) 0 1 2 3 = 0 := by
  by_cases e2 : d2 (gS f s) 0 1 0 1 = 0
  · by_cases e : gS f s 0 0 = 0
    · have k := qMv_z (f := f) (s := s) (v0 := 1) (v1 := 0) (v2 := 0) (v3 := 0) (by rw [q1]; exact e)
      have r := kr4_0 (gS f s) 1 0 0 0
      rw [k 0, k 1, k 2, k 3] at r
      omega
    · have k := qMv_z (f := f) (s := s) (v0 := -gS f s 0 1) (v1 := gS f s 0 0) (v2 := 0) (v3 := 0) (by rw [ad2, e2, Int.mul_zero])
      have r := kr4_1 (gS f s) (-gS f s 0 1) (gS f s 0 0) 0 0
      rw [k 0, k 1, k 2, k 3] at r
      exact zero_of e (by rw [r]; simp)
  · have k := qMv_z (f := f) (s := s) (v0 := x3 (gS f s)) (v1 := y3 (gS f s)) (v2 := d2 (gS f s) 0 1 0 1) (v3 := 0) (by rw [ad3, h, Int.mul_zero])
    have r := kr4_2 (gS f s) (x3 (gS f s)) (y3 (gS f s)) (d2 (gS f s) 0 1 0 1) 0
    rw [k 0, k 1, k 2, k 3] at r
    exact zero_of e2 (by rw [r]; simp)
theorem d4_nn (f : Nat → Int32) (s : Nat → Nat) : 0 ≤ d4 (gS f s) 0 1 2 3 := by
  have h := d3_nn f s
  by_cases e : d3 (gS f s) 0 1 2 0 1 2 = 0
  · rw [d4_z e]
    decide
  · refine pos_of (a := d3 (gS f s) 0 1 2 0 1 2) (by omega) ?_
    rw [← ad4]
    exact qMv_nn f s _ _ _ _
theorem worth_nn {R M : Nat} {x : Int32} {t co tr : Nat → Int32} (hM1 : 1 ≤ M) (hM : M ≤ 4) (hl : laid t R M co tr) (hb : tb9 t R M) : 0 ≤ (worthF co M x).toInt := by
  have hs := laid_short hl hb
  unfold worthF
  have hA : ∀ i j : Nat, i < selC x M → j < selC x M → (gramM co M x i j).toInt = gS co (fun q => selI x q M) i j ∧ (gS co (fun q => selI x q M) i j).natAbs ≤ 405 := fun i j _ _ => by
    have h1 := selI_lt (x := x) (r := i) M hM1
    have h2 := selI_lt (x := x) (r := j) M hM1
    unfold gramM gS
    rw [to64, dot_int (hs _ (by omega)) (hs _ (by omega))]
    exact ⟨rfl, dt_le (hs (selI x i M) (by omega)) (hs (selI x j M) (by omega))⟩
  have hn := Nat.le_trans (selC_le x M) hM
  generalize hc : selC x M = n at hA hn ⊢
  rcases (show n = 0 ∨ n = 1 ∨ n = 2 ∨ n = 3 ∨ n = 4 by omega) with rfl | rfl | rfl | rfl | rfl
  · exact (by decide : (0 : Int) ≤ (1 : Int64).toInt)
  · rw [det_v1 hA]
    exact g_nn co _
  · rw [det_v2 hA]
    exact d2_nn co _
  · rw [det_v3 hA]
    exact d3_nn co _
  · rw [det_v4 hA]
    exact d4_nn co _
