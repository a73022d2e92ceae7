theorem lt0_64 {x : Int64} : x < 0 ↔ x.toInt < 0 := by
  rw [Int64.lt_iff_toInt_lt]
  exact Iff.rfl
theorem xor_neg {a b : Int64} (hb : ¬ b.toInt < 0) : (a ^^^ b) < 0 ↔ a.toInt < 0 := by
  rw [lt0_64]
  have e1 : (a ^^^ b).toInt = (a.toBitVec ^^^ b.toBitVec).toInt := rfl
  have e2 : a.toInt = a.toBitVec.toInt := rfl
  have e3 : b.toInt = b.toBitVec.toInt := rfl
  rw [e1, e2]
  rw [e3] at hb
  have m1 := BitVec.msb_eq_toInt (x := a.toBitVec ^^^ b.toBitVec)
  have m2 := BitVec.msb_eq_toInt (x := a.toBitVec)
  have m3 := BitVec.msb_eq_toInt (x := b.toBitVec)
  rw [BitVec.msb_xor, m2, m3] at m1
  simp only [hb, decide_false, Bool.xor_false, decide_eq_decide] at m1
  exact m1.symm
theorem fd_int {a b : Int64} (ha : a.toInt.natAbs ≤ 4611686018427387904) (hb : 0 < b.toInt) : (Jvm.Free.JP.Math_floorDiv_JJ.val a b).toInt = a.toInt / b.toInt := by
  obtain ⟨d1, d2⟩ := div64 (x := a) (y := b) ha (by decide)
  unfold Jvm.Free.JP.Math_floorDiv_JJ.val
  by_cases h : a.toInt < 0
  · rw [if_pos ((xor_neg (by omega)).mpr h)]
    have hab : ((a / b).toInt * b.toInt).natAbs ≤ a.toInt.natAbs := by
      rw [Int.natAbs_mul, d1, Int.natAbs_tdiv]
      exact Nat.div_mul_le_self _ _
    have hmb : ((a / b) * b).toInt = (a / b).toInt * b.toInt := by
      rw [Int64.toInt_mul]
      exact Int.bmod_eq_of_le (by omega) (by omega)
    by_cases hd : b.toInt ∣ a.toInt
    · have e1 : (a / b).toInt = a.toInt / b.toInt := by rw [d1, Int.tdiv_eq_ediv_of_dvd hd]
      have e : (a / b) * b = a := Int64.toInt_inj.mp (by rw [hmb, e1]; exact Int.ediv_mul_cancel hd)
      rw [if_pos e]
      exact e1
    · have e1 : (a / b).toInt = a.toInt / b.toInt + 1 := by
        rw [d1, Int.tdiv_eq_ediv, if_neg (fun q => q.elim (fun q => by omega) hd), Int.sign_eq_one_of_pos hb]
      have e : ¬ (a / b) * b = a := fun q => hd (by
        have q2 := congrArg Int64.toInt q
        rw [hmb] at q2
        exact ⟨(a / b).toInt, by rw [Int.mul_comm]; exact q2.symm⟩)
      have z1 : (1 : Int64).toInt = 1 := by decide
      rw [if_neg e, sub64 (by rw [z1]; omega), z1, e1]
      omega
  · rw [if_neg (fun q => h ((xor_neg (by omega)).mp q)), d1]
    exact Int.tdiv_eq_ediv_of_nonneg (by omega)
theorem add64 {x y : Int64} (h : -9223372036854775808 ≤ x.toInt + y.toInt ∧ x.toInt + y.toInt < 9223372036854775808) : (x + y).toInt = x.toInt + y.toInt := by
  rw [Int64.toInt_add]
  exact Int.bmod_eq_of_le (by omega) (by omega)
theorem neg64 {x : Int64} (h : -9223372036854775808 ≤ -x.toInt ∧ -x.toInt < 9223372036854775808) : (-x).toInt = -x.toInt := by
  rw [Int64.toInt_neg]
  exact Int.bmod_eq_of_le (by omega) (by omega)
/-- held, of a number within reach -/
theorem hd_val {x : Int64} {a v : Nat} (ha : a = 2 ∨ a = 4) (hv : v < a) (h1 : v = 0 → x.toInt ≤ 0) (h2 : v = a - 1 → (v : Int) ≤ x.toInt) (h3 : 0 < v → v < a - 1 → x.toInt = v) : hdF x (nI a) = nI v := by
  have z0 : (0 : Int64).toInt = 0 := by decide
  have za : ((nI a).toInt64 - 1).toInt = (a : Int) - 1 := by
    rcases ha with rfl | rfl <;> decide
  have key : ((if (if (nI a).toInt64 - 1 < x then (nI a).toInt64 - 1 else x) < 0 then (0 : Int64) else (if (nI a).toInt64 - 1 < x then (nI a).toInt64 - 1 else x))).toInt = v := by
    by_cases c1 : (nI a).toInt64 - 1 < x
    · rw [if_pos c1]
      rw [Int64.lt_iff_toInt_lt, za] at c1
      rw [if_neg (by rw [Int64.lt_iff_toInt_lt, za, z0]; omega), za]
      omega
    · rw [if_neg c1]
      rw [Int64.lt_iff_toInt_lt, za] at c1
      by_cases c2 : x < 0
      · rw [if_pos c2, z0]
        rw [Int64.lt_iff_toInt_lt, z0] at c2
        omega
      · rw [if_neg c2]
        rw [Int64.lt_iff_toInt_lt, z0] at c2
        omega
  unfold hdF
  apply Int32.toInt_inj.mp
  rw [Int64.toInt_toInt32, key, nI_toInt (by omega)]
  exact Int.bmod_eq_of_le (by omega) (by omega)
theorem abs_int {x : Int64} (h : x.toInt.natAbs ≤ 4611686018427387904) : (absL x).toInt = x.toInt.natAbs := by
  have z0 : (0 : Int64).toInt = 0 := by decide
  unfold absL
  by_cases c : x < 0
  · rw [if_pos c, sub64 (by rw [z0]; omega), z0]
    rw [Int64.lt_iff_toInt_lt, z0] at c
    omega
  · rw [if_neg c]
    rw [Int64.lt_iff_toInt_lt, z0] at c
    omega
theorem lin_int {x y : Int64} {c : Int32} {k : Int} (hc : c.toInt = k) (hk : k.natAbs ≤ 3) (hx : x.toInt.natAbs ≤ 2147483648) (hy : y.toInt.natAbs ≤ 2147483648) : (x - c.toInt64 * y).toInt = x.toInt - k * y.toInt ∧ (x.toInt - k * y.toInt).natAbs ≤ 4611686018427387904 := by
  have e : c.toInt64.toInt = k := by rw [to64, hc]
  obtain ⟨m1, m2⟩ := mul64 (x := c.toInt64) (y := y) (a := 3) (b := 2147483648) (by rw [e]; exact hk) hy (by decide)
  rw [e] at m1 m2
  refine ⟨?_, by omega⟩
  rw [sub64 (by rw [m1]; omega), m1]
theorem far_lt {x y : Int64} {c d : Int32} {k m : Int} (hc : c.toInt = k) (hk : k.natAbs ≤ 3) (hd : d.toInt = m) (hm : m.natAbs ≤ 3) (hx : x.toInt.natAbs ≤ 2147483648) (hy : y.toInt.natAbs ≤ 2147483648) : absL (x - c.toInt64 * y) < absL (x - d.toInt64 * y) ↔ (x.toInt - k * y.toInt).natAbs < (x.toInt - m * y.toInt).natAbs := by
  obtain ⟨a1, a2⟩ := lin_int hc hk hx hy
  obtain ⟨b1, b2⟩ := lin_int hd hm hx hy
  rw [Int64.lt_iff_toInt_lt, abs_int (by rw [a1]; exact a2), abs_int (by rw [b1]; exact b2), a1, b1]
  omega
theorem nl_eq {x y : Int64} {a : Nat} (ha : a = 2 ∨ a = 4) (hx : x.toInt.natAbs ≤ 2147483648) (hy1 : 0 < y.toInt) (hy2 : y.toInt ≤ 2147483648) : ∃ v : Nat, v < a ∧ nlF x y (nI a) = nI v ∧ nlG x y a (a - 1) = ltC a (nI v) := by
  have z0 : (0 : Int64).toInt = 0 := by decide
  have z2 : (2 : Int64).toInt = 2 := by decide
  have hyp : 0 < y := by
    rw [Int64.lt_iff_toInt_lt, z0]
    exact hy1
  have hyn : y.toInt.natAbs ≤ 2147483648 := by omega
  have e2 : (2 * y).toInt = 2 * y.toInt := by
    have := (mul64 (x := 2) (y := y) (a := 2) (b := 2147483648) (by rw [z2]; decide) hyn (by decide)).1
    rw [z2] at this
    exact this
  have h2p : 0 < 2 * y := by
    rw [Int64.lt_iff_toInt_lt, z0, e2]
    omega
  rcases ha with rfl | rfl
  · have ez : (nI 2 - nI 2).toInt64.toInt = 0 := by decide
    have m1 := (mul64 (x := (nI 2 - nI 2).toInt64) (y := y) (a := 0) (b := 2147483648) (by rw [ez]; decide) hyn (by decide)).1
    rw [ez] at m1
    have s1 : (x + (nI 2 - nI 2).toInt64 * y).toInt = x.toInt := by
      rw [add64 (by rw [m1]; omega), m1]
      omega
    have n1 : (-(x + (nI 2 - nI 2).toInt64 * y)).toInt = -x.toInt := by rw [neg64 (by rw [s1]; omega), s1]
    have f1 := fd_int (a := -(x + (nI 2 - nI 2).toInt64 * y)) (b := 2 * y) (by rw [n1]; omega) (by rw [e2]; omega)
    rw [n1, e2] at f1
    have q1 := Int.ediv_lt_iff_lt_mul (a := -x.toInt) (b := 0) (c := 2 * y.toInt) (by omega)
    have b1 : (-x.toInt / (2 * y.toInt)).natAbs ≤ 4611686018427387904 := by
      have u1 := Int.ediv_lt_iff_lt_mul (a := -x.toInt) (b := 2147483649) (c := 2 * y.toInt) (by omega)
      have u2 := Int.le_ediv_iff_mul_le (a := -2147483649) (b := -x.toInt) (c := 2 * y.toInt) (by omega)
      have v1 := u1.mpr (by omega)
      have v2 := u2.mpr (by omega)
      omega
    have r1 : (ruF (x + (nI 2 - nI 2).toInt64 * y) (2 * y)).toInt = -(-x.toInt / (2 * y.toInt)) := by
      unfold ruF
      rw [if_pos h2p, neg64 (by rw [f1]; omega), f1]
    by_cases c : 0 < x.toInt
    · refine ⟨1, by decide, ?_, ?_⟩
      · unfold nlF
        rw [if_pos hyp]
        exact hd_val (Or.inl rfl) (by decide) (fun q => absurd q (by decide)) (fun _ => by rw [r1]; omega) (fun _ q => absurd q (by decide))
      · show nlG x y 2 1 = _
        rw [nlG, nlG, if_pos ((far_lt (k := 1) (m := -1) (by decide) (by decide) (by decide) (by decide) hx hyn).mpr (by omega))]
        decide
    · refine ⟨0, by decide, ?_, ?_⟩
      · unfold nlF
        rw [if_pos hyp]
        exact hd_val (Or.inl rfl) (by decide) (fun _ => by rw [r1]; omega) (fun q => absurd q (by decide)) (fun q => absurd q (by decide))
      · show nlG x y 2 1 = _
        rw [nlG, nlG, if_neg (fun q => absurd ((far_lt (k := 1) (m := -1) (by decide) (by decide) (by decide) (by decide) hx hyn).mp q) (by omega))]
        decide
  · have ez : (nI 4 - nI 2).toInt64.toInt = 2 := by decide
    have m1 := (mul64 (x := (nI 4 - nI 2).toInt64) (y := y) (a := 2) (b := 2147483648) (by rw [ez]; decide) hyn (by decide)).1
    rw [ez] at m1
    have s1 : (x + (nI 4 - nI 2).toInt64 * y).toInt = x.toInt + 2 * y.toInt := by
      rw [add64 (by rw [m1]; omega), m1]
    have n1 : (-(x + (nI 4 - nI 2).toInt64 * y)).toInt = -(x.toInt + 2 * y.toInt) := by rw [neg64 (by rw [s1]; omega), s1]
    have f1 := fd_int (a := -(x + (nI 4 - nI 2).toInt64 * y)) (b := 2 * y) (by rw [n1]; omega) (by rw [e2]; omega)
    rw [n1, e2] at f1
    have q0 := Int.ediv_lt_iff_lt_mul (a := -(x.toInt + 2 * y.toInt)) (b := 0) (c := 2 * y.toInt) (by omega)
    have q1 := Int.ediv_lt_iff_lt_mul (a := -(x.toInt + 2 * y.toInt)) (b := -1) (c := 2 * y.toInt) (by omega)
    have q2 := Int.ediv_lt_iff_lt_mul (a := -(x.toInt + 2 * y.toInt)) (b := -2) (c := 2 * y.toInt) (by omega)
    have b1 : (-(x.toInt + 2 * y.toInt) / (2 * y.toInt)).natAbs ≤ 4611686018427387904 := by
      have u1 := Int.ediv_lt_iff_lt_mul (a := -(x.toInt + 2 * y.toInt)) (b := 4294967299) (c := 2 * y.toInt) (by omega)
      have u2 := Int.le_ediv_iff_mul_le (a := -4294967299) (b := -(x.toInt + 2 * y.toInt)) (c := 2 * y.toInt) (by omega)
      have v1 := u1.mpr (by omega)
      have v2 := u2.mpr (by omega)
      omega
    have r1 : (ruF (x + (nI 4 - nI 2).toInt64 * y) (2 * y)).toInt = -(-(x.toInt + 2 * y.toInt) / (2 * y.toInt)) := by
      unfold ruF
      rw [if_pos h2p, neg64 (by rw [f1]; omega), f1]
    have g1 := far_lt (x := x) (y := y) (c := nlL 4 0) (d := nI 1 - nI 4) (k := -1) (m := -3) (by decide) (by decide) (by decide) (by decide) hx hyn
    by_cases c1 : x.toInt ≤ -2 * y.toInt
    · refine ⟨0, by decide, ?_, ?_⟩
      · unfold nlF
        rw [if_pos hyp]
        exact hd_val (Or.inr rfl) (by decide) (fun _ => by rw [r1]; omega) (fun q => absurd q (by decide)) (fun q => absurd q (by decide))
      · have s0 : nlG x y 4 1 = nI 1 - nI 4 := by rw [nlG, nlG, if_neg (fun q => absurd (g1.mp q) (by omega))]
        have s2 : nlG x y 4 2 = nI 1 - nI 4 := by
          rw [nlG, s0, if_neg (fun q => absurd ((far_lt (k := 1) (m := -3) (by decide) (by decide) (by decide) (by decide) hx hyn).mp q) (by omega))]
        show nlG x y 4 3 = _
        rw [nlG, s2, if_neg (fun q => absurd ((far_lt (k := 3) (m := -3) (by decide) (by decide) (by decide) (by decide) hx hyn).mp q) (by omega))]
        decide
    · have s0 : nlG x y 4 1 = nlL 4 0 := by rw [nlG, nlG, if_pos (g1.mpr (by omega))]
      by_cases c2 : x.toInt ≤ 0
      · refine ⟨1, by decide, ?_, ?_⟩
        · unfold nlF
          rw [if_pos hyp]
          exact hd_val (Or.inr rfl) (by decide) (fun q => absurd q (by decide)) (fun q => absurd q (by decide)) (fun _ _ => by rw [r1]; omega)
        · have s2 : nlG x y 4 2 = nlL 4 0 := by
            rw [nlG, s0, if_neg (fun q => absurd ((far_lt (k := 1) (m := -1) (by decide) (by decide) (by decide) (by decide) hx hyn).mp q) (by omega))]
          show nlG x y 4 3 = _
          rw [nlG, s2, if_neg (fun q => absurd ((far_lt (k := 3) (m := -1) (by decide) (by decide) (by decide) (by decide) hx hyn).mp q) (by omega))]
          decide
      · have s2 : nlG x y 4 2 = nlL 4 1 := by
          rw [nlG, s0, if_pos ((far_lt (k := 1) (m := -1) (by decide) (by decide) (by decide) (by decide) hx hyn).mpr (by omega))]
        by_cases c3 : x.toInt ≤ 2 * y.toInt
        · refine ⟨2, by decide, ?_, ?_⟩
          · unfold nlF
            rw [if_pos hyp]
            exact hd_val (Or.inr rfl) (by decide) (fun q => absurd q (by decide)) (fun q => absurd q (by decide)) (fun _ _ => by rw [r1]; omega)
          · show nlG x y 4 3 = _
            rw [nlG, s2, if_neg (fun q => absurd ((far_lt (k := 3) (m := 1) (by decide) (by decide) (by decide) (by decide) hx hyn).mp q) (by omega))]
            decide
        · refine ⟨3, by decide, ?_, ?_⟩
          · unfold nlF
            rw [if_pos hyp]
            exact hd_val (Or.inr rfl) (by decide) (fun q => absurd q (by decide)) (fun _ => by rw [r1]; omega) (fun _ q => absurd q (by decide))
          · show nlG x y 4 3 = _
            rw [nlG, s2, if_pos ((far_lt (k := 3) (m := 1) (by decide) (by decide) (by decide) (by decide) hx hyn).mpr (by omega))]
            decide
/-! the rounds of taking, side by side -/
theorem co_at {R M c r : Nat} {he t co tr : Nat → Int32} {g : Nat → Nat → Int32} (hM : M ≤ 4) (hc : c < M) (hr : r < 5) (h : RelT R M he g t) (hl : laid t R M co tr) : co (5 * c + r) = if r < R then g r c else nI 0 := by
  rw [hl.1 (5 * c + r) (by omega), show (5 * c + r) / 5 = c by omega, show (5 * c + r) % 5 = r by omega]
  unfold colF
  by_cases e : r < R
  · rw [if_pos ⟨hc, e⟩, if_pos e, rel_c h e hc]
  · rw [if_neg (fun q => e q.2), if_neg e]
theorem zmul (x : Int32) : nI 0 * x = nI 0 := z_mul x
theorem sum_ab {R M c : Nat} {he t co tr le me : Nat → Int32} {g : Nat → Nat → Int32} (hR1 : 1 ≤ R) (hR : R ≤ 5) (hM : M ≤ 4) (hc : c < M) (h : RelT R M he g t) (hl : laid t R M co tr) (hm : ∀ r : Nat, r < R → le r = me r) : abC g le c R = sumF co me c := by
  have z : ∀ x : Int32, x + nI 0 = x := fun x => Int32.add_zero x
  unfold sumF
  rw [co_at hM hc (by decide : 0 < 5) h hl, co_at hM hc (by decide : 1 < 5) h hl, co_at hM hc (by decide : 2 < 5) h hl, co_at hM hc (by decide : 3 < 5) h hl, co_at hM hc (by decide : 4 < 5) h hl]
  rcases (show R = 1 ∨ R = 2 ∨ R = 3 ∨ R = 4 ∨ R = 5 by omega) with rfl | rfl | rfl | rfl | rfl
  · simp only [abC, hm 0 (by decide), Nat.lt_irrefl, if_true, if_false, zmul, z, Nat.reduceLT]
  · simp only [abC, hm 0 (by decide), hm 1 (by decide), Nat.lt_irrefl, if_true, if_false, zmul, z, Nat.reduceLT]
  · simp only [abC, hm 0 (by decide), hm 1 (by decide), hm 2 (by decide), Nat.lt_irrefl, if_true, if_false, zmul, z, Nat.reduceLT]
  · simp only [abC, hm 0 (by decide), hm 1 (by decide), hm 2 (by decide), hm 3 (by decide), Nat.lt_irrefl, if_true, if_false, zmul, z, Nat.reduceLT]
  · simp only [abC, hm 0 (by decide), hm 1 (by decide), hm 2 (by decide), hm 3 (by decide), hm 4 (by decide), Nat.lt_irrefl, if_true, if_false, zmul, z, Nat.reduceLT]
theorem sum_0 {co me : Nat → Int32} {c : Nat} (hz : ∀ r : Nat, r < 5 → co (5 * c + r) = nI 0) : sumF co me c = nI 0 := by
  unfold sumF
  rw [hz 0 (by decide), hz 1 (by decide), hz 2 (by decide), hz 3 (by decide), hz 4 (by decide), zmul, zmul, zmul, zmul, zmul]
  decide
theorem dot_0 {co : Nat → Int32} {c : Nat} (hs : dtI co c c ≤ 405) (h : dotF co c c = 0) : ∀ r : Nat, r < 5 → co (5 * c + r) = nI 0 := fun r hr => by
  have e := dot_int hs hs
  rw [h] at e
  have z0 : (0 : Int32).toInt = 0 := by decide
  rw [z0] at e
  have h0 := sq_nn (cI co c 0)
  have h1 := sq_nn (cI co c 1)
  have h2 := sq_nn (cI co c 2)
  have h3 := sq_nn (cI co c 3)
  have h4 := sq_nn (cI co c 4)
  unfold dtI at e
  have key : cI co c r * cI co c r = 0 := by
    rcases (show r = 0 ∨ r = 1 ∨ r = 2 ∨ r = 3 ∨ r = 4 by omega) with rfl | rfl | rfl | rfl | rfl <;> omega
  have k0 : cI co c r = 0 := by
    rcases Int.mul_eq_zero.mp key with q | q <;> exact q
  exact Int32.toInt_inj.mp (by rw [show (nI 0).toInt = 0 by decide]; exact k0)
theorem let_eq {R M c a : Nat} {he t co tr le me : Nat → Int32} {g : Nat → Nat → Int32} (hR1 : 1 ≤ R) (hR : R ≤ 5) (hM : M ≤ 4) (ha : a = 2 ∨ a = 4) (hc : c < M) (h : RelT R M he g t) (hl : laid t R M co tr) (hb : tb9 t R M) (hm : ∀ r : Nat, r < R → le r = me r) : ∃ v : Nat, v < a ∧ ixC g le a R c = nI v ∧ letF a co me c = ltC a (nI v) := by
  have hs := laid_short hl hb c (by omega)
  have ep := prod_dot hR1 hR hM hc hc h hl
  have ei := dot_int hs hs
  have nn := dt_nn co c
  have z1 : (nI 1).toInt = 1 := by decide
  have z0 : (0 : Int32).toInt = 0 := by decide
  have hxb : ((sumF co me c).toInt64).toInt.natAbs ≤ 2147483648 := by
    rw [to64]
    have h1 := Int32.toInt_lt (sumF co me c)
    have h2 := Int32.le_toInt (sumF co me c)
    omega
  unfold ixC letF
  rw [sum_ab hR1 hR hM hc h hl hm]
  by_cases e : dotF co c c = 0
  · rw [if_pos e, sum_0 (dot_0 hs e)]
    have eb : blC g R c = nI 1 := by
      unfold blC
      rw [ep, e, if_neg (by decide)]
    rw [eb]
    rcases ha with rfl | rfl
    · exact ⟨0, by decide, by decide +kernel, by decide +kernel⟩
    · exact ⟨1, by decide, by decide +kernel, by decide +kernel⟩
  · rw [if_neg e]
    have hpos : 0 < (dotF co c c).toInt := by
      rcases Int.lt_or_eq_of_le (show 0 ≤ (dotF co c c).toInt by omega) with q | q
      · exact q
      · exact absurd (Int32.toInt_inj.mp (by rw [z0]; exact q.symm)) e
    have eb : blC g R c = dotF co c c := by
      unfold blC
      rw [ep]
      by_cases q : nI 1 < dotF co c c
      · rw [if_pos q]
      · rw [if_neg q]
        rw [Int32.lt_iff_toInt_lt, z1] at q
        exact Int32.toInt_inj.mp (by rw [z1]; omega)
    rw [eb]
    exact nl_eq ha hxb (by rw [to64]; exact hpos) (by rw [to64, ei]; omega)
theorem bit_new : ∀ (m : Fin 16) (b c : Fin 4), bt1 (nI m.val) b.val = nI 0 → (bt1 (nI m.val ||| (nI 1 <<< (nI b.val &&& 31))) c.val = nI 1 ↔ (c = b ∨ bt1 (nI m.val) c.val = nI 1)) := by decide +kernel
theorem bit_all : ∀ (m : Fin 16) (M : Fin 5), selC (nI m.val) M.val = M.val → ∀ c : Fin 4, c.val < M.val → bt1 (nI m.val) c.val = nI 1 := by decide +kernel
theorem tk_both {R M a : Nat} {he t co tr : Nat → Int32} {g : Nat → Nat → Int32} (hR1 : 1 ≤ R) (hR : R ≤ 5) (hM : M ≤ 4) (ha : a = 2 ∨ a = 4) (h : RelT R M he g t) (hl : laid t R M co tr) (hb : tb9 t R M) : ∀ (k : Nat) (le ix me lt : Nat → Int32), k ≤ M → tkP g a R M he k le ix → tkR a M co (metF t R) k me lt → (∀ r : Nat, r < R → le r = me r) ∧ ∀ c : Nat, c < M → bt1 (tkC (dC9 g R) M k) c = nI 1 → ∃ v : Nat, v < a ∧ ix c = nI v ∧ lt c = ltC a (nI v)
  | 0, le, ix, me, lt, _, h1, h2 => by
    refine ⟨fun r hr => ?_, fun c hc q => ?_⟩
    · rw [h1 r (by omega), h2 r (by omega), metF, if_pos hr]
      exact rel_h h hr
    · exact absurd q (by
        show ¬ bt1 (nI 0) c = nI 1
        rcases (show c = 0 ∨ c = 1 ∨ c = 2 ∨ c = 3 by omega) with rfl | rfl | rfl | rfl <;> decide +kernel)
  | k + 1, le, ix, me, lt, hk, h1, h2 => by
    obtain ⟨le0, ix0, p1, p2, p3⟩ := h1
    obtain ⟨me0, lt0, q, r1, r2, r3, r4, r5⟩ := h2
    obtain ⟨ih1, ih2⟩ := tk_both hR1 hR hM ha h hl hb k le0 ix0 me0 lt0 (by omega) p1 r1
    have hde : ∀ c : Nat, c < M → dC9 g R c = (fun t => dotF co t t) c := fun c hc => prod_dot hR1 hR hM hc hc h hl
    have hdn : ∀ c : Nat, c < M → ¬ dC9 g R c ≤ -1 := fun c hc => prod_nn hR1 hR hM hc h hl hb
    obtain ⟨c1, c2, c3⟩ := tk_col (d := dC9 g R) (d2 := fun t => dotF co t t) hM hde hdn (show k < M by omega)
    obtain ⟨m, hm, e1, e2, e3⟩ := tk_step hM hde hdn k (by omega)
    have eq : q = (gtB (dC9 g R) (tkC (dC9 g R) M k) M).1 := (nI_eq (by omega) (by omega)).mp (r3.symm.trans c2)
    have htk : tkC (dC9 g R) M (k + 1) = tkC (dC9 g R) M k ||| (nI 1 <<< (nI (gtB (dC9 g R) (tkC (dC9 g R) M k) M).1 &&& 31)) := rfl
    rw [← eq] at p2 p3 c1 c3 htk
    obtain ⟨v, v1, v2, v3⟩ := let_eq (c := q) hR1 hR hM ha c1 h hl hb ih1
    refine ⟨fun r hr => ?_, fun c hc hbit => ?_⟩
    · rw [p3 r hr, r5 r (by omega), v2, v3, ih1 r hr, co_at hM c1 (by omega) h hl, if_pos hr]
    · rw [p2, r4, v2, v3]
      by_cases e : c = q
      · rw [e, pk_us, pk_us]
        exact ⟨v, v1, rfl, rfl⟩
      · rw [pk_un e, pk_un e]
        rw [htk, e1] at hbit
        rw [e1] at c3
        have bn := (bit_new ⟨m, hm⟩ ⟨q, by omega⟩ ⟨c, by omega⟩ c3).mp hbit
        rcases bn with bn | bn
        · exact absurd (congrArg Fin.val bn) e
        · exact ih2 c hc (by rw [e1]; exact bn)
theorem num_wd {a : Nat} {ix lt : Nat → Int32} (ha : a = 2 ∨ a = 4) : ∀ n : Nat, (∀ c : Nat, c < n → ∃ v : Nat, v < a ∧ ix c = nI v ∧ lt c = ltC a (nI v)) → wdC ix a n = numF lt a n
  | 0, _ => rfl
  | n + 1, h => by
    obtain ⟨v, v1, v2, v3⟩ := h n (by omega)
    rw [wdC, numF, num_wd ha n (fun c hc => h c (by omega)), v2, v3]
    have e : (ltC a (nI v) + nI a - nI 1) / nI 2 = nI v := by
      rcases ha with rfl | rfl
      · rcases (show v = 0 ∨ v = 1 by omega) with rfl | rfl <;> decide +kernel
      · rcases (show v = 0 ∨ v = 1 ∨ v = 2 ∨ v = 3 by omega) with rfl | rfl | rfl | rfl <;> decide +kernel
    rw [e]
theorem eq_taken {r1 r2 : Int32} {R M a : Nat} {A rA : Nat → Nat → Int32} {G : Nat → Nat → Nat → Int32} {a190 a192 f17 f18 f20 f23 : Nat → Int32} (hR1 : 1 ≤ R) (hR : R ≤ 5) (hM : M ≤ 4) (ha : a = 2 ∨ a = 4) (ht : RelT R M (A 136) (G 0) (rA 3)) (hb : tb9 (rA 3) R M) (hf1 : tkP (G 0) a R M (A 136) M a190 a192 ∧ r1 = wdC a192 a M) (hf2 : laid (rA 3) R M f17 f18 ∧ tkR a M f17 (metF (rA 3) R) M f20 f23 ∧ r2 = numF f23 a M) : r1 = r2 := by
  obtain ⟨p1, p2⟩ := hf1
  obtain ⟨hl, q1, q2⟩ := hf2
  obtain ⟨-, hall⟩ := tk_both hR1 hR hM ha ht hl hb M _ _ _ _ (Nat.le_refl M) p1 q1
  have hde : ∀ c : Nat, c < M → dC9 (G 0) R c = (fun t => dotF f17 t t) c := fun c hc => prod_dot hR1 hR hM hc hc ht hl
  have hdn : ∀ c : Nat, c < M → ¬ dC9 (G 0) R c ≤ -1 := fun c hc => prod_nn hR1 hR hM hc ht hl hb
  obtain ⟨m, hm, e1, e2, e3⟩ := tk_step hM hde hdn M (Nat.le_refl M)
  rw [p2, q2]
  refine num_wd ha M (fun c hc => hall c hc ?_)
  rw [e1]
  exact bit_all ⟨m, hm⟩ ⟨M, by omega⟩ e3 ⟨c, by omega⟩ hc
