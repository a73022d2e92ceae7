theorem z_mul (x : Int32) : nI 0 * x = nI 0 := by
  apply Int32.toInt_inj.mp
  rw [Int32.toInt_mul, show (nI 0).toInt = 0 by decide, Int.zero_mul]
  decide
theorem st_g {f g : Nat → Int32} {q : Int32} {n k t : Nat} (hnk : ¬ n = k) (ht : t < 5) (hg : ∀ u : Nat, u < t → g (5 * n + u) = f (5 * n + u) - q * f (5 * k + u)) (ho : ∀ p : Nat, ¬ (5 * n ≤ p ∧ p < 5 * n + t) → g p = f p) :
    (∀ u : Nat, u < t + 1 → upd g (5 * n + t) (g (5 * n + t) - q * g (5 * k + t)) (5 * n + u) = f (5 * n + u) - q * f (5 * k + u)) ∧ ∀ p : Nat, ¬ (5 * n ≤ p ∧ p < 5 * n + (t + 1)) → upd g (5 * n + t) (g (5 * n + t) - q * g (5 * k + t)) p = f p := by
  refine ⟨fun u hu => ?_, fun p hp => ?_⟩
  · by_cases e : u = t
    · subst e
      rw [pk_us, ho (5 * n + u) (by omega), ho (5 * k + u) (by omega)]
    · rw [pk_un (by omega)]
      exact hg u (by omega)
  · rw [pk_un (by omega)]
    exact ho p (by omega)

def fC (f : Nat → Int32) : Nat → Nat → Int32 := fun r c => f (5 * c + r)
def fT (f : Nat → Int32) : Nat → Nat → Int32 := fun k c => f (4 * k + c)
theorem dot_prod (f : Nat → Int32) (i j : Nat) : dotF f i j = prodF (fC f) i j 5 := rfl
theorem low_pos {f : Nat → Int32} {j : Nat} (h : dtI f j j ≤ 405) (hz : ¬ dotF f j j = 0) : 0 < dotF f j j ∧ 0 < dtI f j j := by
  have e := dot_int h h
  have n := dt_nn f j
  have z0 : (0 : Int32).toInt = 0 := by decide
  have p : 0 < dtI f j j := by
    rcases Int.lt_or_eq_of_le n with q | q
    · exact q
    · exact absurd (Int32.toInt_inj.mp (by rw [e, z0]; exact q.symm)) hz
  exact ⟨by rw [Int32.lt_iff_toInt_lt, z0, e]; exact p, p⟩
theorem qF_nw {f : Nat → Int32} {i j : Nat} (h : dtI f j j ≤ 405) (hz : ¬ dotF f j j = 0) : qF (fC f) 5 i j = nwF (dotF f i j) (dotF f j j) := by
  unfold qF
  rw [← dot_prod, ← dot_prod, if_pos (low_pos h hz).1]
theorem qF_z {f : Nat → Int32} {i j : Nat} (hz : dotF f j j = 0) : qF (fC f) 5 i j = nI 0 := by
  unfold qF
  rw [← dot_prod, hz, if_neg (by decide)]
theorem nw_int {up low : Int32} (hu : up.toInt.natAbs ≤ 405) (h1 : 0 < low.toInt) (h2 : low.toInt ≤ 405) : (0 ≤ up.toInt → (nwF up low).toInt = (2 * up.toInt + low.toInt - 1) / (2 * low.toInt)) ∧ (up.toInt < 0 → (nwF up low).toInt = -((2 * -up.toInt + low.toInt - 1) / (2 * low.toInt))) := by
  have z0 : (0 : Int32).toInt = 0 := by decide
  have z2 : (nI 2).toInt = 2 := by decide
  have z1 : (nI 1).toInt = 1 := by decide
  have l1 := (mul32 (x := nI 2) (y := low) (a := 2) (b := 405) (by rw [z2]; decide) (by omega) (by decide)).1
  rw [z2] at l1
  refine ⟨fun h => ?_, fun h => ?_⟩
  · have a1 := (mul32 (x := nI 2) (y := up) (a := 2) (b := 405) (by rw [z2]; decide) hu (by decide)).1
    rw [z2] at a1
    have a2 := add32 (x := nI 2 * up) (y := low) (by omega)
    have a3 := sub32 (x := nI 2 * up + low) (y := nI 1) (by omega)
    have a4 := (div32 (x := nI 2 * up + low - nI 1) (y := nI 2 * low) (a := 1300) (by omega) (by decide)).1
    unfold nwF
    rw [if_pos (by rw [Int32.le_iff_toInt_le, z0]; exact h), a4, a3, a2, a1, l1, z1]
    exact Int.tdiv_eq_ediv_of_nonneg (by omega)
  · have n1 := neg32 (x := up) (by omega)
    have a1 := (mul32 (x := nI 2) (y := -up) (a := 2) (b := 405) (by rw [z2]; decide) (by omega) (by decide)).1
    rw [z2] at a1
    have a2 := add32 (x := nI 2 * -up) (y := low) (by omega)
    have a3 := sub32 (x := nI 2 * -up + low) (y := nI 1) (by omega)
    obtain ⟨a4, a5⟩ := div32 (x := nI 2 * -up + low - nI 1) (y := nI 2 * low) (a := 1300) (by omega) (by decide)
    unfold nwF
    rw [if_neg (by rw [Int32.le_iff_toInt_le, z0]; omega), neg32 (by omega), a4, a3, a2, a1, n1, l1, z1]
    rw [Int.tdiv_eq_ediv_of_nonneg (by omega)]
theorem k_neg {K L S : Int} (hL : 0 < L) (hK : 0 < K) (h : K * (2 * L) ≤ 2 * S + L - 1) : K * (K * L - 2 * S) < 0 := by
  have e1 : K * (2 * L) = 2 * (K * L) := by rw [Int.mul_left_comm]
  have e2 : L ≤ K * L := by
    have := Int.mul_le_mul_of_nonneg_right (show 1 ≤ K by omega) (show 0 ≤ L by omega)
    rw [Int.one_mul] at this
    exact this
  exact Int.mul_neg_of_pos_of_neg hK (by omega)
theorem st_no {f : Nat → Int32} {i j : Nat} {q : Int32} (hi : dtI f i i ≤ 405) (hj : dtI f j j ≤ 405) (hz : ¬ dotF f j j = 0) (hq : q = nwF (dotF f i j) (dotF f j j)) (h : ¬ q * (q * dotF f j j - nI 2 * dotF f i j) < 0) : q = nI 0 := by
  have d1 := dot_int hj hj
  have d2 := dot_int hi hj
  have l1 := dt_le hj hj
  have l2 := dt_le hi hj
  have hp := (low_pos hj hz).2
  have hb : q.toInt.natAbs ≤ 1300 := by
    rw [hq]
    exact nw_bd (by rw [d2]; exact l2) (by rw [d1]; exact l1)
  have z0 : (0 : Int32).toInt = 0 := by decide
  have zn : (nI 0).toInt = 0 := by decide
  rw [Int32.lt_iff_toInt_lt, stepv hi hj hb, z0] at h
  obtain ⟨n1, n2⟩ := nw_int (up := dotF f i j) (low := dotF f j j) (by rw [d2]; exact l2) (by rw [d1]; exact hp) (by rw [d1]; omega)
  rw [d1, d2, ← hq] at n1 n2
  apply Int32.toInt_inj.mp
  rw [zn]
  by_cases s : 0 ≤ dtI f i j
  · have e := n1 s
    have m := Int.ediv_mul_le (2 * dtI f i j + dtI f j j - 1) (show 2 * dtI f j j ≠ 0 by omega)
    have p := Int.ediv_nonneg (show 0 ≤ 2 * dtI f i j + dtI f j j - 1 by omega) (show 0 ≤ 2 * dtI f j j by omega)
    rw [← e] at m p
    rcases Int.lt_or_eq_of_le p with g | g
    · exact absurd (k_neg hp g m) h
    · exact g.symm
  · have e := n2 (by omega)
    have m := Int.ediv_mul_le (2 * -dtI f i j + dtI f j j - 1) (show 2 * dtI f j j ≠ 0 by omega)
    have p := Int.ediv_nonneg (show 0 ≤ 2 * -dtI f i j + dtI f j j - 1 by omega) (show 0 ≤ 2 * dtI f j j by omega)
    have e2 : (2 * -dtI f i j + dtI f j j - 1) / (2 * dtI f j j) = -q.toInt := by omega
    rw [e2] at m p
    rcases Int.lt_or_eq_of_le p with g | g
    · have k := k_neg hp g m
      have id : -q.toInt * (-q.toInt * dtI f j j - 2 * -dtI f i j) = q.toInt * (q.toInt * dtI f j j - 2 * dtI f i j) := by grind
      rw [id] at k
      exact absurd k h
    · omega
theorem st_ne {f : Nat → Int32} {i j : Nat} {q : Int32} (h : q * (q * dotF f j j - nI 2 * dotF f i j) < 0) : ¬ q = nI 0 := fun e => by
  rw [e, z_mul] at h
  exact absurd h (by decide)
theorem st_t {f g : Nat → Int32} {q : Int32} {n k t : Nat} (hn : n < 4) (hk : k < 4) (hnk : ¬ n = k) (hg : ∀ u : Nat, u < t → g (4 * u + n) = f (4 * u + n) - q * f (4 * u + k)) (ho : ∀ p : Nat, ¬ (p % 4 = n ∧ p < 4 * t) → g p = f p) :
    (∀ u : Nat, u < t + 1 → upd g (4 * t + n) (g (4 * t + n) - q * g (4 * t + k)) (4 * u + n) = f (4 * u + n) - q * f (4 * u + k)) ∧ ∀ p : Nat, ¬ (p % 4 = n ∧ p < 4 * (t + 1)) → upd g (4 * t + n) (g (4 * t + n) - q * g (4 * t + k)) p = f p := by
  refine ⟨fun u hu => ?_, fun p hp => ?_⟩
  · by_cases e : u = t
    · subst e
      rw [pk_us, ho (4 * u + n) (by omega), ho (4 * u + k) (by omega)]
    · rw [pk_un (by omega)]
      exact hg u (by omega)
  · rw [pk_un (by omega)]
    exact ho p (by omega)
theorem sh_17 {f g : Nat → Int32} {q : Int32} {n k : Nat} (hg : ∀ u : Nat, u < 5 → g (5 * n + u) = f (5 * n + u) - q * f (5 * k + u)) (ho : ∀ p : Nat, ¬ (5 * n ≤ p ∧ p < 5 * n + 5) → g p = f p) : ∀ r c : Nat, r < 5 → c < 4 → fC g r c = shC (fC f) q n k r c := fun r c hr hc => by
  unfold fC shC
  by_cases e : c = n
  · rw [if_pos e, e]
    exact hg r hr
  · rw [if_neg e]
    exact ho _ (by omega)
theorem sh_18 {f g : Nat → Int32} {q : Int32} {n k : Nat} (hg : ∀ u : Nat, u < 4 → g (4 * u + n) = f (4 * u + n) - q * f (4 * u + k)) (ho : ∀ p : Nat, ¬ (p % 4 = n ∧ p < 16) → g p = f p) : ∀ r c : Nat, r < 4 → c < 4 → fT g r c = shC (fT f) q n k r c := fun r c hr hc => by
  unfold fT shC
  by_cases e : c = n
  · rw [if_pos e, e]
    exact hg r hr
  · rw [if_neg e]
    exact ho _ (by omega)
theorem laid_ln {t co tr : Nat → Int32} {R M : Nat} (hM : M ≤ 4) (h : laid t R M co tr) : Ln 5 M (fun r c => colF t R M c r) 0 (fC co) (fT tr) := by
  refine ⟨fun r c hr hc => ?_, fun k c hk hc => h.2 k c (by omega) (by omega)⟩
  unfold fC
  rw [h.1 (5 * c + r) (by omega), show (5 * c + r) / 5 = c by omega, show (5 * c + r) % 5 = r by omega]
theorem SI_le {f : Nat → Int32} (h : short f) : SI f ≤ 1620 := by
  have h0 := h 0 (by decide)
  have h1 := h 1 (by decide)
  have h2 := h 2 (by decide)
  have h3 := h 3 (by decide)
  unfold SI
  omega
set_option maxRecDepth 20000 in
theorem ggX10_steps_X10_dot : GoodIn wsX10_steps wsX10_dot := goodIn_r _ [8, 2, 12, 13, 14, 15, 16, 17, 18, 19, 20, 21, 22, 23, 24, 25, 26, 27, 28, 29, 30, 31, 32, 33, 34, 35, 36, 37, 38, 39] rfl (by decide +kernel)
set_option maxRecDepth 20000 in
theorem gX10_steps_X10_dot : GoodIn wsX10_steps (wsV RX10 175 RX10 yX10_dot wsX10_dot) := goodIn_app (goodIn_of _ (by decide +kernel)) ggX10_steps_X10_dot
set_option maxRecDepth 20000 in
theorem ggX10_steps_X10_nearestWhole : GoodIn wsX10_steps wsX10_nearestWhole := goodIn_r _ [11] rfl (by decide +kernel)
set_option maxRecDepth 20000 in
theorem gX10_steps_X10_nearestWhole : GoodIn wsX10_steps (va_wsS RX10 222 yX10_nearestWhole wsX10_nearestWhole) := goodIn_app (goodIn_of _ (by decide +kernel)) ggX10_steps_X10_nearestWhole
theorem bdX10_steps_0 : (decode cX10_steps 0 = .ok (.iconst 0, 1)) ∧ (decode cX10_steps 1 = .ok (.istore_n 1, 1)) ∧ (decode cX10_steps 2 = .ok (.iload_n 1, 1)) ∧ (decode cX10_steps 3 = .ok (.aload_n 0, 1)) ∧ (decode cX10_steps 4 = .ok (.getfield 13, 3)) ∧ (decode cX10_steps 7 = .ok (.if_icmp .ge 164, 3)) ∧ (decode cX10_steps 10 = .ok (.iconst 0, 1)) ∧ (decode cX10_steps 11 = .ok (.istore_n 2, 1)) ∧ (decode cX10_steps 12 = .ok (.iload_n 2, 1)) ∧ (decode cX10_steps 13 = .ok (.aload_n 0, 1)) ∧ (decode cX10_steps 14 = .ok (.getfield 13, 3)) ∧ (decode cX10_steps 17 = .ok (.if_icmp .ge 148, 3)) ∧ (decode cX10_steps 20 = .ok (.aload_n 0, 1)) ∧ (decode cX10_steps 21 = .ok (.iload_n 2, 1)) ∧ (decode cX10_steps 22 = .ok (.iload_n 2, 1)) ∧ (decode cX10_steps 23 = .ok (.invokevirtual 175, 3)) := by decide +kernel
theorem dX10_steps_0 : decode cX10_steps 0 = .ok (.iconst 0, 1) := bdX10_steps_0.1
theorem dX10_steps_1 : decode cX10_steps 1 = .ok (.istore_n 1, 1) := bdX10_steps_0.2.1
theorem dX10_steps_2 : decode cX10_steps 2 = .ok (.iload_n 1, 1) := bdX10_steps_0.2.2.1
theorem dX10_steps_3 : decode cX10_steps 3 = .ok (.aload_n 0, 1) := bdX10_steps_0.2.2.2.1
theorem dX10_steps_4 : decode cX10_steps 4 = .ok (.getfield 13, 3) := bdX10_steps_0.2.2.2.2.1
theorem dX10_steps_7 : decode cX10_steps 7 = .ok (.if_icmp .ge 164, 3) := bdX10_steps_0.2.2.2.2.2.1
theorem dX10_steps_10 : decode cX10_steps 10 = .ok (.iconst 0, 1) := bdX10_steps_0.2.2.2.2.2.2.1
theorem dX10_steps_11 : decode cX10_steps 11 = .ok (.istore_n 2, 1) := bdX10_steps_0.2.2.2.2.2.2.2.1
theorem dX10_steps_12 : decode cX10_steps 12 = .ok (.iload_n 2, 1) := bdX10_steps_0.2.2.2.2.2.2.2.2.1
theorem dX10_steps_13 : decode cX10_steps 13 = .ok (.aload_n 0, 1) := bdX10_steps_0.2.2.2.2.2.2.2.2.2.1
theorem dX10_steps_14 : decode cX10_steps 14 = .ok (.getfield 13, 3) := bdX10_steps_0.2.2.2.2.2.2.2.2.2.2.1
theorem dX10_steps_17 : decode cX10_steps 17 = .ok (.if_icmp .ge 148, 3) := bdX10_steps_0.2.2.2.2.2.2.2.2.2.2.2.1
theorem dX10_steps_20 : decode cX10_steps 20 = .ok (.aload_n 0, 1) := bdX10_steps_0.2.2.2.2.2.2.2.2.2.2.2.2.1
theorem dX10_steps_21 : decode cX10_steps 21 = .ok (.iload_n 2, 1) := bdX10_steps_0.2.2.2.2.2.2.2.2.2.2.2.2.2.1
theorem dX10_steps_22 : decode cX10_steps 22 = .ok (.iload_n 2, 1) := bdX10_steps_0.2.2.2.2.2.2.2.2.2.2.2.2.2.2.1
theorem dX10_steps_23 : decode cX10_steps 23 = .ok (.invokevirtual 175, 3) := bdX10_steps_0.2.2.2.2.2.2.2.2.2.2.2.2.2.2.2
theorem bdX10_steps_26 : (decode cX10_steps 26 = .ok (.istore_n 3, 1)) ∧ (decode cX10_steps 27 = .ok (.iload_n 1, 1)) ∧ (decode cX10_steps 28 = .ok (.iload_n 2, 1)) ∧ (decode cX10_steps 29 = .ok (.if_icmp .eq 7, 3)) ∧ (decode cX10_steps 32 = .ok (.iload_n 3, 1)) ∧ (decode cX10_steps 33 = .ok (.ifCond .ne 7, 3)) ∧ (decode cX10_steps 36 = .ok (.iconst 0, 1)) ∧ (decode cX10_steps 37 = .ok (.goto 13, 3)) ∧ (decode cX10_steps 40 = .ok (.aload_n 0, 1)) ∧ (decode cX10_steps 41 = .ok (.iload_n 1, 1)) ∧ (decode cX10_steps 42 = .ok (.iload_n 2, 1)) ∧ (decode cX10_steps 43 = .ok (.invokevirtual 175, 3)) ∧ (decode cX10_steps 46 = .ok (.iload_n 3, 1)) ∧ (decode cX10_steps 47 = .ok (.invokestatic 222, 3)) ∧ (decode cX10_steps 50 = .ok (.istore 4, 2)) ∧ (decode cX10_steps 52 = .ok (.iload 4, 2)) := by decide +kernel
theorem dX10_steps_26 : decode cX10_steps 26 = .ok (.istore_n 3, 1) := bdX10_steps_26.1
theorem dX10_steps_27 : decode cX10_steps 27 = .ok (.iload_n 1, 1) := bdX10_steps_26.2.1
theorem dX10_steps_28 : decode cX10_steps 28 = .ok (.iload_n 2, 1) := bdX10_steps_26.2.2.1
theorem dX10_steps_29 : decode cX10_steps 29 = .ok (.if_icmp .eq 7, 3) := bdX10_steps_26.2.2.2.1
theorem dX10_steps_32 : decode cX10_steps 32 = .ok (.iload_n 3, 1) := bdX10_steps_26.2.2.2.2.1
theorem dX10_steps_33 : decode cX10_steps 33 = .ok (.ifCond .ne 7, 3) := bdX10_steps_26.2.2.2.2.2.1
theorem dX10_steps_36 : decode cX10_steps 36 = .ok (.iconst 0, 1) := bdX10_steps_26.2.2.2.2.2.2.1
theorem dX10_steps_37 : decode cX10_steps 37 = .ok (.goto 13, 3) := bdX10_steps_26.2.2.2.2.2.2.2.1
theorem dX10_steps_40 : decode cX10_steps 40 = .ok (.aload_n 0, 1) := bdX10_steps_26.2.2.2.2.2.2.2.2.1
theorem dX10_steps_41 : decode cX10_steps 41 = .ok (.iload_n 1, 1) := bdX10_steps_26.2.2.2.2.2.2.2.2.2.1
theorem dX10_steps_42 : decode cX10_steps 42 = .ok (.iload_n 2, 1) := bdX10_steps_26.2.2.2.2.2.2.2.2.2.2.1
theorem dX10_steps_43 : decode cX10_steps 43 = .ok (.invokevirtual 175, 3) := bdX10_steps_26.2.2.2.2.2.2.2.2.2.2.2.1
theorem dX10_steps_46 : decode cX10_steps 46 = .ok (.iload_n 3, 1) := bdX10_steps_26.2.2.2.2.2.2.2.2.2.2.2.2.1
theorem dX10_steps_47 : decode cX10_steps 47 = .ok (.invokestatic 222, 3) := bdX10_steps_26.2.2.2.2.2.2.2.2.2.2.2.2.2.1
theorem dX10_steps_50 : decode cX10_steps 50 = .ok (.istore 4, 2) := bdX10_steps_26.2.2.2.2.2.2.2.2.2.2.2.2.2.2.1
theorem dX10_steps_52 : decode cX10_steps 52 = .ok (.iload 4, 2) := bdX10_steps_26.2.2.2.2.2.2.2.2.2.2.2.2.2.2.2
theorem bdX10_steps_54 : (decode cX10_steps 54 = .ok (.iload 4, 2)) ∧ (decode cX10_steps 56 = .ok (.iload_n 3, 1)) ∧ (decode cX10_steps 57 = .ok (.imul, 1)) ∧ (decode cX10_steps 58 = .ok (.iconst 2, 1)) ∧ (decode cX10_steps 59 = .ok (.aload_n 0, 1)) ∧ (decode cX10_steps 60 = .ok (.iload_n 1, 1)) ∧ (decode cX10_steps 61 = .ok (.iload_n 2, 1)) ∧ (decode cX10_steps 62 = .ok (.invokevirtual 175, 3)) ∧ (decode cX10_steps 65 = .ok (.imul, 1)) ∧ (decode cX10_steps 66 = .ok (.isub, 1)) ∧ (decode cX10_steps 67 = .ok (.imul, 1)) ∧ (decode cX10_steps 68 = .ok (.ifCond .ge 91, 3)) ∧ (decode cX10_steps 71 = .ok (.iconst 0, 1)) ∧ (decode cX10_steps 72 = .ok (.istore 5, 2)) ∧ (decode cX10_steps 74 = .ok (.iload 5, 2)) ∧ (decode cX10_steps 76 = .ok (.iconst 5, 1)) := by decide +kernel
theorem dX10_steps_54 : decode cX10_steps 54 = .ok (.iload 4, 2) := bdX10_steps_54.1
theorem dX10_steps_56 : decode cX10_steps 56 = .ok (.iload_n 3, 1) := bdX10_steps_54.2.1
theorem dX10_steps_57 : decode cX10_steps 57 = .ok (.imul, 1) := bdX10_steps_54.2.2.1
theorem dX10_steps_58 : decode cX10_steps 58 = .ok (.iconst 2, 1) := bdX10_steps_54.2.2.2.1
theorem dX10_steps_59 : decode cX10_steps 59 = .ok (.aload_n 0, 1) := bdX10_steps_54.2.2.2.2.1
theorem dX10_steps_60 : decode cX10_steps 60 = .ok (.iload_n 1, 1) := bdX10_steps_54.2.2.2.2.2.1
theorem dX10_steps_61 : decode cX10_steps 61 = .ok (.iload_n 2, 1) := bdX10_steps_54.2.2.2.2.2.2.1
theorem dX10_steps_62 : decode cX10_steps 62 = .ok (.invokevirtual 175, 3) := bdX10_steps_54.2.2.2.2.2.2.2.1
theorem dX10_steps_65 : decode cX10_steps 65 = .ok (.imul, 1) := bdX10_steps_54.2.2.2.2.2.2.2.2.1
theorem dX10_steps_66 : decode cX10_steps 66 = .ok (.isub, 1) := bdX10_steps_54.2.2.2.2.2.2.2.2.2.1
theorem dX10_steps_67 : decode cX10_steps 67 = .ok (.imul, 1) := bdX10_steps_54.2.2.2.2.2.2.2.2.2.2.1
theorem dX10_steps_68 : decode cX10_steps 68 = .ok (.ifCond .ge 91, 3) := bdX10_steps_54.2.2.2.2.2.2.2.2.2.2.2.1
theorem dX10_steps_71 : decode cX10_steps 71 = .ok (.iconst 0, 1) := bdX10_steps_54.2.2.2.2.2.2.2.2.2.2.2.2.1
theorem dX10_steps_72 : decode cX10_steps 72 = .ok (.istore 5, 2) := bdX10_steps_54.2.2.2.2.2.2.2.2.2.2.2.2.2.1
theorem dX10_steps_74 : decode cX10_steps 74 = .ok (.iload 5, 2) := bdX10_steps_54.2.2.2.2.2.2.2.2.2.2.2.2.2.2.1
theorem dX10_steps_76 : decode cX10_steps 76 = .ok (.iconst 5, 1) := bdX10_steps_54.2.2.2.2.2.2.2.2.2.2.2.2.2.2.2
theorem bdX10_steps_77 : (decode cX10_steps 77 = .ok (.if_icmp .ge 37, 3)) ∧ (decode cX10_steps 80 = .ok (.aload_n 0, 1)) ∧ (decode cX10_steps 81 = .ok (.getfield 41, 3)) ∧ (decode cX10_steps 84 = .ok (.iconst 5, 1)) ∧ (decode cX10_steps 85 = .ok (.iload_n 1, 1)) ∧ (decode cX10_steps 86 = .ok (.imul, 1)) ∧ (decode cX10_steps 87 = .ok (.iload 5, 2)) ∧ (decode cX10_steps 89 = .ok (.iadd, 1)) ∧ (decode cX10_steps 90 = .ok (.dup2, 1)) ∧ (decode cX10_steps 91 = .ok (.iaload, 1)) ∧ (decode cX10_steps 92 = .ok (.iload 4, 2)) ∧ (decode cX10_steps 94 = .ok (.aload_n 0, 1)) ∧ (decode cX10_steps 95 = .ok (.getfield 41, 3)) ∧ (decode cX10_steps 98 = .ok (.iconst 5, 1)) ∧ (decode cX10_steps 99 = .ok (.iload_n 2, 1)) ∧ (decode cX10_steps 100 = .ok (.imul, 1)) := by decide +kernel
theorem dX10_steps_77 : decode cX10_steps 77 = .ok (.if_icmp .ge 37, 3) := bdX10_steps_77.1
theorem dX10_steps_80 : decode cX10_steps 80 = .ok (.aload_n 0, 1) := bdX10_steps_77.2.1
theorem dX10_steps_81 : decode cX10_steps 81 = .ok (.getfield 41, 3) := bdX10_steps_77.2.2.1
theorem dX10_steps_84 : decode cX10_steps 84 = .ok (.iconst 5, 1) := bdX10_steps_77.2.2.2.1
theorem dX10_steps_85 : decode cX10_steps 85 = .ok (.iload_n 1, 1) := bdX10_steps_77.2.2.2.2.1
theorem dX10_steps_86 : decode cX10_steps 86 = .ok (.imul, 1) := bdX10_steps_77.2.2.2.2.2.1
theorem dX10_steps_87 : decode cX10_steps 87 = .ok (.iload 5, 2) := bdX10_steps_77.2.2.2.2.2.2.1
theorem dX10_steps_89 : decode cX10_steps 89 = .ok (.iadd, 1) := bdX10_steps_77.2.2.2.2.2.2.2.1
theorem dX10_steps_90 : decode cX10_steps 90 = .ok (.dup2, 1) := bdX10_steps_77.2.2.2.2.2.2.2.2.1
theorem dX10_steps_91 : decode cX10_steps 91 = .ok (.iaload, 1) := bdX10_steps_77.2.2.2.2.2.2.2.2.2.1
theorem dX10_steps_92 : decode cX10_steps 92 = .ok (.iload 4, 2) := bdX10_steps_77.2.2.2.2.2.2.2.2.2.2.1
theorem dX10_steps_94 : decode cX10_steps 94 = .ok (.aload_n 0, 1) := bdX10_steps_77.2.2.2.2.2.2.2.2.2.2.2.1
theorem dX10_steps_95 : decode cX10_steps 95 = .ok (.getfield 41, 3) := bdX10_steps_77.2.2.2.2.2.2.2.2.2.2.2.2.1
theorem dX10_steps_98 : decode cX10_steps 98 = .ok (.iconst 5, 1) := bdX10_steps_77.2.2.2.2.2.2.2.2.2.2.2.2.2.1
theorem dX10_steps_99 : decode cX10_steps 99 = .ok (.iload_n 2, 1) := bdX10_steps_77.2.2.2.2.2.2.2.2.2.2.2.2.2.2.1
theorem dX10_steps_100 : decode cX10_steps 100 = .ok (.imul, 1) := bdX10_steps_77.2.2.2.2.2.2.2.2.2.2.2.2.2.2.2
theorem bdX10_steps_101 : (decode cX10_steps 101 = .ok (.iload 5, 2)) ∧ (decode cX10_steps 103 = .ok (.iadd, 1)) ∧ (decode cX10_steps 104 = .ok (.iaload, 1)) ∧ (decode cX10_steps 105 = .ok (.imul, 1)) ∧ (decode cX10_steps 106 = .ok (.isub, 1)) ∧ (decode cX10_steps 107 = .ok (.iastore, 1)) ∧ (decode cX10_steps 108 = .ok (.iinc 5 1, 3)) ∧ (decode cX10_steps 111 = .ok (.goto (-37), 3)) ∧ (decode cX10_steps 114 = .ok (.iconst 0, 1)) ∧ (decode cX10_steps 115 = .ok (.istore 5, 2)) ∧ (decode cX10_steps 117 = .ok (.iload 5, 2)) ∧ (decode cX10_steps 119 = .ok (.iconst 4, 1)) ∧ (decode cX10_steps 120 = .ok (.if_icmp .ge 37, 3)) ∧ (decode cX10_steps 123 = .ok (.aload_n 0, 1)) ∧ (decode cX10_steps 124 = .ok (.getfield 44, 3)) ∧ (decode cX10_steps 127 = .ok (.iconst 4, 1)) := by decide +kernel
theorem dX10_steps_101 : decode cX10_steps 101 = .ok (.iload 5, 2) := bdX10_steps_101.1
theorem dX10_steps_103 : decode cX10_steps 103 = .ok (.iadd, 1) := bdX10_steps_101.2.1
theorem dX10_steps_104 : decode cX10_steps 104 = .ok (.iaload, 1) := bdX10_steps_101.2.2.1
theorem dX10_steps_105 : decode cX10_steps 105 = .ok (.imul, 1) := bdX10_steps_101.2.2.2.1
theorem dX10_steps_106 : decode cX10_steps 106 = .ok (.isub, 1) := bdX10_steps_101.2.2.2.2.1
theorem dX10_steps_107 : decode cX10_steps 107 = .ok (.iastore, 1) := bdX10_steps_101.2.2.2.2.2.1
theorem dX10_steps_108 : decode cX10_steps 108 = .ok (.iinc 5 1, 3) := bdX10_steps_101.2.2.2.2.2.2.1
theorem dX10_steps_111 : decode cX10_steps 111 = .ok (.goto (-37), 3) := bdX10_steps_101.2.2.2.2.2.2.2.1
theorem dX10_steps_114 : decode cX10_steps 114 = .ok (.iconst 0, 1) := bdX10_steps_101.2.2.2.2.2.2.2.2.1
theorem dX10_steps_115 : decode cX10_steps 115 = .ok (.istore 5, 2) := bdX10_steps_101.2.2.2.2.2.2.2.2.2.1
theorem dX10_steps_117 : decode cX10_steps 117 = .ok (.iload 5, 2) := bdX10_steps_101.2.2.2.2.2.2.2.2.2.2.1
theorem dX10_steps_119 : decode cX10_steps 119 = .ok (.iconst 4, 1) := bdX10_steps_101.2.2.2.2.2.2.2.2.2.2.2.1
theorem dX10_steps_120 : decode cX10_steps 120 = .ok (.if_icmp .ge 37, 3) := bdX10_steps_101.2.2.2.2.2.2.2.2.2.2.2.2.1
theorem dX10_steps_123 : decode cX10_steps 123 = .ok (.aload_n 0, 1) := bdX10_steps_101.2.2.2.2.2.2.2.2.2.2.2.2.2.1
theorem dX10_steps_124 : decode cX10_steps 124 = .ok (.getfield 44, 3) := bdX10_steps_101.2.2.2.2.2.2.2.2.2.2.2.2.2.2.1
theorem dX10_steps_127 : decode cX10_steps 127 = .ok (.iconst 4, 1) := bdX10_steps_101.2.2.2.2.2.2.2.2.2.2.2.2.2.2.2
theorem bdX10_steps_128 : (decode cX10_steps 128 = .ok (.iload 5, 2)) ∧ (decode cX10_steps 130 = .ok (.imul, 1)) ∧ (decode cX10_steps 131 = .ok (.iload_n 1, 1)) ∧ (decode cX10_steps 132 = .ok (.iadd, 1)) ∧ (decode cX10_steps 133 = .ok (.dup2, 1)) ∧ (decode cX10_steps 134 = .ok (.iaload, 1)) ∧ (decode cX10_steps 135 = .ok (.iload 4, 2)) ∧ (decode cX10_steps 137 = .ok (.aload_n 0, 1)) ∧ (decode cX10_steps 138 = .ok (.getfield 44, 3)) ∧ (decode cX10_steps 141 = .ok (.iconst 4, 1)) ∧ (decode cX10_steps 142 = .ok (.iload 5, 2)) ∧ (decode cX10_steps 144 = .ok (.imul, 1)) ∧ (decode cX10_steps 145 = .ok (.iload_n 2, 1)) ∧ (decode cX10_steps 146 = .ok (.iadd, 1)) ∧ (decode cX10_steps 147 = .ok (.iaload, 1)) ∧ (decode cX10_steps 148 = .ok (.imul, 1)) := by decide +kernel
theorem dX10_steps_128 : decode cX10_steps 128 = .ok (.iload 5, 2) := bdX10_steps_128.1
theorem dX10_steps_130 : decode cX10_steps 130 = .ok (.imul, 1) := bdX10_steps_128.2.1
theorem dX10_steps_131 : decode cX10_steps 131 = .ok (.iload_n 1, 1) := bdX10_steps_128.2.2.1
theorem dX10_steps_132 : decode cX10_steps 132 = .ok (.iadd, 1) := bdX10_steps_128.2.2.2.1
theorem dX10_steps_133 : decode cX10_steps 133 = .ok (.dup2, 1) := bdX10_steps_128.2.2.2.2.1
theorem dX10_steps_134 : decode cX10_steps 134 = .ok (.iaload, 1) := bdX10_steps_128.2.2.2.2.2.1
theorem dX10_steps_135 : decode cX10_steps 135 = .ok (.iload 4, 2) := bdX10_steps_128.2.2.2.2.2.2.1
theorem dX10_steps_137 : decode cX10_steps 137 = .ok (.aload_n 0, 1) := bdX10_steps_128.2.2.2.2.2.2.2.1
theorem dX10_steps_138 : decode cX10_steps 138 = .ok (.getfield 44, 3) := bdX10_steps_128.2.2.2.2.2.2.2.2.1
theorem dX10_steps_141 : decode cX10_steps 141 = .ok (.iconst 4, 1) := bdX10_steps_128.2.2.2.2.2.2.2.2.2.1
theorem dX10_steps_142 : decode cX10_steps 142 = .ok (.iload 5, 2) := bdX10_steps_128.2.2.2.2.2.2.2.2.2.2.1
theorem dX10_steps_144 : decode cX10_steps 144 = .ok (.imul, 1) := bdX10_steps_128.2.2.2.2.2.2.2.2.2.2.2.1
theorem dX10_steps_145 : decode cX10_steps 145 = .ok (.iload_n 2, 1) := bdX10_steps_128.2.2.2.2.2.2.2.2.2.2.2.2.1
theorem dX10_steps_146 : decode cX10_steps 146 = .ok (.iadd, 1) := bdX10_steps_128.2.2.2.2.2.2.2.2.2.2.2.2.2.1
theorem dX10_steps_147 : decode cX10_steps 147 = .ok (.iaload, 1) := bdX10_steps_128.2.2.2.2.2.2.2.2.2.2.2.2.2.2.1
theorem dX10_steps_148 : decode cX10_steps 148 = .ok (.imul, 1) := bdX10_steps_128.2.2.2.2.2.2.2.2.2.2.2.2.2.2.2
theorem bdX10_steps_149 : (decode cX10_steps 149 = .ok (.isub, 1)) ∧ (decode cX10_steps 150 = .ok (.iastore, 1)) ∧ (decode cX10_steps 151 = .ok (.iinc 5 1, 3)) ∧ (decode cX10_steps 154 = .ok (.goto (-37), 3)) ∧ (decode cX10_steps 157 = .ok (.iconst 1, 1)) ∧ (decode cX10_steps 158 = .ok (.ireturn, 1)) ∧ (decode cX10_steps 159 = .ok (.iinc 2 1, 3)) ∧ (decode cX10_steps 162 = .ok (.goto (-150), 3)) ∧ (decode cX10_steps 165 = .ok (.iinc 1 1, 3)) ∧ (decode cX10_steps 168 = .ok (.goto (-166), 3)) ∧ (decode cX10_steps 171 = .ok (.iconst 0, 1)) ∧ (decode cX10_steps 172 = .ok (.ireturn, 1)) := by decide +kernel
theorem dX10_steps_149 : decode cX10_steps 149 = .ok (.isub, 1) := bdX10_steps_149.1
theorem dX10_steps_150 : decode cX10_steps 150 = .ok (.iastore, 1) := bdX10_steps_149.2.1
theorem dX10_steps_151 : decode cX10_steps 151 = .ok (.iinc 5 1, 3) := bdX10_steps_149.2.2.1
theorem dX10_steps_154 : decode cX10_steps 154 = .ok (.goto (-37), 3) := bdX10_steps_149.2.2.2.1
theorem dX10_steps_157 : decode cX10_steps 157 = .ok (.iconst 1, 1) := bdX10_steps_149.2.2.2.2.1
theorem dX10_steps_158 : decode cX10_steps 158 = .ok (.ireturn, 1) := bdX10_steps_149.2.2.2.2.2.1
theorem dX10_steps_159 : decode cX10_steps 159 = .ok (.iinc 2 1, 3) := bdX10_steps_149.2.2.2.2.2.2.1
theorem dX10_steps_162 : decode cX10_steps 162 = .ok (.goto (-150), 3) := bdX10_steps_149.2.2.2.2.2.2.2.1
theorem dX10_steps_165 : decode cX10_steps 165 = .ok (.iinc 1 1, 3) := bdX10_steps_149.2.2.2.2.2.2.2.2.1
theorem dX10_steps_168 : decode cX10_steps 168 = .ok (.goto (-166), 3) := bdX10_steps_149.2.2.2.2.2.2.2.2.2.1
theorem dX10_steps_171 : decode cX10_steps 171 = .ok (.iconst 0, 1) := bdX10_steps_149.2.2.2.2.2.2.2.2.2.2.1
theorem dX10_steps_172 : decode cX10_steps 172 = .ok (.ireturn, 1) := bdX10_steps_149.2.2.2.2.2.2.2.2.2.2.2
set_option maxHeartbeats 4000000 in
set_option maxRecDepth 100000 in
theorem k_X10_steps (l : Launch) (dC : Nat → ClassId) (dI : Nat → Nat → Nat) (h : Nat → Nat) (cs : Nat → ClassId) (sz : Nat) (I : Nat → Int32) (L : Nat → Int64) (A : Nat → Nat → Int32) (Q : Nat → Nat → Int64) (M : Nat) (hM : I 1 = nI M) (hM1 : 1 ≤ M) (hM4 : M ≤ 4) (hsh : short (A 17)) : Met l yX10_steps wsX10_steps ({ frames := 1, cells := 0, slots := 0, locals := 24 }) (va_Pc [.ref (h 0)] (xPre (dC, dI) (rW h cs I L A Q) (tysA cs) sz)) (va_Qi (fun (r : Int32) (u : RS) => ∃ a17 : Nat → Int32, ∃ a18 : Nat → Int32, ((r = nI 0 ∧ a17 = A 17 ∧ a18 = A 18 ∧ NoSt 5 M (fC (A 17))) ∨ (r = nI 1 ∧ short a17 ∧ SI a17 < SI (A 17) ∧ ∃ i j : Nat, Fst 5 M (fC (A 17)) i j ∧ (∀ r c : Nat, r < 5 → c < 4 → fC a17 r c = shC (fC (A 17)) (qF (fC (A 17)) 5 i j) i j r c) ∧ ∀ k c : Nat, k < 4 → c < 4 → fT a18 k c = shC (fT (A 18)) (qF (fC (A 17)) 5 i j) i j k c)) ∧ u = (I, L, (va_up (va_up A 17 a17) 18 a18), Q)) (xB (dC, dI) (tysA cs) (va_A (rW h cs I L A Q) sz) (fun u : RS => rW h cs u.1 u.2.1 u.2.2.1 u.2.2.2)) (va_A (rW h cs I L A Q) sz)) 0 0 (va_A (rW h cs I L A Q) sz) := by
  refine Met.ofW (cc := cX10_steps) (maxL := 6) (ret := (some .boolean)) (by decide) rfl ?_
  intro p e s m args below meth c s₁ B hml hv
  obtain ⟨rfl, hsz, hP, hK, hD0, hN⟩ := hv
  have hx := B.exec
  have hb := B.bytes
  have hr := B.returns
  have hts := atoms_spec (ws := wsX10_steps) B.pre
  have hown : s.vm.findClass RX10 = some m.cls := findClass_of_methodNamed B.named
  have hlocks := B.notSynchronized
  subst hsz
  have hD := hD0.self (sz := s.heap.size)
  generalize hAe : va_A (rW h cs I L A Q) s.heap.size = A0 at hD ⊢
  have hA : ∀ q : Nat, s.heap.size ≤ q → A0 q := fun q h => by rw [← hAe]; exact Or.inr h
  have hl := lv_entry ([.ref (h 0)]) (n := 6) (Nat.le_of_ble_eq_true rfl)
  rw [lg_entry_eq]
  generalize (lg_sl ([.ref (h 0)]) ++ List.replicate (6 - (lg_sl ([.ref (h 0)])).length) Slot.unset).toArray = ls at hl ⊢
  have hl : lv_has ls 6 [(0, .ref (h 0))] := hl
  generalize hH : s.heap = H at hP ⊢
  have hS : va_S A0 s.heap H [] := by rw [← hH]; exact va_S.rf
  have hinX10 : ∀ w ∈ wsX100, w ∈ wsX10_steps := by decide +kernel
  refine lv_iconst (v := nI 0) hx hb dX10_steps_0 (by decide) ?_
  refine lv_istore_n (lv' := [(1, .int (nI 0)), (0, .ref (h 0))]) hx hb dX10_steps_1 rfl hl (by decide) rfl (fun ls hl => ?_)
  have cut_2 : ∀ (nf : Nat) (n : Nat), (M - n) < nf → (n ≤ M) → (∀ a b : Nat, a < M → b < M → ¬ a = b → (a < n ∨ (a = n ∧ b < 0)) → qF (fC (A 17)) 5 a b = nI 0) → ∀ (H : Heap) (locs : List Loc) (ls : Array Slot), va_P (dC, dI) vwCl (rW h cs I L A Q) H → va_D A0 (rW h cs I L A Q) → va_S A0 s.heap H locs → lv_has ls 6 [(0, .ref (h 0)), (1, .int (nI n))] → W p l e (headSpec wsX10_steps ({ frames := 1, cells := 0, slots := 0, locals := 24 })).room s m ([.ref (h 0)] : List Value).toArray below meth c H locs 0 0 (MQ below (va_Qi (fun (r : Int32) (u : RS) => ∃ a17 : Nat → Int32, ∃ a18 : Nat → Int32, ((r = nI 0 ∧ a17 = A 17 ∧ a18 = A 18 ∧ NoSt 5 M (fC (A 17))) ∨ (r = nI 1 ∧ short a17 ∧ SI a17 < SI (A 17) ∧ ∃ i j : Nat, Fst 5 M (fC (A 17)) i j ∧ (∀ r c : Nat, r < 5 → c < 4 → fC a17 r c = shC (fC (A 17)) (qF (fC (A 17)) 5 i j) i j r c) ∧ ∀ k c : Nat, k < 4 → c < 4 → fT a18 k c = shC (fT (A 18)) (qF (fC (A 17)) 5 i j) i j k c)) ∧ u = (I, L, (va_up (va_up A 17 a17) 18 a18), Q)) (xB (dC, dI) (tysA cs) A0 (fun u : RS => rW h cs u.1 u.2.1 u.2.2.1 u.2.2.2)) A0) ([.ref (h 0)] : List Value).toArray s 0 0 A0) (F0 m 2 ls []) := by
    intro nf
    induction nf with
    | zero => intro n hm; exact absurd hm (Nat.not_lt_zero _)
    | succ nf ih_2 =>
      intro n hm_2 hn2 hz2 H locs ls hP hD hS hl
      refine lv_iload_n hx hb dX10_steps_2 rfl (lv_at hl 1 rfl) ?_
      refine lv_aload_n hx hb dX10_steps_3 rfl (lv_at hl 0 rfl) ?_
      refine va_get (D := (dC, dI)) (ci := 10) (v := .int (I 1)) (C := RX10) (T := TX10) (N := 28) hx hb hts hinX10 hown hK hP 0 rfl rfl 1 (by decide) (hts (.fieldLink RX10 13 "MixedWordsModel" "columns" "I") (by decide +kernel)) (fun _ h9 => h9) rfl dX10_steps_4 ?_
      refine xt_i (y := nI M) (hM) ?_
      refine xn_ge (tgt := 171) hx hb dX10_steps_7 (by decide) (by omega) (by omega) (fun c_7_0 => ?_) (fun c_7_0 => ?_)
      · skip
        refine lv_iconst (v := nI 0) hx hb dX10_steps_171 (by decide) ?_
        exact xr_z (v := (nI 0)) hx hb hr hlocks hK hS dX10_steps_172 (rfl) (I, L, (va_up (va_up A 17 (A 17)) 18 (A 18)), Q) ⟨(A 17), (A 18), (Or.inl ⟨rfl, rfl, rfl, fun a b h1 h2 h3 => hz2 a b h1 h2 h3 (Or.inl (by omega))⟩), rfl⟩ hP hD
      · skip
        refine lv_iconst (v := nI 0) hx hb dX10_steps_10 (by decide) ?_
        refine lv_istore_n (lv' := [(2, .int (nI 0)), (0, .ref (h 0)), (1, .int (nI n))]) hx hb dX10_steps_11 rfl hl (by decide) rfl (fun ls hl => ?_)
        have cut_12 : ∀ (nf : Nat) (k : Nat), (M - k) < nf → (k ≤ M) → (∀ a b : Nat, a < M → b < M → ¬ a = b → (a < n ∨ (a = n ∧ b < k)) → qF (fC (A 17)) 5 a b = nI 0) → ∀ (H : Heap) (locs : List Loc) (ls : Array Slot), va_P (dC, dI) vwCl (rW h cs I L A Q) H → va_D A0 (rW h cs I L A Q) → va_S A0 s.heap H locs → lv_has ls 6 [(0, .ref (h 0)), (1, .int (nI n)), (2, .int (nI k))] → W p l e (headSpec wsX10_steps ({ frames := 1, cells := 0, slots := 0, locals := 24 })).room s m ([.ref (h 0)] : List Value).toArray below meth c H locs 0 0 (MQ below (va_Qi (fun (r : Int32) (u : RS) => ∃ a17 : Nat → Int32, ∃ a18 : Nat → Int32, ((r = nI 0 ∧ a17 = A 17 ∧ a18 = A 18 ∧ NoSt 5 M (fC (A 17))) ∨ (r = nI 1 ∧ short a17 ∧ SI a17 < SI (A 17) ∧ ∃ i j : Nat, Fst 5 M (fC (A 17)) i j ∧ (∀ r c : Nat, r < 5 → c < 4 → fC a17 r c = shC (fC (A 17)) (qF (fC (A 17)) 5 i j) i j r c) ∧ ∀ k c : Nat, k < 4 → c < 4 → fT a18 k c = shC (fT (A 18)) (qF (fC (A 17)) 5 i j) i j k c)) ∧ u = (I, L, (va_up (va_up A 17 a17) 18 a18), Q)) (xB (dC, dI) (tysA cs) A0 (fun u : RS => rW h cs u.1 u.2.1 u.2.2.1 u.2.2.2)) A0) ([.ref (h 0)] : List Value).toArray s 0 0 A0) (F0 m 12 ls []) := by
          intro nf
          induction nf with
          | zero => intro k hm; exact absurd hm (Nat.not_lt_zero _)
          | succ nf ih_12 =>
            intro k hm_12 hk12 hz12 H locs ls hP hD hS hl
            refine lv_iload_n hx hb dX10_steps_12 rfl (lv_at hl 2 rfl) ?_
            refine lv_aload_n hx hb dX10_steps_13 rfl (lv_at hl 0 rfl) ?_
            refine va_get (D := (dC, dI)) (ci := 10) (v := .int (I 1)) (C := RX10) (T := TX10) (N := 28) hx hb hts hinX10 hown hK hP 0 rfl rfl 1 (by decide) (hts (.fieldLink RX10 13 "MixedWordsModel" "columns" "I") (by decide +kernel)) (fun _ h9 => h9) rfl dX10_steps_14 ?_
            refine xt_i (y := nI M) (hM) ?_
            refine xn_ge (tgt := 165) hx hb dX10_steps_17 (by decide) (by omega) (by omega) (fun c_17_1 => ?_) (fun c_17_1 => ?_)
            · skip
              refine lv_iinc (v := nI (n + 1)) (lv' := [(1, .int (nI (n + 1))), (0, .ref (h 0)), (2, .int (nI k))]) hx hb dX10_steps_165 hl (k := 1) rfl (nI_1 _) (by decide) rfl (fun ls hl => ?_)
              refine lv_goto (tgt := 2) hx hb dX10_steps_168 (by decide) ?_
              exact ih_2 (n + 1) (by omega) (by first | assumption | omega) (by first | (intro a b h1 h2 h3 h4; omega) | exact (fun a b h1 h2 h3 h4 => hz12 a b h1 h2 h3 (by omega))) _ _ _ hP hD hS (lv_sub hl [1, 0] rfl)
            · skip
              refine lv_aload_n hx hb dX10_steps_20 rfl (lv_at hl 0 rfl) ?_
              refine lv_iload_n hx hb dX10_steps_21 rfl (lv_at hl 2 rfl) ?_
              refine lv_iload_n hx hb dX10_steps_22 rfl (lv_at hl 2 rfl) ?_
              refine xj_i (wc := (rW h cs I L A Q)) (wr := ([] : va_W)) hP hD hS hA [0, 1, 2, 3, 4, 5, 6, 7, 8, 9, 10, 11, 12, 13, 14, 15, 16] [] rfl rfl (by decide +kernel) (by decide +kernel) (va_runV (As := [.int (nI k), .int (nI k)]) (rest := []) ⟨hx, hb, hml, hown, hts⟩ (k_X10_dot l dC dI h cs H.size I L A Q k k (by first | assumption | omega) (by first | assumption | omega)) (cwV 2 hts gX10_steps_X10_dot rfl rfl rfl (by decide +kernel) ⟨Nat.le_of_ble_eq_true rfl, Nat.le_of_ble_eq_true rfl⟩) (xpV (wc := (rW h cs I L A Q)) hP hD hK hN [0, 1, 2, 3, 4, 5, 6, 7, 8, 9, 10, 11, 12, 13, 14, 15, 16] rfl (by decide) 0 (ci := 10) rfl rfl _) rfl rfl hl.1 rfl (lv_room (Nat.le_of_ble_eq_true rfl)) dX10_steps_23 ⟨Nat.zero_le _, Nat.zero_le _⟩) (fun r_4 u_3 H locs hw hP hD hS => ?_)
              obtain ⟨hf_5, rfl⟩ := hw
              have hP : va_P (dC, dI) vwCl (rW h cs I L A Q) H := hP
              have hD : va_D A0 (rW h cs I L A Q) := hD
              obtain rfl := hf_5
              refine lv_istore_n (lv' := [(3, .int (dotF (A 17) k k)), (0, .ref (h 0)), (1, .int (nI n)), (2, .int (nI k))]) hx hb dX10_steps_26 rfl hl (by decide) rfl (fun ls hl => ?_)
              refine lv_iload_n hx hb dX10_steps_27 rfl (lv_at hl 2 rfl) ?_
              refine lv_iload_n hx hb dX10_steps_28 rfl (lv_at hl 3 rfl) ?_
              refine xn_eq (tgt := 36) hx hb dX10_steps_29 (by decide) (by omega) (by omega) (fun c_29_5 => ?_) (fun c_29_5 => ?_)
              · skip
                refine lv_iconst (v := nI 0) hx hb dX10_steps_36 (by decide) ?_
                refine lv_goto (tgt := 50) hx hb dX10_steps_37 (by decide) ?_
                refine lv_istore (lv' := [(4, .int (nI 0)), (3, .int (dotF (A 17) k k)), (0, .ref (h 0)), (1, .int (nI n)), (2, .int (nI k))]) hx hb dX10_steps_50 hl (by decide) rfl (fun ls hl => ?_)
                refine lv_iload hx hb dX10_steps_52 (lv_at hl 0 rfl) ?_
                refine lv_iload hx hb dX10_steps_54 (lv_at hl 0 rfl) ?_
                refine lv_iload_n hx hb dX10_steps_56 rfl (lv_at hl 1 rfl) ?_
                refine lv_imul hx hb dX10_steps_57 ?_
                refine lv_iconst (v := nI 2) hx hb dX10_steps_58 (by decide) ?_
                refine lv_aload_n hx hb dX10_steps_59 rfl (lv_at hl 2 rfl) ?_
                refine lv_iload_n hx hb dX10_steps_60 rfl (lv_at hl 3 rfl) ?_
                refine lv_iload_n hx hb dX10_steps_61 rfl (lv_at hl 4 rfl) ?_
                refine xj_i (wc := (rW h cs I L A Q)) (wr := ([] : va_W)) hP hD hS hA [0, 1, 2, 3, 4, 5, 6, 7, 8, 9, 10, 11, 12, 13, 14, 15, 16] [] rfl rfl (by decide +kernel) (by decide +kernel) (va_runV (As := [.int (nI n), .int (nI k)]) (rest := [.int (nI 2), .int ((nI 0) * (dotF (A 17) k k)), .int (nI 0)]) ⟨hx, hb, hml, hown, hts⟩ (k_X10_dot l dC dI h cs H.size I L A Q n k (by first | assumption | omega) (by first | assumption | omega)) (cwV 2 hts gX10_steps_X10_dot rfl rfl rfl (by decide +kernel) ⟨Nat.le_of_ble_eq_true rfl, Nat.le_of_ble_eq_true rfl⟩) (xpV (wc := (rW h cs I L A Q)) hP hD hK hN [0, 1, 2, 3, 4, 5, 6, 7, 8, 9, 10, 11, 12, 13, 14, 15, 16] rfl (by decide) 0 (ci := 10) rfl rfl _) rfl rfl hl.1 rfl (lv_room (Nat.le_of_ble_eq_true rfl)) dX10_steps_62 ⟨Nat.zero_le _, Nat.zero_le _⟩) (fun r_8 u_7 H locs hw hP hD hS => ?_)
                obtain ⟨hf_9, rfl⟩ := hw
                have hP : va_P (dC, dI) vwCl (rW h cs I L A Q) H := hP
                have hD : va_D A0 (rW h cs I L A Q) := hD
                obtain rfl := hf_9
                refine lv_imul hx hb dX10_steps_65 ?_
                refine lv_isub hx hb dX10_steps_66 ?_
                refine lv_imul hx hb dX10_steps_67 ?_
                refine lv_if_ge (tgt := 159) hx hb dX10_steps_68 (by decide) (fun c_68_9 => ?_) (fun c_68_9 => ?_)
                · skip
                  have hpos9 := c_68_9
                  refine lv_iinc (v := nI (k + 1)) (lv' := [(2, .int (nI (k + 1))), (4, .int (nI 0)), (3, .int (dotF (A 17) k k)), (0, .ref (h 0)), (1, .int (nI n))]) hx hb dX10_steps_159 hl (k := 4) rfl (nI_1 _) (by decide) rfl (fun ls hl => ?_)
                  refine lv_goto (tgt := 12) hx hb dX10_steps_162 (by decide) ?_
                  exact ih_12 (k + 1) (by omega) (by first | assumption | omega) (by first | exact hz2 | (intro a b h1 h2 h3 h4; by_cases e : a = n ∧ b = k; (· obtain ⟨rfl, rfl⟩ := e; first | exact absurd (by assumption) h3 | exact qF_z (by assumption) | (rw [qF_nw (hsh _ (by omega)) (by assumption), ← hqe]; exact st_no (hsh _ (by omega)) (hsh _ (by omega)) (by assumption) hqe (Int32.not_lt.mpr hpos9))); (· exact hz12 a b h1 h2 h3 (by omega)))) _ _ _ hP hD hS (lv_sub hl [3, 4, 0] rfl)
                · skip
                  have hneg := Int32.not_le.mp c_68_9
                  exact absurd (by rw [z_mul]; decide) c_68_9
              · skip
                refine lv_iload_n hx hb dX10_steps_32 rfl (lv_at hl 0 rfl) ?_
                refine lv_if_ne (tgt := 40) hx hb dX10_steps_33 (by decide) (fun c_33_10 => ?_) (fun c_33_10 => ?_)
                · skip
                  refine lv_aload_n hx hb dX10_steps_40 rfl (lv_at hl 1 rfl) ?_
                  refine lv_iload_n hx hb dX10_steps_41 rfl (lv_at hl 2 rfl) ?_
                  refine lv_iload_n hx hb dX10_steps_42 rfl (lv_at hl 3 rfl) ?_
                  refine xj_i (wc := (rW h cs I L A Q)) (wr := ([] : va_W)) hP hD hS hA [0, 1, 2, 3, 4, 5, 6, 7, 8, 9, 10, 11, 12, 13, 14, 15, 16] [] rfl rfl (by decide +kernel) (by decide +kernel) (va_runV (As := [.int (nI n), .int (nI k)]) (rest := []) ⟨hx, hb, hml, hown, hts⟩ (k_X10_dot l dC dI h cs H.size I L A Q n k (by first | assumption | omega) (by first | assumption | omega)) (cwV 2 hts gX10_steps_X10_dot rfl rfl rfl (by decide +kernel) ⟨Nat.le_of_ble_eq_true rfl, Nat.le_of_ble_eq_true rfl⟩) (xpV (wc := (rW h cs I L A Q)) hP hD hK hN [0, 1, 2, 3, 4, 5, 6, 7, 8, 9, 10, 11, 12, 13, 14, 15, 16] rfl (by decide) 0 (ci := 10) rfl rfl _) rfl rfl hl.1 rfl (lv_room (Nat.le_of_ble_eq_true rfl)) dX10_steps_43 ⟨Nat.zero_le _, Nat.zero_le _⟩) (fun r_13 u_12 H locs hw hP hD hS => ?_)
                  obtain ⟨hf_14, rfl⟩ := hw
                  have hP : va_P (dC, dI) vwCl (rW h cs I L A Q) H := hP
                  have hD : va_D A0 (rW h cs I L A Q) := hD
                  obtain rfl := hf_14
                  refine lv_iload_n hx hb dX10_steps_46 rfl (lv_at hl 0 rfl) ?_
                  refine xj_i (wc := ([] : va_W)) (wr := (rW h cs I L A Q)) hP hD hS hA [] [0, 1, 2, 3, 4, 5, 6, 7, 8, 9, 10, 11, 12, 13, 14, 15, 16] rfl rfl (by decide +kernel) (by decide +kernel) (va_runS (As := [.int (dotF (A 17) n k), .int (dotF (A 17) k k)]) (rest := []) ⟨hx, hb, hml, hown, hts⟩ (k_X10_nearestWhole l dC dI h cs H.size I L A Q (dotF (A 17) n k) (dotF (A 17) k k) (two_low (by rw [dot_int (hsh _ (by omega)) (hsh _ (by omega))]; exact dt_le (hsh _ (by omega)) (hsh _ (by omega))) (by assumption))) (va_cwS 2 hts gX10_steps_X10_nearestWhole rfl rfl rfl (by decide +kernel) ⟨Nat.le_of_ble_eq_true rfl, Nat.le_of_ble_eq_true rfl⟩) (xpS (wc := ([] : va_W)) hP hD hK hN [] rfl (by decide) _) rfl rfl hl.1 rfl (lv_room (Nat.le_of_ble_eq_true rfl)) dX10_steps_47 ⟨Nat.zero_le _, Nat.zero_le _⟩) (fun r_16 u_15 H locs hw hP hD hS => ?_)
                  obtain ⟨hf_17, rfl⟩ := hw
                  have hP : va_P (dC, dI) vwCl (rW h cs I L A Q) H := hP
                  have hD : va_D A0 (rW h cs I L A Q) := hD
                  have hqe : r_16 = nwF (dotF (A 17) n k) (dotF (A 17) k k) := hf_17
                  have hq9 : (r_16).toInt.natAbs ≤ 1300 := by rw [hf_17]; exact nw_bd (by rw [dot_int (hsh _ (by omega)) (hsh _ (by omega))]; exact dt_le (hsh _ (by omega)) (hsh _ (by omega))) (by rw [dot_int (hsh _ (by omega)) (hsh _ (by omega))]; exact dt_le (hsh _ (by omega)) (hsh _ (by omega)))
                  refine lv_istore (lv' := [(4, .int r_16), (3, .int (dotF (A 17) k k)), (0, .ref (h 0)), (1, .int (nI n)), (2, .int (nI k))]) hx hb dX10_steps_50 hl (by decide) rfl (fun ls hl => ?_)
                  refine lv_iload hx hb dX10_steps_52 (lv_at hl 0 rfl) ?_
                  refine lv_iload hx hb dX10_steps_54 (lv_at hl 0 rfl) ?_
                  refine lv_iload_n hx hb dX10_steps_56 rfl (lv_at hl 1 rfl) ?_
                  refine lv_imul hx hb dX10_steps_57 ?_
                  refine lv_iconst (v := nI 2) hx hb dX10_steps_58 (by decide) ?_
                  refine lv_aload_n hx hb dX10_steps_59 rfl (lv_at hl 2 rfl) ?_
                  refine lv_iload_n hx hb dX10_steps_60 rfl (lv_at hl 3 rfl) ?_
                  refine lv_iload_n hx hb dX10_steps_61 rfl (lv_at hl 4 rfl) ?_
                  refine xj_i (wc := (rW h cs I L A Q)) (wr := ([] : va_W)) hP hD hS hA [0, 1, 2, 3, 4, 5, 6, 7, 8, 9, 10, 11, 12, 13, 14, 15, 16] [] rfl rfl (by decide +kernel) (by decide +kernel) (va_runV (As := [.int (nI n), .int (nI k)]) (rest := [.int (nI 2), .int (r_16 * (dotF (A 17) k k)), .int r_16]) ⟨hx, hb, hml, hown, hts⟩ (k_X10_dot l dC dI h cs H.size I L A Q n k (by first | assumption | omega) (by first | assumption | omega)) (cwV 2 hts gX10_steps_X10_dot rfl rfl rfl (by decide +kernel) ⟨Nat.le_of_ble_eq_true rfl, Nat.le_of_ble_eq_true rfl⟩) (xpV (wc := (rW h cs I L A Q)) hP hD hK hN [0, 1, 2, 3, 4, 5, 6, 7, 8, 9, 10, 11, 12, 13, 14, 15, 16] rfl (by decide) 0 (ci := 10) rfl rfl _) rfl rfl hl.1 rfl (lv_room (Nat.le_of_ble_eq_true rfl)) dX10_steps_62 ⟨Nat.zero_le _, Nat.zero_le _⟩) (fun r_19 u_18 H locs hw hP hD hS => ?_)
                  obtain ⟨hf_20, rfl⟩ := hw
                  have hP : va_P (dC, dI) vwCl (rW h cs I L A Q) H := hP
                  have hD : va_D A0 (rW h cs I L A Q) := hD
                  obtain rfl := hf_20
                  refine lv_imul hx hb dX10_steps_65 ?_
                  refine lv_isub hx hb dX10_steps_66 ?_
                  refine lv_imul hx hb dX10_steps_67 ?_
                  refine lv_if_ge (tgt := 159) hx hb dX10_steps_68 (by decide) (fun c_68_20 => ?_) (fun c_68_20 => ?_)
                  · skip
                    have hpos9 := c_68_20
                    refine lv_iinc (v := nI (k + 1)) (lv' := [(2, .int (nI (k + 1))), (4, .int r_16), (3, .int (dotF (A 17) k k)), (0, .ref (h 0)), (1, .int (nI n))]) hx hb dX10_steps_159 hl (k := 4) rfl (nI_1 _) (by decide) rfl (fun ls hl => ?_)
                    refine lv_goto (tgt := 12) hx hb dX10_steps_162 (by decide) ?_
                    exact ih_12 (k + 1) (by omega) (by first | assumption | omega) (by first | exact hz2 | (intro a b h1 h2 h3 h4; by_cases e : a = n ∧ b = k; (· obtain ⟨rfl, rfl⟩ := e; first | exact absurd (by assumption) h3 | exact qF_z (by assumption) | (rw [qF_nw (hsh _ (by omega)) (by assumption), ← hqe]; exact st_no (hsh _ (by omega)) (hsh _ (by omega)) (by assumption) hqe (Int32.not_lt.mpr hpos9))); (· exact hz12 a b h1 h2 h3 (by omega)))) _ _ _ hP hD hS (lv_sub hl [3, 4, 0] rfl)
                  · skip
                    have hneg := Int32.not_le.mp c_68_20
                    refine lv_iconst (v := nI 0) hx hb dX10_steps_71 (by decide) ?_
                    refine lv_istore (lv' := [(5, .int (nI 0)), (4, .int r_16), (3, .int (dotF (A 17) k k)), (0, .ref (h 0)), (1, .int (nI n)), (2, .int (nI k))]) hx hb dX10_steps_72 hl (by decide) rfl (fun ls hl => ?_)
                    have cut_74 : ∀ (nf : Nat) (t : Nat) (g : Nat → Int32), (5 - t) < nf → (t ≤ 5) → (∀ u : Nat, u < t → g (5 * n + u) = A 17 (5 * n + u) - r_16 * A 17 (5 * k + u)) → (∀ p : Nat, ¬ (5 * n ≤ p ∧ p < 5 * n + t) → g p = A 17 p) → ∀ (H : Heap) (locs : List Loc) (ls : Array Slot), va_P (dC, dI) vwCl (rW h cs I L (va_up A 17 g) Q) H → va_D A0 (rW h cs I L (va_up A 17 g) Q) → va_S A0 s.heap H locs → lv_has ls 6 [(0, .ref (h 0)), (1, .int (nI n)), (2, .int (nI k)), (3, .int (dotF (A 17) k k)), (4, .int r_16), (5, .int (nI t))] → W p l e (headSpec wsX10_steps ({ frames := 1, cells := 0, slots := 0, locals := 24 })).room s m ([.ref (h 0)] : List Value).toArray below meth c H locs 0 0 (MQ below (va_Qi (fun (r : Int32) (u : RS) => ∃ a17 : Nat → Int32, ∃ a18 : Nat → Int32, ((r = nI 0 ∧ a17 = A 17 ∧ a18 = A 18 ∧ NoSt 5 M (fC (A 17))) ∨ (r = nI 1 ∧ short a17 ∧ SI a17 < SI (A 17) ∧ ∃ i j : Nat, Fst 5 M (fC (A 17)) i j ∧ (∀ r c : Nat, r < 5 → c < 4 → fC a17 r c = shC (fC (A 17)) (qF (fC (A 17)) 5 i j) i j r c) ∧ ∀ k c : Nat, k < 4 → c < 4 → fT a18 k c = shC (fT (A 18)) (qF (fC (A 17)) 5 i j) i j k c)) ∧ u = (I, L, (va_up (va_up A 17 a17) 18 a18), Q)) (xB (dC, dI) (tysA cs) A0 (fun u : RS => rW h cs u.1 u.2.1 u.2.2.1 u.2.2.2)) A0) ([.ref (h 0)] : List Value).toArray s 0 0 A0) (F0 m 74 ls []) := by
                      intro nf
                      induction nf with
                      | zero => intro t g hm; exact absurd hm (Nat.not_lt_zero _)
                      | succ nf ih_74 =>
                        intro t g hm_74 ht74 hg74 ho74 H locs ls hP hD hS hl
                        refine lv_iload hx hb dX10_steps_74 (lv_at hl 5 rfl) ?_
                        refine lv_iconst (v := nI 5) hx hb dX10_steps_76 (by decide) ?_
                        refine xn_ge (tgt := 114) hx hb dX10_steps_77 (by decide) (by omega) (by omega) (fun c_77_21 => ?_) (fun c_77_21 => ?_)
                        · skip
                          refine lv_iconst (v := nI 0) hx hb dX10_steps_114 (by decide) ?_
                          refine lv_istore (lv' := [(5, .int (nI 0)), (0, .ref (h 0)), (1, .int (nI n)), (2, .int (nI k)), (3, .int (dotF (A 17) k k)), (4, .int r_16)]) hx hb dX10_steps_115 hl (by decide) rfl (fun ls hl => ?_)
                          have cut_117 : ∀ (nf : Nat) (t8 : Nat) (g8 : Nat → Int32), (4 - t8) < nf → (t8 ≤ 4) → (∀ u : Nat, u < t8 → g8 (4 * u + n) = A 18 (4 * u + n) - r_16 * A 18 (4 * u + k)) → (∀ p : Nat, ¬ (p % 4 = n ∧ p < 4 * t8) → g8 p = A 18 p) → ∀ (H : Heap) (locs : List Loc) (ls : Array Slot), va_P (dC, dI) vwCl (rW h cs I L (va_up (va_up A 17 g) 18 g8) Q) H → va_D A0 (rW h cs I L (va_up (va_up A 17 g) 18 g8) Q) → va_S A0 s.heap H locs → lv_has ls 6 [(0, .ref (h 0)), (1, .int (nI n)), (2, .int (nI k)), (3, .int (dotF (A 17) k k)), (4, .int r_16), (5, .int (nI t8))] → W p l e (headSpec wsX10_steps ({ frames := 1, cells := 0, slots := 0, locals := 24 })).room s m ([.ref (h 0)] : List Value).toArray below meth c H locs 0 0 (MQ below (va_Qi (fun (r : Int32) (u : RS) => ∃ a17 : Nat → Int32, ∃ a18 : Nat → Int32, ((r = nI 0 ∧ a17 = A 17 ∧ a18 = A 18 ∧ NoSt 5 M (fC (A 17))) ∨ (r = nI 1 ∧ short a17 ∧ SI a17 < SI (A 17) ∧ ∃ i j : Nat, Fst 5 M (fC (A 17)) i j ∧ (∀ r c : Nat, r < 5 → c < 4 → fC a17 r c = shC (fC (A 17)) (qF (fC (A 17)) 5 i j) i j r c) ∧ ∀ k c : Nat, k < 4 → c < 4 → fT a18 k c = shC (fT (A 18)) (qF (fC (A 17)) 5 i j) i j k c)) ∧ u = (I, L, (va_up (va_up A 17 a17) 18 a18), Q)) (xB (dC, dI) (tysA cs) A0 (fun u : RS => rW h cs u.1 u.2.1 u.2.2.1 u.2.2.2)) A0) ([.ref (h 0)] : List Value).toArray s 0 0 A0) (F0 m 117 ls []) := by
                            intro nf
                            induction nf with
                            | zero => intro t8 g8 hm; exact absurd hm (Nat.not_lt_zero _)
                            | succ nf ih_117 =>
                              intro t8 g8 hm_117 ht117 hg117 ho117 H locs ls hP hD hS hl
                              refine lv_iload hx hb dX10_steps_117 (lv_at hl 5 rfl) ?_
                              refine lv_iconst (v := nI 4) hx hb dX10_steps_119 (by decide) ?_
                              refine xn_ge (tgt := 157) hx hb dX10_steps_120 (by decide) (by omega) (by omega) (fun c_120_22 => ?_) (fun c_120_22 => ?_)
                              · skip
                                refine lv_iconst (v := nI 1) hx hb dX10_steps_157 (by decide) ?_
                                exact xr_z (v := (nI 1)) hx hb hr hlocks hK hS dX10_steps_158 (rfl) (I, L, (va_up (va_up A 17 g) 18 g8), Q) ⟨g, g8, (Or.inr ⟨rfl, (step_sq (i := n) (j := k) (by omega) (by omega) hsh hq9 hneg (fun u hu => hg74 u (by omega)) (fun p hp hne => ho74 p (by omega))).1, (step_sq (i := n) (j := k) (by omega) (by omega) hsh hq9 hneg (fun u hu => hg74 u (by omega)) (fun p hp hne => ho74 p (by omega))).2, n, k, ⟨by omega, by omega, by assumption, by rw [qF_nw (hsh _ (by omega)) (by assumption), ← hqe]; exact st_ne hneg, hz12⟩, by
            rw [qF_nw (hsh _ (by omega)) (by assumption), ← hqe]
            exact ⟨sh_17 (fun u hu => hg74 u (by omega)) (fun p hp => ho74 p (by omega)), sh_18 (fun u hu => hg117 u (by omega)) (fun p hp => ho117 p (by omega))⟩⟩), rfl⟩ hP hD
                              · skip
                                refine lv_aload_n hx hb dX10_steps_123 rfl (lv_at hl 0 rfl) ?_
                                refine va_get (D := (dC, dI)) (ci := 10) (v := .ref (h 18)) (C := RX10) (T := TX10) (N := 28) hx hb hts hinX10 hown hK hP 0 rfl rfl 18 (by decide) (hts (.fieldLink RX10 44 "MixedWordsModel" "trans" "[I") (by decide +kernel)) (fun _ h9 => h9) rfl dX10_steps_124 ?_
                                refine lv_iconst (v := nI 4) hx hb dX10_steps_127 (by decide) ?_
                                refine lv_iload hx hb dX10_steps_128 (lv_at hl 5 rfl) ?_
                                refine lv_imul hx hb dX10_steps_130 ?_
                                refine xt_i (y := nI (4 * t8)) (pk_mul _ _) ?_
                                refine lv_iload_n hx hb dX10_steps_131 rfl (lv_at hl 1 rfl) ?_
                                refine lv_iadd hx hb dX10_steps_132 ?_
                                refine xt_i (y := nI ((4 * t8) + n)) (nI_add _ _) ?_
                                refine lv_dup2_11 hx hb dX10_steps_133 rfl rfl ?_
                                refine xa_iald hx hb hK hP 9 0 rfl rfl (by omega) (by decide) dX10_steps_134 ?_
                                refine lv_iload hx hb dX10_steps_135 (lv_at hl 4 rfl) ?_
                                refine lv_aload_n hx hb dX10_steps_137 rfl (lv_at hl 0 rfl) ?_
                                refine va_get (D := (dC, dI)) (ci := 10) (v := .ref (h 18)) (C := RX10) (T := TX10) (N := 28) hx hb hts hinX10 hown hK hP 0 rfl rfl 18 (by decide) (hts (.fieldLink RX10 44 "MixedWordsModel" "trans" "[I") (by decide +kernel)) (fun _ h9 => h9) rfl dX10_steps_138 ?_
                                refine lv_iconst (v := nI 4) hx hb dX10_steps_141 (by decide) ?_
                                refine lv_iload hx hb dX10_steps_142 (lv_at hl 5 rfl) ?_
                                refine lv_imul hx hb dX10_steps_144 ?_
                                refine xt_i (y := nI (4 * t8)) (pk_mul _ _) ?_
                                refine lv_iload_n hx hb dX10_steps_145 rfl (lv_at hl 2 rfl) ?_
                                refine lv_iadd hx hb dX10_steps_146 ?_
                                refine xt_i (y := nI ((4 * t8) + k)) (nI_add _ _) ?_
                                refine xa_iald hx hb hK hP 9 0 rfl rfl (by omega) (by decide) dX10_steps_147 ?_
                                refine lv_imul hx hb dX10_steps_148 ?_
                                refine lv_isub hx hb dX10_steps_149 ?_
                                refine xa_iast hx hb hK hP hD hS 9 0 rfl rfl (by omega) (by decide) dX10_steps_150 (fun H locs hP hD hS => ?_)
                                have hP : va_P (dC, dI) vwCl (rW h cs I L (va_up (va_up A 17 g) 18 (upd g8 ((4 * t8) + n) ((g8 ((4 * t8) + n)) - (r_16 * (g8 ((4 * t8) + k)))))) Q) H := hP
                                have hD : va_D A0 (rW h cs I L (va_up (va_up A 17 g) 18 (upd g8 ((4 * t8) + n) ((g8 ((4 * t8) + n)) - (r_16 * (g8 ((4 * t8) + k)))))) Q) := hD
                                refine lv_iinc (v := nI (t8 + 1)) (lv' := [(5, .int (nI (t8 + 1))), (0, .ref (h 0)), (1, .int (nI n)), (2, .int (nI k)), (3, .int (dotF (A 17) k k)), (4, .int r_16)]) hx hb dX10_steps_151 hl (k := 5) rfl (nI_1 _) (by decide) rfl (fun ls hl => ?_)
                                refine lv_goto (tgt := 117) hx hb dX10_steps_154 (by decide) ?_
                                exact ih_117 (t8 + 1) (upd g8 ((4 * t8) + n) ((g8 ((4 * t8) + n)) - (r_16 * (g8 ((4 * t8) + k))))) (by omega) (by first | assumption | omega) (by first | exact (fun u hu => absurd hu (Nat.not_lt_zero u)) | exact (st_t (by omega) (by omega) (by assumption) hg117 ho117).1) (by first | exact (fun _ _ => rfl) | exact (st_t (by omega) (by omega) (by assumption) hg117 ho117).2) _ _ _ hP hD hS (lv_sub hl [1, 2, 3, 4, 5, 0] rfl)
                          exact cut_117 _ 0 (A 18) (Nat.lt_succ_self _) (by first | assumption | omega) (by first | exact (fun u hu => absurd hu (Nat.not_lt_zero u)) | exact (st_t (by omega) (by omega) (by assumption) hg117 ho117).1) (by first | exact (fun _ _ => rfl) | exact (st_t (by omega) (by omega) (by assumption) hg117 ho117).2) _ _ _ hP hD hS (lv_sub hl [1, 2, 3, 4, 5, 0] rfl)
                        · skip
                          refine lv_aload_n hx hb dX10_steps_80 rfl (lv_at hl 0 rfl) ?_
                          refine va_get (D := (dC, dI)) (ci := 10) (v := .ref (h 17)) (C := RX10) (T := TX10) (N := 28) hx hb hts hinX10 hown hK hP 0 rfl rfl 17 (by decide) (hts (.fieldLink RX10 41 "MixedWordsModel" "cols" "[I") (by decide +kernel)) (fun _ h9 => h9) rfl dX10_steps_81 ?_
                          refine lv_iconst (v := nI 5) hx hb dX10_steps_84 (by decide) ?_
                          refine lv_iload_n hx hb dX10_steps_85 rfl (lv_at hl 1 rfl) ?_
                          refine lv_imul hx hb dX10_steps_86 ?_
                          refine xt_i (y := nI (5 * n)) (pk_mul _ _) ?_
                          refine lv_iload hx hb dX10_steps_87 (lv_at hl 5 rfl) ?_
                          refine lv_iadd hx hb dX10_steps_89 ?_
                          refine xt_i (y := nI ((5 * n) + t)) (nI_add _ _) ?_
                          refine lv_dup2_11 hx hb dX10_steps_90 rfl rfl ?_
                          refine xa_iald hx hb hK hP 8 0 rfl rfl (by omega) (by decide) dX10_steps_91 ?_
                          refine lv_iload hx hb dX10_steps_92 (lv_at hl 4 rfl) ?_
                          refine lv_aload_n hx hb dX10_steps_94 rfl (lv_at hl 0 rfl) ?_
                          refine va_get (D := (dC, dI)) (ci := 10) (v := .ref (h 17)) (C := RX10) (T := TX10) (N := 28) hx hb hts hinX10 hown hK hP 0 rfl rfl 17 (by decide) (hts (.fieldLink RX10 41 "MixedWordsModel" "cols" "[I") (by decide +kernel)) (fun _ h9 => h9) rfl dX10_steps_95 ?_
                          refine lv_iconst (v := nI 5) hx hb dX10_steps_98 (by decide) ?_
                          refine lv_iload_n hx hb dX10_steps_99 rfl (lv_at hl 2 rfl) ?_
                          refine lv_imul hx hb dX10_steps_100 ?_
                          refine xt_i (y := nI (5 * k)) (pk_mul _ _) ?_
                          refine lv_iload hx hb dX10_steps_101 (lv_at hl 5 rfl) ?_
                          refine lv_iadd hx hb dX10_steps_103 ?_
                          refine xt_i (y := nI ((5 * k) + t)) (nI_add _ _) ?_
                          refine xa_iald hx hb hK hP 8 0 rfl rfl (by omega) (by decide) dX10_steps_104 ?_
                          refine lv_imul hx hb dX10_steps_105 ?_
                          refine lv_isub hx hb dX10_steps_106 ?_
                          refine xa_iast hx hb hK hP hD hS 8 0 rfl rfl (by omega) (by decide) dX10_steps_107 (fun H locs hP hD hS => ?_)
                          have hP : va_P (dC, dI) vwCl (rW h cs I L (va_up A 17 (upd g ((5 * n) + t) ((g ((5 * n) + t)) - (r_16 * (g ((5 * k) + t)))))) Q) H := hP
                          have hD : va_D A0 (rW h cs I L (va_up A 17 (upd g ((5 * n) + t) ((g ((5 * n) + t)) - (r_16 * (g ((5 * k) + t)))))) Q) := hD
                          refine lv_iinc (v := nI (t + 1)) (lv' := [(5, .int (nI (t + 1))), (0, .ref (h 0)), (1, .int (nI n)), (2, .int (nI k)), (3, .int (dotF (A 17) k k)), (4, .int r_16)]) hx hb dX10_steps_108 hl (k := 5) rfl (nI_1 _) (by decide) rfl (fun ls hl => ?_)
                          refine lv_goto (tgt := 74) hx hb dX10_steps_111 (by decide) ?_
                          exact ih_74 (t + 1) (upd g ((5 * n) + t) ((g ((5 * n) + t)) - (r_16 * (g ((5 * k) + t))))) (by omega) (by first | assumption | omega) (by first | exact (fun u hu => absurd hu (Nat.not_lt_zero u)) | exact (st_g (by assumption) (by omega) hg74 ho74).1) (by first | exact (fun _ _ => rfl) | exact (st_g (by assumption) (by omega) hg74 ho74).2) _ _ _ hP hD hS (lv_sub hl [1, 2, 3, 4, 5, 0] rfl)
                    exact cut_74 _ 0 (A 17) (Nat.lt_succ_self _) (by first | assumption | omega) (by first | exact (fun u hu => absurd hu (Nat.not_lt_zero u)) | exact (st_g (by assumption) (by omega) hg74 ho74).1) (by first | exact (fun _ _ => rfl) | exact (st_g (by assumption) (by omega) hg74 ho74).2) _ _ _ hP hD hS (lv_sub hl [3, 4, 5, 2, 1, 0] rfl)
                · skip
                  refine lv_iconst (v := nI 0) hx hb dX10_steps_36 (by decide) ?_
                  refine lv_goto (tgt := 50) hx hb dX10_steps_37 (by decide) ?_
                  refine lv_istore (lv' := [(4, .int (nI 0)), (3, .int (dotF (A 17) k k)), (0, .ref (h 0)), (1, .int (nI n)), (2, .int (nI k))]) hx hb dX10_steps_50 hl (by decide) rfl (fun ls hl => ?_)
                  refine lv_iload hx hb dX10_steps_52 (lv_at hl 0 rfl) ?_
                  refine lv_iload hx hb dX10_steps_54 (lv_at hl 0 rfl) ?_
                  refine lv_iload_n hx hb dX10_steps_56 rfl (lv_at hl 1 rfl) ?_
                  refine lv_imul hx hb dX10_steps_57 ?_
                  refine lv_iconst (v := nI 2) hx hb dX10_steps_58 (by decide) ?_
                  refine lv_aload_n hx hb dX10_steps_59 rfl (lv_at hl 2 rfl) ?_
                  refine lv_iload_n hx hb dX10_steps_60 rfl (lv_at hl 3 rfl) ?_
                  refine lv_iload_n hx hb dX10_steps_61 rfl (lv_at hl 4 rfl) ?_
                  refine xj_i (wc := (rW h cs I L A Q)) (wr := ([] : va_W)) hP hD hS hA [0, 1, 2, 3, 4, 5, 6, 7, 8, 9, 10, 11, 12, 13, 14, 15, 16] [] rfl rfl (by decide +kernel) (by decide +kernel) (va_runV (As := [.int (nI n), .int (nI k)]) (rest := [.int (nI 2), .int ((nI 0) * (dotF (A 17) k k)), .int (nI 0)]) ⟨hx, hb, hml, hown, hts⟩ (k_X10_dot l dC dI h cs H.size I L A Q n k (by first | assumption | omega) (by first | assumption | omega)) (cwV 2 hts gX10_steps_X10_dot rfl rfl rfl (by decide +kernel) ⟨Nat.le_of_ble_eq_true rfl, Nat.le_of_ble_eq_true rfl⟩) (xpV (wc := (rW h cs I L A Q)) hP hD hK hN [0, 1, 2, 3, 4, 5, 6, 7, 8, 9, 10, 11, 12, 13, 14, 15, 16] rfl (by decide) 0 (ci := 10) rfl rfl _) rfl rfl hl.1 rfl (lv_room (Nat.le_of_ble_eq_true rfl)) dX10_steps_62 ⟨Nat.zero_le _, Nat.zero_le _⟩) (fun r_25 u_24 H locs hw hP hD hS => ?_)
                  obtain ⟨hf_26, rfl⟩ := hw
                  have hP : va_P (dC, dI) vwCl (rW h cs I L A Q) H := hP
                  have hD : va_D A0 (rW h cs I L A Q) := hD
                  obtain rfl := hf_26
                  refine lv_imul hx hb dX10_steps_65 ?_
                  refine lv_isub hx hb dX10_steps_66 ?_
                  refine lv_imul hx hb dX10_steps_67 ?_
                  refine lv_if_ge (tgt := 159) hx hb dX10_steps_68 (by decide) (fun c_68_26 => ?_) (fun c_68_26 => ?_)
                  · skip
                    have hpos9 := c_68_26
                    refine lv_iinc (v := nI (k + 1)) (lv' := [(2, .int (nI (k + 1))), (4, .int (nI 0)), (3, .int (dotF (A 17) k k)), (0, .ref (h 0)), (1, .int (nI n))]) hx hb dX10_steps_159 hl (k := 4) rfl (nI_1 _) (by decide) rfl (fun ls hl => ?_)
                    refine lv_goto (tgt := 12) hx hb dX10_steps_162 (by decide) ?_
                    exact ih_12 (k + 1) (by omega) (by first | assumption | omega) (by first | exact hz2 | (intro a b h1 h2 h3 h4; by_cases e : a = n ∧ b = k; (· obtain ⟨rfl, rfl⟩ := e; first | exact absurd (by assumption) h3 | exact qF_z (by assumption) | (rw [qF_nw (hsh _ (by omega)) (by assumption), ← hqe]; exact st_no (hsh _ (by omega)) (hsh _ (by omega)) (by assumption) hqe (Int32.not_lt.mpr hpos9))); (· exact hz12 a b h1 h2 h3 (by omega)))) _ _ _ hP hD hS (lv_sub hl [3, 4, 0] rfl)
                  · skip
                    have hneg := Int32.not_le.mp c_68_26
                    exact absurd (by rw [z_mul]; decide) c_68_26
        exact cut_12 _ 0 (Nat.lt_succ_self _) (by first | assumption | omega) (by first | exact hz2 | (intro a b h1 h2 h3 h4; by_cases e : a = n ∧ b = k; (· obtain ⟨rfl, rfl⟩ := e; first | exact absurd (by assumption) h3 | exact qF_z (by assumption) | (rw [qF_nw (hsh _ (by omega)) (by assumption), ← hqe]; exact st_no (hsh _ (by omega)) (hsh _ (by omega)) (by assumption) hqe (Int32.not_lt.mpr hpos9))); (· exact hz12 a b h1 h2 h3 (by omega)))) _ _ _ hP hD hS (lv_sub hl [1, 2, 0] rfl)
  exact cut_2 _ 0 (Nat.lt_succ_self _) (by first | assumption | omega) (by first | (intro a b h1 h2 h3 h4; omega) | exact (fun a b h1 h2 h3 h4 => hz12 a b h1 h2 h3 (by omega))) _ _ _ hP hD hS (lv_sub hl [1, 0] rfl)
set_option maxRecDepth 20000 in
theorem ggX10_lead_X10_lay : GoodIn wsX10_lead wsX10_lay := goodIn_r _ [5, 6, 7, 8, 9, 10, 22, 23, 24, 25, 26, 27, 28, 29, 30, 31, 32, 33, 34, 35, 36, 37, 38, 39, 40, 41, 42, 43, 44, 45, 46, 47, 48, 49] rfl (by decide +kernel)
set_option maxRecDepth 20000 in
theorem gX10_lead_X10_lay : GoodIn wsX10_lead (wsV RX10 172 RX10 yX10_lay wsX10_lay) := goodIn_app (goodIn_of _ (by decide +kernel)) ggX10_lead_X10_lay
set_option maxRecDepth 20000 in
theorem ggX10_lead_X10_steps : GoodIn wsX10_lead wsX10_steps := goodIn_r _ [14, 7, 6, 10, 15, 16, 17, 4, 18, 19, 20, 21, 22, 23, 24, 25, 26, 27, 28, 29, 30, 31, 32, 33, 34, 35, 36, 37, 38, 39, 40, 41, 42, 43, 44, 45, 46, 47, 48, 49] rfl (by decide +kernel)
set_option maxRecDepth 20000 in
theorem gX10_lead_X10_steps : GoodIn wsX10_lead (wsV RX10 225 RX10 yX10_steps wsX10_steps) := goodIn_app (goodIn_of _ (by decide +kernel)) ggX10_lead_X10_steps
theorem bdX10_lead_0 : (decode cX10_lead 0 = .ok (.aload_n 0, 1)) ∧ (decode cX10_lead 1 = .ok (.invokevirtual 172, 3)) ∧ (decode cX10_lead 4 = .ok (.iconst 0, 1)) ∧ (decode cX10_lead 5 = .ok (.istore_n 1, 1)) ∧ (decode cX10_lead 6 = .ok (.aload_n 0, 1)) ∧ (decode cX10_lead 7 = .ok (.invokevirtual 225, 3)) ∧ (decode cX10_lead 10 = .ok (.ifCond .eq 9, 3)) ∧ (decode cX10_lead 13 = .ok (.iinc 1 1, 3)) ∧ (decode cX10_lead 16 = .ok (.goto (-10), 3)) ∧ (decode cX10_lead 19 = .ok (.iload_n 1, 1)) ∧ (decode cX10_lead 20 = .ok (.ireturn, 1)) := by decide +kernel
theorem dX10_lead_0 : decode cX10_lead 0 = .ok (.aload_n 0, 1) := bdX10_lead_0.1
theorem dX10_lead_1 : decode cX10_lead 1 = .ok (.invokevirtual 172, 3) := bdX10_lead_0.2.1
theorem dX10_lead_4 : decode cX10_lead 4 = .ok (.iconst 0, 1) := bdX10_lead_0.2.2.1
theorem dX10_lead_5 : decode cX10_lead 5 = .ok (.istore_n 1, 1) := bdX10_lead_0.2.2.2.1
theorem dX10_lead_6 : decode cX10_lead 6 = .ok (.aload_n 0, 1) := bdX10_lead_0.2.2.2.2.1
theorem dX10_lead_7 : decode cX10_lead 7 = .ok (.invokevirtual 225, 3) := bdX10_lead_0.2.2.2.2.2.1
theorem dX10_lead_10 : decode cX10_lead 10 = .ok (.ifCond .eq 9, 3) := bdX10_lead_0.2.2.2.2.2.2.1
theorem dX10_lead_13 : decode cX10_lead 13 = .ok (.iinc 1 1, 3) := bdX10_lead_0.2.2.2.2.2.2.2.1
theorem dX10_lead_16 : decode cX10_lead 16 = .ok (.goto (-10), 3) := bdX10_lead_0.2.2.2.2.2.2.2.2.1
theorem dX10_lead_19 : decode cX10_lead 19 = .ok (.iload_n 1, 1) := bdX10_lead_0.2.2.2.2.2.2.2.2.2.1
theorem dX10_lead_20 : decode cX10_lead 20 = .ok (.ireturn, 1) := bdX10_lead_0.2.2.2.2.2.2.2.2.2.2
set_option maxHeartbeats 4000000 in
set_option maxRecDepth 100000 in
theorem k_X10_lead (l : Launch) (dC : Nat → ClassId) (dI : Nat → Nat → Nat) (h : Nat → Nat) (cs : Nat → ClassId) (sz : Nat) (I : Nat → Int32) (L : Nat → Int64) (A : Nat → Nat → Int32) (Q : Nat → Nat → Int64) (R M : Nat) (hR : I 0 = nI R) (hR1 : 1 ≤ R) (hR5 : R ≤ 5) (hM : I 1 = nI M) (hM1 : 1 ≤ M) (hM4 : M ≤ 4) (htb : tb9 (A 3) R M) : Met l yX10_lead wsX10_lead ({ frames := 2, cells := 0, slots := 0, locals := 49 }) (va_Pc [.ref (h 0)] (xPre (dC, dI) (rW h cs I L A Q) (tysA cs) sz)) (va_Qi (fun (r : Int32) (u : RS) => ∃ a17 : Nat → Int32, ∃ a18 : Nat → Int32, (∃ n : Nat, r = nI n ∧ n ≤ 1620 ∧ Ln 5 M (fun r c => colF (A 3) R M c r) n (fC a17) (fT a18) ∧ NoSt 5 M (fC a17) ∧ short a17) ∧ u = (I, L, (va_up (va_up A 17 a17) 18 a18), Q)) (xB (dC, dI) (tysA cs) (va_A (rW h cs I L A Q) sz) (fun u : RS => rW h cs u.1 u.2.1 u.2.2.1 u.2.2.2)) (va_A (rW h cs I L A Q) sz)) 0 0 (va_A (rW h cs I L A Q) sz) := by
  refine Met.ofW (cc := cX10_lead) (maxL := 2) (ret := (some .int)) (by decide) rfl ?_
  intro p e s m args below meth c s₁ B hml hv
  obtain ⟨rfl, hsz, hP, hK, hD0, hN⟩ := hv
  have hx := B.exec
  have hb := B.bytes
  have hr := B.returns
  have hts := atoms_spec (ws := wsX10_lead) B.pre
  have hown : s.vm.findClass RX10 = some m.cls := findClass_of_methodNamed B.named
  have hlocks := B.notSynchronized
  subst hsz
  have hD := hD0.self (sz := s.heap.size)
  generalize hAe : va_A (rW h cs I L A Q) s.heap.size = A0 at hD ⊢
  have hA : ∀ q : Nat, s.heap.size ≤ q → A0 q := fun q h => by rw [← hAe]; exact Or.inr h
  have hl := lv_entry ([.ref (h 0)]) (n := 2) (Nat.le_of_ble_eq_true rfl)
  rw [lg_entry_eq]
  generalize (lg_sl ([.ref (h 0)]) ++ List.replicate (2 - (lg_sl ([.ref (h 0)])).length) Slot.unset).toArray = ls at hl ⊢
  have hl : lv_has ls 2 [(0, .ref (h 0))] := hl
  generalize hH : s.heap = H at hP ⊢
  have hS : va_S A0 s.heap H [] := by rw [← hH]; exact va_S.rf
  refine lv_aload_n hx hb dX10_lead_0 rfl (lv_at hl 0 rfl) ?_
  refine xj_v (wc := (rW h cs I L A Q)) (wr := ([] : va_W)) hP hD hS hA [0, 1, 2, 3, 4, 5, 6, 7, 8, 9, 10, 11, 12, 13, 14, 15, 16] [] rfl rfl (by decide +kernel) (by decide +kernel) (va_runV (As := []) (rest := []) ⟨hx, hb, hml, hown, hts⟩ (k_X10_lay l dC dI h cs H.size I L A Q R M hR (by first | assumption | omega | exact hR1) (by first | assumption | omega | exact hR5) hM (by first | assumption | omega | exact hM1) (by first | assumption | omega | exact hM4)) (cwV 0 hts gX10_lead_X10_lay rfl rfl rfl (by decide +kernel) ⟨Nat.le_of_ble_eq_true rfl, Nat.le_of_ble_eq_true rfl⟩) (xpV (wc := (rW h cs I L A Q)) hP hD hK hN [0, 1, 2, 3, 4, 5, 6, 7, 8, 9, 10, 11, 12, 13, 14, 15, 16] rfl (by decide) 0 (ci := 10) rfl rfl _) rfl rfl hl.1 rfl (lv_room (Nat.le_of_ble_eq_true rfl)) dX10_lead_1 ⟨Nat.zero_le _, Nat.zero_le _⟩) (fun u_1 H locs hw hP hD hS => ?_)
  obtain ⟨f17_3, f18_4, hf_5, rfl⟩ := hw
  have hP : va_P (dC, dI) vwCl (rW h cs I L (va_up (va_up A 17 f17_3) 18 f18_4) Q) H := hP
  have hD : va_D A0 (rW h cs I L (va_up (va_up A 17 f17_3) 18 f18_4) Q) := hD
  have hs0 := laid_short hf_5 htb
  have hL0 := laid_ln hM4 hf_5
  have hSI := SI_le hs0
  have hSn := SI_nn f17_3
  refine lv_iconst (v := nI 0) hx hb dX10_lead_4 (by decide) ?_
  refine lv_istore_n (lv' := [(1, .int (nI 0)), (0, .ref (h 0))]) hx hb dX10_lead_5 rfl hl (by decide) rfl (fun ls hl => ?_)
  have cut_6 : ∀ (nf : Nat) (n6 : Nat) (g17 : Nat → Int32) (g18 : Nat → Int32), ((SI g17).toNat) < nf → (short g17) → (Ln 5 M (fun r c => colF (A 3) R M c r) n6 (fC g17) (fT g18)) → ((SI g17).toNat + n6 ≤ 1620) → ∀ (H : Heap) (locs : List Loc) (ls : Array Slot), va_P (dC, dI) vwCl (rW h cs I L (va_up (va_up A 17 g17) 18 g18) Q) H → va_D A0 (rW h cs I L (va_up (va_up A 17 g17) 18 g18) Q) → va_S A0 s.heap H locs → lv_has ls 2 [(0, .ref (h 0)), (1, .int (nI n6))] → W p l e (headSpec wsX10_lead ({ frames := 2, cells := 0, slots := 0, locals := 49 })).room s m ([.ref (h 0)] : List Value).toArray below meth c H locs 0 0 (MQ below (va_Qi (fun (r : Int32) (u : RS) => ∃ a17 : Nat → Int32, ∃ a18 : Nat → Int32, (∃ n : Nat, r = nI n ∧ n ≤ 1620 ∧ Ln 5 M (fun r c => colF (A 3) R M c r) n (fC a17) (fT a18) ∧ NoSt 5 M (fC a17) ∧ short a17) ∧ u = (I, L, (va_up (va_up A 17 a17) 18 a18), Q)) (xB (dC, dI) (tysA cs) A0 (fun u : RS => rW h cs u.1 u.2.1 u.2.2.1 u.2.2.2)) A0) ([.ref (h 0)] : List Value).toArray s 0 0 A0) (F0 m 6 ls []) := by
    intro nf
    induction nf with
    | zero => intro n6 g17 g18 hm; exact absurd hm (Nat.not_lt_zero _)
    | succ nf ih_6 =>
      intro n6 g17 g18 hm_6 hs6 hL6 hb6 H locs ls hP hD hS hl
      refine lv_aload_n hx hb dX10_lead_6 rfl (lv_at hl 0 rfl) ?_
      refine xj_i (wc := (rW h cs I L (va_up (va_up A 17 g17) 18 g18) Q)) (wr := ([] : va_W)) hP hD hS hA [0, 1, 2, 3, 4, 5, 6, 7, 8, 9, 10, 11, 12, 13, 14, 15, 16] [] rfl rfl (by decide +kernel) (by decide +kernel) (va_runV (As := []) (rest := []) ⟨hx, hb, hml, hown, hts⟩ (k_X10_steps l dC dI h cs H.size I L (va_up (va_up A 17 g17) 18 g18) Q M hM (by first | assumption | omega | exact hM1) (by first | assumption | omega | exact hM4) hs6) (cwV 0 hts gX10_lead_X10_steps rfl rfl rfl (by decide +kernel) ⟨Nat.le_of_ble_eq_true rfl, Nat.le_of_ble_eq_true rfl⟩) (xpV (wc := (rW h cs I L (va_up (va_up A 17 g17) 18 g18) Q)) hP hD hK hN [0, 1, 2, 3, 4, 5, 6, 7, 8, 9, 10, 11, 12, 13, 14, 15, 16] rfl (by decide) 0 (ci := 10) rfl rfl _) rfl rfl hl.1 rfl (lv_room (Nat.le_of_ble_eq_true rfl)) dX10_lead_7 ⟨Nat.zero_le _, Nat.zero_le _⟩) (fun r_7 u_6 H locs hw hP hD hS => ?_)
      obtain ⟨a17_8, a18_9, hf_10, rfl⟩ := hw
      have hP : va_P (dC, dI) vwCl (rW h cs I L (va_up (va_up A 17 a17_8) 18 a18_9) Q) H := hP
      have hD : va_D A0 (rW h cs I L (va_up (va_up A 17 a17_8) 18 a18_9) Q) := hD
      rcases hf_10 with ⟨rfl, e17, e18, hno⟩ | ⟨rfl, hsh9, hlt9, ia, ja, hfs, hs1, hs2⟩
      · skip
        have e17 : a17_8 = g17 := e17
        have e18 : a18_9 = g18 := e18
        have hE : ∃ n : Nat, nI n6 = nI n ∧ n ≤ 1620 ∧ Ln 5 M (fun r c => colF (A 3) R M c r) n (fC a17_8) (fT a18_9) ∧ NoSt 5 M (fC a17_8) ∧ short a17_8 := ⟨n6, rfl, by omega, by rw [e17, e18]; exact hL6, by rw [e17]; exact hno, by rw [e17]; exact hs6⟩
        refine lv_if_eq (tgt := 19) hx hb dX10_lead_10 (by decide) (fun _ => ?_) (fun c9 => False.elim (by revert c9; decide +kernel))
        refine lv_iload_n hx hb dX10_lead_19 rfl (lv_at hl 1 rfl) ?_
        exact xr_i (v := (nI n6)) hx hb hr hlocks hK hS dX10_lead_20 (I, L, (va_up (va_up A 17 a17_8) 18 a18_9), Q) ⟨a17_8, a18_9, hE, rfl⟩ hP hD
      · skip
        have hlt9 : SI a17_8 < SI g17 := hlt9
        have hdec : (SI a17_8).toNat < (SI g17).toNat := by have h9 := SI_nn a17_8; omega
        have hL7 : Ln 5 M (fun r c => colF (A 3) R M c r) (n6 + 1) (fC a17_8) (fT a18_9) := ⟨_, _, ia, ja, hL6, hfs, fun r c hr hc => hs1 r c hr (by omega), fun k c hk hc => hs2 k c (by omega) (by omega)⟩
        refine lv_if_eq (tgt := 19) hx hb dX10_lead_10 (by decide) (fun c9 => False.elim (by revert c9; decide +kernel)) (fun _ => ?_)
        refine lv_iinc (v := nI (n6 + 1)) (lv' := [(1, .int (nI (n6 + 1))), (0, .ref (h 0))]) hx hb dX10_lead_13 hl (k := 1) rfl (nI_1 _) (by decide) rfl (fun ls hl => ?_)
        refine lv_goto (tgt := 6) hx hb dX10_lead_16 (by decide) ?_
        exact ih_6 (n6 + 1) a17_8 a18_9 (by omega) (by first | exact hs0 | exact hsh9) (by first | exact hL0 | exact hL7) (by omega) _ _ _ hP hD hS (lv_sub hl [1, 0] rfl)
  exact cut_6 _ 0 f17_3 f18_4 (Nat.lt_succ_self _) (by first | exact hs0 | exact hsh9) (by first | exact hL0 | exact hL7) (by omega) _ _ _ hP hD hS (lv_sub hl [1, 0] rfl)
set_option maxRecDepth 20000 in
theorem ggX10_led_X10_lead : GoodIn wsX10_led wsX10_lead := goodIn_r _ [5, 6, 7, 8, 4, 9, 10, 11, 12, 13, 14, 15, 16, 17, 18, 19, 20, 21, 22, 23, 24, 25, 26, 27, 28, 29, 30, 31, 32, 33, 34, 35, 36, 37, 38, 39, 40, 41, 42, 43, 44, 45, 46, 47, 48, 49, 50, 51, 52, 53] rfl (by decide +kernel)
set_option maxRecDepth 20000 in
theorem gX10_led_X10_lead : GoodIn wsX10_led (wsV RX10 229 RX10 yX10_lead wsX10_lead) := goodIn_app (goodIn_of _ (by decide +kernel)) ggX10_led_X10_lead
theorem bdX10_led_0 : (decode cX10_led 0 = .ok (.aload_n 0, 1)) ∧ (decode cX10_led 1 = .ok (.invokevirtual 229, 3)) ∧ (decode cX10_led 4 = .ok (.ireturn, 1)) := by decide +kernel
theorem dX10_led_0 : decode cX10_led 0 = .ok (.aload_n 0, 1) := bdX10_led_0.1
theorem dX10_led_1 : decode cX10_led 1 = .ok (.invokevirtual 229, 3) := bdX10_led_0.2.1
theorem dX10_led_4 : decode cX10_led 4 = .ok (.ireturn, 1) := bdX10_led_0.2.2
set_option maxHeartbeats 4000000 in
set_option maxRecDepth 100000 in
theorem k_X10_led (l : Launch) (dC : Nat → ClassId) (dI : Nat → Nat → Nat) (h : Nat → Nat) (cs : Nat → ClassId) (sz : Nat) (I : Nat → Int32) (L : Nat → Int64) (A : Nat → Nat → Int32) (Q : Nat → Nat → Int64) (R M : Nat) (hR : I 0 = nI R) (hR1 : 1 ≤ R) (hR5 : R ≤ 5) (hM : I 1 = nI M) (hM1 : 1 ≤ M) (hM4 : M ≤ 4) (htb : tb9 (A 3) R M) : Met l yX10_led wsX10_led ({ frames := 3, cells := 0, slots := 0, locals := 70 }) (va_Pc [.ref (h 0)] (xPre (dC, dI) (rW h cs I L A Q) (tysA cs) sz)) (va_Qi (fun (r : Int32) (u : RS) => ∃ a17 : Nat → Int32, ∃ a18 : Nat → Int32, (∃ n : Nat, r = nI n ∧ n ≤ 1620 ∧ Ln 5 M (fun r c => colF (A 3) R M c r) n (fC a17) (fT a18) ∧ NoSt 5 M (fC a17) ∧ short a17) ∧ u = (I, L, (va_up (va_up A 17 a17) 18 a18), Q)) (xB (dC, dI) (tysA cs) (va_A (rW h cs I L A Q) sz) (fun u : RS => rW h cs u.1 u.2.1 u.2.2.1 u.2.2.2)) (va_A (rW h cs I L A Q) sz)) 0 0 (va_A (rW h cs I L A Q) sz) := by
  refine Met.ofW (cc := cX10_led) (maxL := 1) (ret := (some .int)) (by decide) rfl ?_
  intro p e s m args below meth c s₁ B hml hv
  obtain ⟨rfl, hsz, hP, hK, hD0, hN⟩ := hv
  have hx := B.exec
  have hb := B.bytes
  have hr := B.returns
  have hts := atoms_spec (ws := wsX10_led) B.pre
  have hown : s.vm.findClass RX10 = some m.cls := findClass_of_methodNamed B.named
  have hlocks := B.notSynchronized
  subst hsz
  have hD := hD0.self (sz := s.heap.size)
  generalize hAe : va_A (rW h cs I L A Q) s.heap.size = A0 at hD ⊢
  have hA : ∀ q : Nat, s.heap.size ≤ q → A0 q := fun q h => by rw [← hAe]; exact Or.inr h
  have hl := lv_entry ([.ref (h 0)]) (n := 1) (Nat.le_of_ble_eq_true rfl)
  rw [lg_entry_eq]
  generalize (lg_sl ([.ref (h 0)]) ++ List.replicate (1 - (lg_sl ([.ref (h 0)])).length) Slot.unset).toArray = ls at hl ⊢
  have hl : lv_has ls 1 [(0, .ref (h 0))] := hl
  generalize hH : s.heap = H at hP ⊢
  have hS : va_S A0 s.heap H [] := by rw [← hH]; exact va_S.rf
  refine lv_aload_n hx hb dX10_led_0 rfl (lv_at hl 0 rfl) ?_
  refine xj_i (wc := (rW h cs I L A Q)) (wr := ([] : va_W)) hP hD hS hA [0, 1, 2, 3, 4, 5, 6, 7, 8, 9, 10, 11, 12, 13, 14, 15, 16] [] rfl rfl (by decide +kernel) (by decide +kernel) (va_runV (As := []) (rest := []) ⟨hx, hb, hml, hown, hts⟩ (k_X10_lead l dC dI h cs H.size I L A Q R M hR (by first | assumption | omega | exact hR1) (by first | assumption | omega | exact hR5) hM (by first | assumption | omega | exact hM1) (by first | assumption | omega | exact hM4) (by first | assumption | omega | exact htb)) (cwV 0 hts gX10_led_X10_lead rfl rfl rfl (by decide +kernel) ⟨Nat.le_of_ble_eq_true rfl, Nat.le_of_ble_eq_true rfl⟩) (xpV (wc := (rW h cs I L A Q)) hP hD hK hN [0, 1, 2, 3, 4, 5, 6, 7, 8, 9, 10, 11, 12, 13, 14, 15, 16] rfl (by decide) 0 (ci := 10) rfl rfl _) rfl rfl hl.1 rfl (lv_room (Nat.le_of_ble_eq_true rfl)) dX10_led_1 ⟨Nat.zero_le _, Nat.zero_le _⟩) (fun r_2 u_1 H locs hw hP hD hS => ?_)
  obtain ⟨a17_3, a18_4, hf_5, rfl⟩ := hw
  have hP : va_P (dC, dI) vwCl (rW h cs I L (va_up (va_up A 17 a17_3) 18 a18_4) Q) H := hP
  have hD : va_D A0 (rW h cs I L (va_up (va_up A 17 a17_3) 18 a18_4) Q) := hD
  have hlf := hf_5
  have hld9 : short a17_3 := by obtain ⟨_, _, _, _, _, q9⟩ := hlf; exact q9
  exact xr_i (v := r_2) hx hb hr hlocks hK hS dX10_led_4 (I, L, (va_up (va_up A 17 a17_3) 18 a18_4), Q) ⟨a17_3, a18_4, hlf, rfl⟩ hP hD
set_option maxRecDepth 20000 in
theorem ggX10_ledAt_X10_in : GoodIn wsX10_ledAt wsX10_in := goodIn_r _ [7] rfl (by decide +kernel)
set_option maxRecDepth 20000 in
theorem gX10_ledAt_X10_in : GoodIn wsX10_ledAt (va_wsS RX10 77 yX10_in wsX10_in) := goodIn_app (goodIn_of _ (by decide +kernel)) ggX10_ledAt_X10_in
set_option maxRecDepth 20000 in
theorem ggX10_ledAt_X10_isColumn : GoodIn wsX10_ledAt wsX10_isColumn := goodIn_r _ [11, 12, 4, 5, 6, 7, 38, 39, 40, 41, 42, 43, 44, 45, 46, 47, 48, 49, 50, 51, 52, 53, 54, 55, 56, 57, 58, 59, 60, 61, 62, 63, 64, 65] rfl (by decide +kernel)
set_option maxRecDepth 20000 in
theorem gX10_ledAt_X10_isColumn : GoodIn wsX10_ledAt (wsV RX10 90 RX10 yX10_isColumn wsX10_isColumn) := goodIn_app (goodIn_of _ (by decide +kernel)) ggX10_ledAt_X10_isColumn
set_option maxRecDepth 20000 in
theorem ggX10_ledAt_X10_isRow : GoodIn wsX10_ledAt wsX10_isRow := goodIn_r _ [16, 17, 4, 5, 6, 7, 38, 39, 40, 41, 42, 43, 44, 45, 46, 47, 48, 49, 50, 51, 52, 53, 54, 55, 56, 57, 58, 59, 60, 61, 62, 63, 64, 65] rfl (by decide +kernel)
set_option maxRecDepth 20000 in
theorem gX10_ledAt_X10_isRow : GoodIn wsX10_ledAt (wsV RX10 86 RX10 yX10_isRow wsX10_isRow) := goodIn_app (goodIn_of _ (by decide +kernel)) ggX10_ledAt_X10_isRow
set_option maxRecDepth 20000 in
theorem ggX10_ledAt_X10_lead : GoodIn wsX10_ledAt wsX10_lead := goodIn_r _ [21, 22, 23, 24, 6, 25, 2, 12, 17, 26, 3, 27, 28, 29, 30, 31, 32, 33, 34, 35, 36, 37, 38, 39, 40, 41, 42, 43, 44, 45, 46, 47, 48, 49, 50, 51, 52, 53, 54, 55, 56, 57, 58, 59, 60, 61, 62, 63, 64, 65] rfl (by decide +kernel)
set_option maxRecDepth 20000 in
theorem gX10_ledAt_X10_lead : GoodIn wsX10_ledAt (wsV RX10 229 RX10 yX10_lead wsX10_lead) := goodIn_app (goodIn_of _ (by decide +kernel)) ggX10_ledAt_X10_lead
theorem bdX10_ledAt_0 : (decode cX10_ledAt 0 = .ok (.iload_n 1, 1)) ∧ (decode cX10_ledAt 1 = .ok (.i2l, 1)) ∧ (decode cX10_ledAt 2 = .ok (.lconst 0, 1)) ∧ (decode cX10_ledAt 3 = .ok (.lconst 1, 1)) ∧ (decode cX10_ledAt 4 = .ok (.invokestatic 77, 3)) ∧ (decode cX10_ledAt 7 = .ok (.ifCond .eq 38, 3)) ∧ (decode cX10_ledAt 10 = .ok (.aload_n 0, 1)) ∧ (decode cX10_ledAt 11 = .ok (.iload_n 3, 1)) ∧ (decode cX10_ledAt 12 = .ok (.invokevirtual 90, 3)) ∧ (decode cX10_ledAt 15 = .ok (.ifCond .eq 30, 3)) ∧ (decode cX10_ledAt 18 = .ok (.iload_n 1, 1)) ∧ (decode cX10_ledAt 19 = .ok (.ifCond .ne 14, 3)) ∧ (decode cX10_ledAt 22 = .ok (.aload_n 0, 1)) ∧ (decode cX10_ledAt 23 = .ok (.iload_n 2, 1)) ∧ (decode cX10_ledAt 24 = .ok (.invokevirtual 86, 3)) ∧ (decode cX10_ledAt 27 = .ok (.ifCond .eq 18, 3)) := by decide +kernel
theorem dX10_ledAt_0 : decode cX10_ledAt 0 = .ok (.iload_n 1, 1) := bdX10_ledAt_0.1
theorem dX10_ledAt_1 : decode cX10_ledAt 1 = .ok (.i2l, 1) := bdX10_ledAt_0.2.1
theorem dX10_ledAt_2 : decode cX10_ledAt 2 = .ok (.lconst 0, 1) := bdX10_ledAt_0.2.2.1
theorem dX10_ledAt_3 : decode cX10_ledAt 3 = .ok (.lconst 1, 1) := bdX10_ledAt_0.2.2.2.1
theorem dX10_ledAt_4 : decode cX10_ledAt 4 = .ok (.invokestatic 77, 3) := bdX10_ledAt_0.2.2.2.2.1
theorem dX10_ledAt_7 : decode cX10_ledAt 7 = .ok (.ifCond .eq 38, 3) := bdX10_ledAt_0.2.2.2.2.2.1
theorem dX10_ledAt_10 : decode cX10_ledAt 10 = .ok (.aload_n 0, 1) := bdX10_ledAt_0.2.2.2.2.2.2.1
theorem dX10_ledAt_11 : decode cX10_ledAt 11 = .ok (.iload_n 3, 1) := bdX10_ledAt_0.2.2.2.2.2.2.2.1
theorem dX10_ledAt_12 : decode cX10_ledAt 12 = .ok (.invokevirtual 90, 3) := bdX10_ledAt_0.2.2.2.2.2.2.2.2.1
theorem dX10_ledAt_15 : decode cX10_ledAt 15 = .ok (.ifCond .eq 30, 3) := bdX10_ledAt_0.2.2.2.2.2.2.2.2.2.1
theorem dX10_ledAt_18 : decode cX10_ledAt 18 = .ok (.iload_n 1, 1) := bdX10_ledAt_0.2.2.2.2.2.2.2.2.2.2.1
theorem dX10_ledAt_19 : decode cX10_ledAt 19 = .ok (.ifCond .ne 14, 3) := bdX10_ledAt_0.2.2.2.2.2.2.2.2.2.2.2.1
theorem dX10_ledAt_22 : decode cX10_ledAt 22 = .ok (.aload_n 0, 1) := bdX10_ledAt_0.2.2.2.2.2.2.2.2.2.2.2.2.1
theorem dX10_ledAt_23 : decode cX10_ledAt 23 = .ok (.iload_n 2, 1) := bdX10_ledAt_0.2.2.2.2.2.2.2.2.2.2.2.2.2.1
theorem dX10_ledAt_24 : decode cX10_ledAt 24 = .ok (.invokevirtual 86, 3) := bdX10_ledAt_0.2.2.2.2.2.2.2.2.2.2.2.2.2.2.1
theorem dX10_ledAt_27 : decode cX10_ledAt 27 = .ok (.ifCond .eq 18, 3) := bdX10_ledAt_0.2.2.2.2.2.2.2.2.2.2.2.2.2.2.2
theorem bdX10_ledAt_30 : (decode cX10_ledAt 30 = .ok (.goto 11, 3)) ∧ (decode cX10_ledAt 33 = .ok (.aload_n 0, 1)) ∧ (decode cX10_ledAt 34 = .ok (.iload_n 2, 1)) ∧ (decode cX10_ledAt 35 = .ok (.invokevirtual 90, 3)) ∧ (decode cX10_ledAt 38 = .ok (.ifCond .eq 7, 3)) ∧ (decode cX10_ledAt 41 = .ok (.iconst 1, 1)) ∧ (decode cX10_ledAt 42 = .ok (.goto 4, 3)) ∧ (decode cX10_ledAt 45 = .ok (.iconst 0, 1)) ∧ (decode cX10_ledAt 46 = .ok (.istore 4, 2)) ∧ (decode cX10_ledAt 48 = .ok (.iload 4, 2)) ∧ (decode cX10_ledAt 50 = .ok (.ifCond .ne 6, 3)) ∧ (decode cX10_ledAt 53 = .ok (.ldc 232, 2)) ∧ (decode cX10_ledAt 55 = .ok (.ireturn, 1)) ∧ (decode cX10_ledAt 56 = .ok (.aload_n 0, 1)) ∧ (decode cX10_ledAt 57 = .ok (.invokevirtual 229, 3)) ∧ (decode cX10_ledAt 60 = .ok (.istore 5, 2)) := by decide +kernel
theorem dX10_ledAt_30 : decode cX10_ledAt 30 = .ok (.goto 11, 3) := bdX10_ledAt_30.1
theorem dX10_ledAt_33 : decode cX10_ledAt 33 = .ok (.aload_n 0, 1) := bdX10_ledAt_30.2.1
theorem dX10_ledAt_34 : decode cX10_ledAt 34 = .ok (.iload_n 2, 1) := bdX10_ledAt_30.2.2.1
theorem dX10_ledAt_35 : decode cX10_ledAt 35 = .ok (.invokevirtual 90, 3) := bdX10_ledAt_30.2.2.2.1
theorem dX10_ledAt_38 : decode cX10_ledAt 38 = .ok (.ifCond .eq 7, 3) := bdX10_ledAt_30.2.2.2.2.1
theorem dX10_ledAt_41 : decode cX10_ledAt 41 = .ok (.iconst 1, 1) := bdX10_ledAt_30.2.2.2.2.2.1
theorem dX10_ledAt_42 : decode cX10_ledAt 42 = .ok (.goto 4, 3) := bdX10_ledAt_30.2.2.2.2.2.2.1
theorem dX10_ledAt_45 : decode cX10_ledAt 45 = .ok (.iconst 0, 1) := bdX10_ledAt_30.2.2.2.2.2.2.2.1
theorem dX10_ledAt_46 : decode cX10_ledAt 46 = .ok (.istore 4, 2) := bdX10_ledAt_30.2.2.2.2.2.2.2.2.1
theorem dX10_ledAt_48 : decode cX10_ledAt 48 = .ok (.iload 4, 2) := bdX10_ledAt_30.2.2.2.2.2.2.2.2.2.1
theorem dX10_ledAt_50 : decode cX10_ledAt 50 = .ok (.ifCond .ne 6, 3) := bdX10_ledAt_30.2.2.2.2.2.2.2.2.2.2.1
theorem dX10_ledAt_53 : decode cX10_ledAt 53 = .ok (.ldc 232, 2) := bdX10_ledAt_30.2.2.2.2.2.2.2.2.2.2.2.1
theorem dX10_ledAt_55 : decode cX10_ledAt 55 = .ok (.ireturn, 1) := bdX10_ledAt_30.2.2.2.2.2.2.2.2.2.2.2.2.1
theorem dX10_ledAt_56 : decode cX10_ledAt 56 = .ok (.aload_n 0, 1) := bdX10_ledAt_30.2.2.2.2.2.2.2.2.2.2.2.2.2.1
theorem dX10_ledAt_57 : decode cX10_ledAt 57 = .ok (.invokevirtual 229, 3) := bdX10_ledAt_30.2.2.2.2.2.2.2.2.2.2.2.2.2.2.1
theorem dX10_ledAt_60 : decode cX10_ledAt 60 = .ok (.istore 5, 2) := bdX10_ledAt_30.2.2.2.2.2.2.2.2.2.2.2.2.2.2.2
theorem bdX10_ledAt_62 : (decode cX10_ledAt 62 = .ok (.iload_n 1, 1)) ∧ (decode cX10_ledAt 63 = .ok (.ifCond .ne 16, 3)) ∧ (decode cX10_ledAt 66 = .ok (.aload_n 0, 1)) ∧ (decode cX10_ledAt 67 = .ok (.getfield 41, 3)) ∧ (decode cX10_ledAt 70 = .ok (.iconst 5, 1)) ∧ (decode cX10_ledAt 71 = .ok (.iload_n 3, 1)) ∧ (decode cX10_ledAt 72 = .ok (.imul, 1)) ∧ (decode cX10_ledAt 73 = .ok (.iload_n 2, 1)) ∧ (decode cX10_ledAt 74 = .ok (.iadd, 1)) ∧ (decode cX10_ledAt 75 = .ok (.iaload, 1)) ∧ (decode cX10_ledAt 76 = .ok (.goto 13, 3)) ∧ (decode cX10_ledAt 79 = .ok (.aload_n 0, 1)) ∧ (decode cX10_ledAt 80 = .ok (.getfield 44, 3)) ∧ (decode cX10_ledAt 83 = .ok (.iconst 4, 1)) ∧ (decode cX10_ledAt 84 = .ok (.iload_n 2, 1)) ∧ (decode cX10_ledAt 85 = .ok (.imul, 1)) := by decide +kernel
theorem dX10_ledAt_62 : decode cX10_ledAt 62 = .ok (.iload_n 1, 1) := bdX10_ledAt_62.1
theorem dX10_ledAt_63 : decode cX10_ledAt 63 = .ok (.ifCond .ne 16, 3) := bdX10_ledAt_62.2.1
theorem dX10_ledAt_66 : decode cX10_ledAt 66 = .ok (.aload_n 0, 1) := bdX10_ledAt_62.2.2.1
theorem dX10_ledAt_67 : decode cX10_ledAt 67 = .ok (.getfield 41, 3) := bdX10_ledAt_62.2.2.2.1
theorem dX10_ledAt_70 : decode cX10_ledAt 70 = .ok (.iconst 5, 1) := bdX10_ledAt_62.2.2.2.2.1
theorem dX10_ledAt_71 : decode cX10_ledAt 71 = .ok (.iload_n 3, 1) := bdX10_ledAt_62.2.2.2.2.2.1
theorem dX10_ledAt_72 : decode cX10_ledAt 72 = .ok (.imul, 1) := bdX10_ledAt_62.2.2.2.2.2.2.1
theorem dX10_ledAt_73 : decode cX10_ledAt 73 = .ok (.iload_n 2, 1) := bdX10_ledAt_62.2.2.2.2.2.2.2.1
theorem dX10_ledAt_74 : decode cX10_ledAt 74 = .ok (.iadd, 1) := bdX10_ledAt_62.2.2.2.2.2.2.2.2.1
theorem dX10_ledAt_75 : decode cX10_ledAt 75 = .ok (.iaload, 1) := bdX10_ledAt_62.2.2.2.2.2.2.2.2.2.1
theorem dX10_ledAt_76 : decode cX10_ledAt 76 = .ok (.goto 13, 3) := bdX10_ledAt_62.2.2.2.2.2.2.2.2.2.2.1
theorem dX10_ledAt_79 : decode cX10_ledAt 79 = .ok (.aload_n 0, 1) := bdX10_ledAt_62.2.2.2.2.2.2.2.2.2.2.2.1
theorem dX10_ledAt_80 : decode cX10_ledAt 80 = .ok (.getfield 44, 3) := bdX10_ledAt_62.2.2.2.2.2.2.2.2.2.2.2.2.1
theorem dX10_ledAt_83 : decode cX10_ledAt 83 = .ok (.iconst 4, 1) := bdX10_ledAt_62.2.2.2.2.2.2.2.2.2.2.2.2.2.1
theorem dX10_ledAt_84 : decode cX10_ledAt 84 = .ok (.iload_n 2, 1) := bdX10_ledAt_62.2.2.2.2.2.2.2.2.2.2.2.2.2.2.1
theorem dX10_ledAt_85 : decode cX10_ledAt 85 = .ok (.imul, 1) := bdX10_ledAt_62.2.2.2.2.2.2.2.2.2.2.2.2.2.2.2
theorem bdX10_ledAt_86 : (decode cX10_ledAt 86 = .ok (.iload_n 3, 1)) ∧ (decode cX10_ledAt 87 = .ok (.iadd, 1)) ∧ (decode cX10_ledAt 88 = .ok (.iaload, 1)) ∧ (decode cX10_ledAt 89 = .ok (.ireturn, 1)) := by decide +kernel
theorem dX10_ledAt_86 : decode cX10_ledAt 86 = .ok (.iload_n 3, 1) := bdX10_ledAt_86.1
theorem dX10_ledAt_87 : decode cX10_ledAt 87 = .ok (.iadd, 1) := bdX10_ledAt_86.2.1
theorem dX10_ledAt_88 : decode cX10_ledAt 88 = .ok (.iaload, 1) := bdX10_ledAt_86.2.2.1
theorem dX10_ledAt_89 : decode cX10_ledAt 89 = .ok (.ireturn, 1) := bdX10_ledAt_86.2.2.2
set_option maxHeartbeats 4000000 in
set_option maxRecDepth 100000 in
theorem k_X10_ledAt (l : Launch) (dC : Nat → ClassId) (dI : Nat → Nat → Nat) (h : Nat → Nat) (cs : Nat → ClassId) (sz : Nat) (I : Nat → Int32) (L : Nat → Int64) (A : Nat → Nat → Int32) (Q : Nat → Nat → Int64) (x y z : Int32) (R M : Nat) (hR : I 0 = nI R) (hR1 : 1 ≤ R) (hR5 : R ≤ 5) (hM : I 1 = nI M) (hM1 : 1 ≤ M) (hM4 : M ≤ 4) (htb : tb9 (A 3) R M) : Met l yX10_ledAt wsX10_ledAt ({ frames := 3, cells := 0, slots := 0, locals := 70 }) (va_Pc [.ref (h 0), .int x, .int y, .int z] (xPre (dC, dI) (rW h cs I L A Q) (tysA cs) sz)) (va_Qi (fun (r : Int32) (u : RS) => ∃ a17 : Nat → Int32, ∃ a18 : Nat → Int32, ((∃ i j : Nat, i < M ∧ z = nI i ∧ y = nI j ∧ ((x = nI 0 ∧ j < R ∧ r = a17 (5 * i + j)) ∨ (x = nI 1 ∧ j < M ∧ r = a18 (4 * j + i))) ∧ (∃ n : Nat, n ≤ 1620 ∧ Ln 5 M (fun r c => colF (A 3) R M c r) n (fC a17) (fT a18) ∧ NoSt 5 M (fC a17))) ∨ (r = -1000001 ∧ a17 = A 17 ∧ a18 = A 18 ∧ ∀ i j : Nat, i < M → ((x = nI 0 ∧ j < R ∧ y = nI j ∧ z = nI i) ∨ (x = nI 1 ∧ j < M ∧ y = nI j ∧ z = nI i)) → False)) ∧ u = (I, L, (va_up (va_up A 17 a17) 18 a18), Q)) (xB (dC, dI) (tysA cs) (va_A (rW h cs I L A Q) sz) (fun u : RS => rW h cs u.1 u.2.1 u.2.2.1 u.2.2.2)) (va_A (rW h cs I L A Q) sz)) 0 0 (va_A (rW h cs I L A Q) sz) := by
  refine Met.ofW (cc := cX10_ledAt) (maxL := 6) (ret := (some .int)) (by decide) rfl ?_
  intro p e s m args below meth c s₁ B hml hv
  obtain ⟨rfl, hsz, hP, hK, hD0, hN⟩ := hv
  have hx := B.exec
  have hb := B.bytes
  have hr := B.returns
  have hts := atoms_spec (ws := wsX10_ledAt) B.pre
  have hown : s.vm.findClass RX10 = some m.cls := findClass_of_methodNamed B.named
  have hlocks := B.notSynchronized
  subst hsz
  have hD := hD0.self (sz := s.heap.size)
  generalize hAe : va_A (rW h cs I L A Q) s.heap.size = A0 at hD ⊢
  have hA : ∀ q : Nat, s.heap.size ≤ q → A0 q := fun q h => by rw [← hAe]; exact Or.inr h
  have hl := lv_entry ([.ref (h 0), .int x, .int y, .int z]) (n := 6) (Nat.le_of_ble_eq_true rfl)
  rw [lg_entry_eq]
  generalize (lg_sl ([.ref (h 0), .int x, .int y, .int z]) ++ List.replicate (6 - (lg_sl ([.ref (h 0), .int x, .int y, .int z])).length) Slot.unset).toArray = ls at hl ⊢
  have hl : lv_has ls 6 [(0, .ref (h 0)), (1, .int x), (2, .int y), (3, .int z)] := hl
  generalize hH : s.heap = H at hP ⊢
  have hS : va_S A0 s.heap H [] := by rw [← hH]; exact va_S.rf
  have hinX10 : ∀ w ∈ wsX100, w ∈ wsX10_ledAt := by decide +kernel
  refine lv_iload_n hx hb dX10_ledAt_0 rfl (lv_at hl 1 rfl) ?_
  refine lv_i2l (v := x.toInt64) hx hb dX10_ledAt_1 rfl ?_
  refine lv_lconst (v := 0) hx hb dX10_ledAt_2 rfl ?_
  refine lv_lconst (v := 1) hx hb dX10_ledAt_3 rfl ?_
  refine xj_i (wc := ([] : va_W)) (wr := (rW h cs I L A Q)) hP hD hS hA [] [0, 1, 2, 3, 4, 5, 6, 7, 8, 9, 10, 11, 12, 13, 14, 15, 16] rfl rfl (by decide +kernel) (by decide +kernel) (va_runS (As := [.long x.toInt64, .long (0 : Int64), .long (1 : Int64)]) (rest := []) ⟨hx, hb, hml, hown, hts⟩ (k_X10_in l dC dI h cs H.size I L A Q x.toInt64 (0 : Int64) (1 : Int64)) (va_cwS 3 hts gX10_ledAt_X10_in rfl rfl rfl (by decide +kernel) ⟨Nat.le_of_ble_eq_true rfl, Nat.le_of_ble_eq_true rfl⟩) (xpS (wc := ([] : va_W)) hP hD hK hN [] rfl (by decide) _) rfl rfl hl.1 rfl (lv_room (Nat.le_of_ble_eq_true rfl)) dX10_ledAt_4 ⟨Nat.zero_le _, Nat.zero_le _⟩) (fun r_2 u_1 H locs hw hP hD hS => ?_)
  obtain ⟨hf_3, rfl⟩ := hw
  have hP : va_P (dC, dI) vwCl (rW h cs I L A Q) H := hP
  have hD : va_D A0 (rW h cs I L A Q) := hD
  rcases in_N (a := 0) (b := 1) (rfl) (rfl) hf_3 with ⟨rfl, i_4, ha_5, hb_6, hx_7⟩ | ⟨rfl, hn_8⟩
  · skip
    rw [hx_7] at hl
    refine lv_if_eq (tgt := 45) hx hb dX10_ledAt_7 (by decide) (fun c9 => False.elim (by revert c9; decide +kernel)) (fun _ => ?_)
    refine lv_aload_n hx hb dX10_ledAt_10 rfl (lv_at hl 0 rfl) ?_
    refine lv_iload_n hx hb dX10_ledAt_11 rfl (lv_at hl 3 rfl) ?_
    refine xj_i (wc := (rW h cs I L A Q)) (wr := ([] : va_W)) hP hD hS hA [0, 1, 2, 3, 4, 5, 6, 7, 8, 9, 10, 11, 12, 13, 14, 15, 16] [] rfl rfl (by decide +kernel) (by decide +kernel) (va_runV (As := [.int z]) (rest := []) ⟨hx, hb, hml, hown, hts⟩ (k_X10_isColumn l dC dI h cs H.size I L A Q z M hM (by first | assumption | omega | exact hM1) (by first | assumption | omega | exact hM4)) (cwV 1 hts gX10_ledAt_X10_isColumn rfl rfl rfl (by decide +kernel) ⟨Nat.le_of_ble_eq_true rfl, Nat.le_of_ble_eq_true rfl⟩) (xpV (wc := (rW h cs I L A Q)) hP hD hK hN [0, 1, 2, 3, 4, 5, 6, 7, 8, 9, 10, 11, 12, 13, 14, 15, 16] rfl (by decide) 0 (ci := 10) rfl rfl _) rfl rfl hl.1 rfl (lv_room (Nat.le_of_ble_eq_true rfl)) dX10_ledAt_12 ⟨Nat.zero_le _, Nat.zero_le _⟩) (fun r_10 u_9 H locs hw hP hD hS => ?_)
    obtain ⟨hf_11, rfl⟩ := hw
    have hP : va_P (dC, dI) vwCl (rW h cs I L A Q) H := hP
    have hD : va_D A0 (rW h cs I L A Q) := hD
    rcases hf_11 with ⟨rfl, i_12, hi_13, hx_14⟩ | ⟨rfl, hn_15⟩
    · skip
      rw [hx_14] at hl
      refine lv_if_eq (tgt := 45) hx hb dX10_ledAt_15 (by decide) (fun c9 => False.elim (by revert c9; decide +kernel)) (fun _ => ?_)
      refine lv_iload_n hx hb dX10_ledAt_18 rfl (lv_at hl 1 rfl) ?_
      refine xz_ne (tgt := 33) hx hb dX10_ledAt_19 (by decide) (by omega) (fun c_19_15 => ?_) (fun c_19_15 => ?_)
      · skip
        refine lv_aload_n hx hb dX10_ledAt_33 rfl (lv_at hl 0 rfl) ?_
        refine lv_iload_n hx hb dX10_ledAt_34 rfl (lv_at hl 2 rfl) ?_
        refine xj_i (wc := (rW h cs I L A Q)) (wr := ([] : va_W)) hP hD hS hA [0, 1, 2, 3, 4, 5, 6, 7, 8, 9, 10, 11, 12, 13, 14, 15, 16] [] rfl rfl (by decide +kernel) (by decide +kernel) (va_runV (As := [.int y]) (rest := []) ⟨hx, hb, hml, hown, hts⟩ (k_X10_isColumn l dC dI h cs H.size I L A Q y M hM (by first | assumption | omega | exact hM1) (by first | assumption | omega | exact hM4)) (cwV 1 hts gX10_ledAt_X10_isColumn rfl rfl rfl (by decide +kernel) ⟨Nat.le_of_ble_eq_true rfl, Nat.le_of_ble_eq_true rfl⟩) (xpV (wc := (rW h cs I L A Q)) hP hD hK hN [0, 1, 2, 3, 4, 5, 6, 7, 8, 9, 10, 11, 12, 13, 14, 15, 16] rfl (by decide) 0 (ci := 10) rfl rfl _) rfl rfl hl.1 rfl (lv_room (Nat.le_of_ble_eq_true rfl)) dX10_ledAt_35 ⟨Nat.zero_le _, Nat.zero_le _⟩) (fun r_18 u_17 H locs hw hP hD hS => ?_)
        obtain ⟨hf_19, rfl⟩ := hw
        have hP : va_P (dC, dI) vwCl (rW h cs I L A Q) H := hP
        have hD : va_D A0 (rW h cs I L A Q) := hD
        rcases hf_19 with ⟨rfl, i_20, hi_21, hx_22⟩ | ⟨rfl, hn_23⟩
        · skip
          rw [hx_22] at hl
          refine lv_if_eq (tgt := 45) hx hb dX10_ledAt_38 (by decide) (fun c9 => False.elim (by revert c9; decide +kernel)) (fun _ => ?_)
          refine lv_iconst (v := nI 1) hx hb dX10_ledAt_41 (by decide) ?_
          refine lv_goto (tgt := 46) hx hb dX10_ledAt_42 (by decide) ?_
          refine lv_istore (lv' := [(4, .int (nI 1)), (0, .ref (h 0)), (1, .int (nI i_4)), (2, .int (nI i_20)), (3, .int (nI i_12))]) hx hb dX10_ledAt_46 hl (by decide) rfl (fun ls hl => ?_)
          refine lv_iload hx hb dX10_ledAt_48 (lv_at hl 0 rfl) ?_
          refine lv_if_ne (tgt := 56) hx hb dX10_ledAt_50 (by decide) (fun _ => ?_) (fun c9 => False.elim (by revert c9; decide +kernel))
          refine lv_aload_n hx hb dX10_ledAt_56 rfl (lv_at hl 1 rfl) ?_
          refine xj_i (wc := (rW h cs I L A Q)) (wr := ([] : va_W)) hP hD hS hA [0, 1, 2, 3, 4, 5, 6, 7, 8, 9, 10, 11, 12, 13, 14, 15, 16] [] rfl rfl (by decide +kernel) (by decide +kernel) (va_runV (As := []) (rest := []) ⟨hx, hb, hml, hown, hts⟩ (k_X10_lead l dC dI h cs H.size I L A Q R M hR (by first | assumption | omega | exact hR1) (by first | assumption | omega | exact hR5) hM (by first | assumption | omega | exact hM1) (by first | assumption | omega | exact hM4) (by first | assumption | omega | exact htb)) (cwV 0 hts gX10_ledAt_X10_lead rfl rfl rfl (by decide +kernel) ⟨Nat.le_of_ble_eq_true rfl, Nat.le_of_ble_eq_true rfl⟩) (xpV (wc := (rW h cs I L A Q)) hP hD hK hN [0, 1, 2, 3, 4, 5, 6, 7, 8, 9, 10, 11, 12, 13, 14, 15, 16] rfl (by decide) 0 (ci := 10) rfl rfl _) rfl rfl hl.1 rfl (lv_room (Nat.le_of_ble_eq_true rfl)) dX10_ledAt_57 ⟨Nat.zero_le _, Nat.zero_le _⟩) (fun r_25 u_24 H locs hw hP hD hS => ?_)
          obtain ⟨a17_26, a18_27, hf_28, rfl⟩ := hw
          have hP : va_P (dC, dI) vwCl (rW h cs I L (va_up (va_up A 17 a17_26) 18 a18_27) Q) H := hP
          have hD : va_D A0 (rW h cs I L (va_up (va_up A 17 a17_26) 18 a18_27) Q) := hD
          have hlf := hf_28
          have hld9 : short a17_26 := by obtain ⟨_, _, _, _, _, q9⟩ := hlf; exact q9
          refine lv_istore (lv' := [(5, .int r_25), (4, .int (nI 1)), (0, .ref (h 0)), (1, .int (nI i_4)), (2, .int (nI i_20)), (3, .int (nI i_12))]) hx hb dX10_ledAt_60 hl (by decide) rfl (fun ls hl => ?_)
          refine lv_iload_n hx hb dX10_ledAt_62 rfl (lv_at hl 3 rfl) ?_
          refine xz_ne (tgt := 79) hx hb dX10_ledAt_63 (by decide) (by omega) (fun c_63_28 => ?_) (fun c_63_28 => ?_)
          · skip
            refine lv_aload_n hx hb dX10_ledAt_79 rfl (lv_at hl 2 rfl) ?_
            refine va_get (D := (dC, dI)) (ci := 10) (v := .ref (h 18)) (C := RX10) (T := TX10) (N := 28) hx hb hts hinX10 hown hK hP 0 rfl rfl 18 (by decide) (hts (.fieldLink RX10 44 "MixedWordsModel" "trans" "[I") (by decide +kernel)) (fun _ h9 => h9) rfl dX10_ledAt_80 ?_
            refine lv_iconst (v := nI 4) hx hb dX10_ledAt_83 (by decide) ?_
            refine lv_iload_n hx hb dX10_ledAt_84 rfl (lv_at hl 4 rfl) ?_
            refine lv_imul hx hb dX10_ledAt_85 ?_
            refine xt_i (y := nI (4 * i_20)) (pk_mul _ _) ?_
            refine lv_iload_n hx hb dX10_ledAt_86 rfl (lv_at hl 5 rfl) ?_
            refine lv_iadd hx hb dX10_ledAt_87 ?_
            refine xt_i (y := nI ((4 * i_20) + i_12)) (nI_add _ _) ?_
            refine xa_iald hx hb hK hP 9 0 rfl rfl (by omega) (by decide) dX10_ledAt_88 ?_
            exact xr_i (v := (a18_27 ((4 * i_20) + i_12))) hx hb hr hlocks hK hS dX10_ledAt_89 (I, L, (va_up (va_up A 17 a17_26) 18 a18_27), Q) ⟨a17_26, a18_27, (Or.inl ⟨i_12, i_20, hi_13, hx_14, hx_22, Or.inr ⟨by rw [hx_7, show i_4 = 1 by omega], by omega, rfl⟩, by obtain ⟨n9, -, q1, q2, q3, -⟩ := hlf; exact ⟨n9, q1, q2, q3⟩⟩), rfl⟩ hP hD
          · skip
            omega
        · skip
          refine lv_if_eq (tgt := 45) hx hb dX10_ledAt_38 (by decide) (fun _ => ?_) (fun c9 => False.elim (by revert c9; decide +kernel))
          refine lv_iconst (v := nI 0) hx hb dX10_ledAt_45 (by decide) ?_
          refine lv_istore (lv' := [(4, .int (nI 0)), (0, .ref (h 0)), (1, .int (nI i_4)), (2, .int y), (3, .int (nI i_12))]) hx hb dX10_ledAt_46 hl (by decide) rfl (fun ls hl => ?_)
          refine lv_iload hx hb dX10_ledAt_48 (lv_at hl 0 rfl) ?_
          refine lv_if_ne (tgt := 56) hx hb dX10_ledAt_50 (by decide) (fun c9 => False.elim (by revert c9; decide +kernel)) (fun _ => ?_)
          refine lv_ldc (v := (-1000001)) hx hb hown (hts (.constant RX10 232 (-1000001)) (by decide +kernel)) dX10_ledAt_53 ?_
          exact xr_i (v := (-1000001 : Int32)) hx hb hr hlocks hK hS dX10_ledAt_55 (I, L, (va_up (va_up A 17 (A 17)) 18 (A 18)), Q) ⟨(A 17), (A 18), (Or.inr ⟨rfl, rfl, rfl, fun i j hi h9 => h9.elim (fun q9 => absurd ((nI_eq (by omega) (by omega)).mp (hx_7.symm.trans q9.1)) (by omega)) (fun q9 => hn_23 j q9.2.1 q9.2.2.1)⟩), rfl⟩ hP hD
      · skip
        refine lv_aload_n hx hb dX10_ledAt_22 rfl (lv_at hl 0 rfl) ?_
        refine lv_iload_n hx hb dX10_ledAt_23 rfl (lv_at hl 2 rfl) ?_
        refine xj_i (wc := (rW h cs I L A Q)) (wr := ([] : va_W)) hP hD hS hA [0, 1, 2, 3, 4, 5, 6, 7, 8, 9, 10, 11, 12, 13, 14, 15, 16] [] rfl rfl (by decide +kernel) (by decide +kernel) (va_runV (As := [.int y]) (rest := []) ⟨hx, hb, hml, hown, hts⟩ (k_X10_isRow l dC dI h cs H.size I L A Q y R hR (by first | assumption | omega | exact hR1) (by first | assumption | omega | exact hR5)) (cwV 1 hts gX10_ledAt_X10_isRow rfl rfl rfl (by decide +kernel) ⟨Nat.le_of_ble_eq_true rfl, Nat.le_of_ble_eq_true rfl⟩) (xpV (wc := (rW h cs I L A Q)) hP hD hK hN [0, 1, 2, 3, 4, 5, 6, 7, 8, 9, 10, 11, 12, 13, 14, 15, 16] rfl (by decide) 0 (ci := 10) rfl rfl _) rfl rfl hl.1 rfl (lv_room (Nat.le_of_ble_eq_true rfl)) dX10_ledAt_24 ⟨Nat.zero_le _, Nat.zero_le _⟩) (fun r_31 u_30 H locs hw hP hD hS => ?_)
        obtain ⟨hf_32, rfl⟩ := hw
        have hP : va_P (dC, dI) vwCl (rW h cs I L A Q) H := hP
        have hD : va_D A0 (rW h cs I L A Q) := hD
        rcases hf_32 with ⟨rfl, i_33, hi_34, hx_35⟩ | ⟨rfl, hn_36⟩
        · skip
          rw [hx_35] at hl
          refine lv_if_eq (tgt := 45) hx hb dX10_ledAt_27 (by decide) (fun c9 => False.elim (by revert c9; decide +kernel)) (fun _ => ?_)
          refine lv_goto (tgt := 41) hx hb dX10_ledAt_30 (by decide) ?_
          refine lv_iconst (v := nI 1) hx hb dX10_ledAt_41 (by decide) ?_
          refine lv_goto (tgt := 46) hx hb dX10_ledAt_42 (by decide) ?_
          refine lv_istore (lv' := [(4, .int (nI 1)), (0, .ref (h 0)), (1, .int (nI i_4)), (2, .int (nI i_33)), (3, .int (nI i_12))]) hx hb dX10_ledAt_46 hl (by decide) rfl (fun ls hl => ?_)
          refine lv_iload hx hb dX10_ledAt_48 (lv_at hl 0 rfl) ?_
          refine lv_if_ne (tgt := 56) hx hb dX10_ledAt_50 (by decide) (fun _ => ?_) (fun c9 => False.elim (by revert c9; decide +kernel))
          refine lv_aload_n hx hb dX10_ledAt_56 rfl (lv_at hl 1 rfl) ?_
          refine xj_i (wc := (rW h cs I L A Q)) (wr := ([] : va_W)) hP hD hS hA [0, 1, 2, 3, 4, 5, 6, 7, 8, 9, 10, 11, 12, 13, 14, 15, 16] [] rfl rfl (by decide +kernel) (by decide +kernel) (va_runV (As := []) (rest := []) ⟨hx, hb, hml, hown, hts⟩ (k_X10_lead l dC dI h cs H.size I L A Q R M hR (by first | assumption | omega | exact hR1) (by first | assumption | omega | exact hR5) hM (by first | assumption | omega | exact hM1) (by first | assumption | omega | exact hM4) (by first | assumption | omega | exact htb)) (cwV 0 hts gX10_ledAt_X10_lead rfl rfl rfl (by decide +kernel) ⟨Nat.le_of_ble_eq_true rfl, Nat.le_of_ble_eq_true rfl⟩) (xpV (wc := (rW h cs I L A Q)) hP hD hK hN [0, 1, 2, 3, 4, 5, 6, 7, 8, 9, 10, 11, 12, 13, 14, 15, 16] rfl (by decide) 0 (ci := 10) rfl rfl _) rfl rfl hl.1 rfl (lv_room (Nat.le_of_ble_eq_true rfl)) dX10_ledAt_57 ⟨Nat.zero_le _, Nat.zero_le _⟩) (fun r_38 u_37 H locs hw hP hD hS => ?_)
          obtain ⟨a17_39, a18_40, hf_41, rfl⟩ := hw
          have hP : va_P (dC, dI) vwCl (rW h cs I L (va_up (va_up A 17 a17_39) 18 a18_40) Q) H := hP
          have hD : va_D A0 (rW h cs I L (va_up (va_up A 17 a17_39) 18 a18_40) Q) := hD
          have hlf := hf_41
          have hld9 : short a17_39 := by obtain ⟨_, _, _, _, _, q9⟩ := hlf; exact q9
          refine lv_istore (lv' := [(5, .int r_38), (4, .int (nI 1)), (0, .ref (h 0)), (1, .int (nI i_4)), (2, .int (nI i_33)), (3, .int (nI i_12))]) hx hb dX10_ledAt_60 hl (by decide) rfl (fun ls hl => ?_)
          refine lv_iload_n hx hb dX10_ledAt_62 rfl (lv_at hl 3 rfl) ?_
          refine xz_ne (tgt := 79) hx hb dX10_ledAt_63 (by decide) (by omega) (fun c_63_41 => ?_) (fun c_63_41 => ?_)
          · skip
            omega
          · skip
            refine lv_aload_n hx hb dX10_ledAt_66 rfl (lv_at hl 2 rfl) ?_
            refine va_get (D := (dC, dI)) (ci := 10) (v := .ref (h 17)) (C := RX10) (T := TX10) (N := 28) hx hb hts hinX10 hown hK hP 0 rfl rfl 17 (by decide) (hts (.fieldLink RX10 41 "MixedWordsModel" "cols" "[I") (by decide +kernel)) (fun _ h9 => h9) rfl dX10_ledAt_67 ?_
            refine lv_iconst (v := nI 5) hx hb dX10_ledAt_70 (by decide) ?_
            refine lv_iload_n hx hb dX10_ledAt_71 rfl (lv_at hl 5 rfl) ?_
            refine lv_imul hx hb dX10_ledAt_72 ?_
            refine xt_i (y := nI (5 * i_12)) (pk_mul _ _) ?_
            refine lv_iload_n hx hb dX10_ledAt_73 rfl (lv_at hl 4 rfl) ?_
            refine lv_iadd hx hb dX10_ledAt_74 ?_
            refine xt_i (y := nI ((5 * i_12) + i_33)) (nI_add _ _) ?_
            refine xa_iald hx hb hK hP 8 0 rfl rfl (by omega) (by decide) dX10_ledAt_75 ?_
            refine lv_goto (tgt := 89) hx hb dX10_ledAt_76 (by decide) ?_
            exact xr_i (v := (a17_39 ((5 * i_12) + i_33))) hx hb hr hlocks hK hS dX10_ledAt_89 (I, L, (va_up (va_up A 17 a17_39) 18 a18_40), Q) ⟨a17_39, a18_40, (Or.inl ⟨i_12, i_33, hi_13, hx_14, hx_35, Or.inl ⟨by rw [hx_7, show i_4 = 0 by omega], by omega, rfl⟩, by obtain ⟨n9, -, q1, q2, q3, -⟩ := hlf; exact ⟨n9, q1, q2, q3⟩⟩), rfl⟩ hP hD
        · skip
          refine lv_if_eq (tgt := 45) hx hb dX10_ledAt_27 (by decide) (fun _ => ?_) (fun c9 => False.elim (by revert c9; decide +kernel))
          refine lv_iconst (v := nI 0) hx hb dX10_ledAt_45 (by decide) ?_
          refine lv_istore (lv' := [(4, .int (nI 0)), (0, .ref (h 0)), (1, .int (nI i_4)), (2, .int y), (3, .int (nI i_12))]) hx hb dX10_ledAt_46 hl (by decide) rfl (fun ls hl => ?_)
          refine lv_iload hx hb dX10_ledAt_48 (lv_at hl 0 rfl) ?_
          refine lv_if_ne (tgt := 56) hx hb dX10_ledAt_50 (by decide) (fun c9 => False.elim (by revert c9; decide +kernel)) (fun _ => ?_)
          refine lv_ldc (v := (-1000001)) hx hb hown (hts (.constant RX10 232 (-1000001)) (by decide +kernel)) dX10_ledAt_53 ?_
          exact xr_i (v := (-1000001 : Int32)) hx hb hr hlocks hK hS dX10_ledAt_55 (I, L, (va_up (va_up A 17 (A 17)) 18 (A 18)), Q) ⟨(A 17), (A 18), (Or.inr ⟨rfl, rfl, rfl, fun i j hi h9 => h9.elim (fun q9 => hn_36 j q9.2.1 q9.2.2.1) (fun q9 => absurd ((nI_eq (by omega) (by omega)).mp (hx_7.symm.trans q9.1)) (by omega))⟩), rfl⟩ hP hD
    · skip
      refine lv_if_eq (tgt := 45) hx hb dX10_ledAt_15 (by decide) (fun _ => ?_) (fun c9 => False.elim (by revert c9; decide +kernel))
      refine lv_iconst (v := nI 0) hx hb dX10_ledAt_45 (by decide) ?_
      refine lv_istore (lv' := [(4, .int (nI 0)), (0, .ref (h 0)), (1, .int (nI i_4)), (2, .int y), (3, .int z)]) hx hb dX10_ledAt_46 hl (by decide) rfl (fun ls hl => ?_)
      refine lv_iload hx hb dX10_ledAt_48 (lv_at hl 0 rfl) ?_
      refine lv_if_ne (tgt := 56) hx hb dX10_ledAt_50 (by decide) (fun c9 => False.elim (by revert c9; decide +kernel)) (fun _ => ?_)
      refine lv_ldc (v := (-1000001)) hx hb hown (hts (.constant RX10 232 (-1000001)) (by decide +kernel)) dX10_ledAt_53 ?_
      exact xr_i (v := (-1000001 : Int32)) hx hb hr hlocks hK hS dX10_ledAt_55 (I, L, (va_up (va_up A 17 (A 17)) 18 (A 18)), Q) ⟨(A 17), (A 18), (Or.inr ⟨rfl, rfl, rfl, fun i j hi h9 => h9.elim (fun q9 => hn_15 i hi q9.2.2.2) (fun q9 => hn_15 i hi q9.2.2.2)⟩), rfl⟩ hP hD
  · skip
    refine lv_if_eq (tgt := 45) hx hb dX10_ledAt_7 (by decide) (fun _ => ?_) (fun c9 => False.elim (by revert c9; decide +kernel))
    refine lv_iconst (v := nI 0) hx hb dX10_ledAt_45 (by decide) ?_
    refine lv_istore (lv' := [(4, .int (nI 0)), (0, .ref (h 0)), (1, .int x), (2, .int y), (3, .int z)]) hx hb dX10_ledAt_46 hl (by decide) rfl (fun ls hl => ?_)
    refine lv_iload hx hb dX10_ledAt_48 (lv_at hl 0 rfl) ?_
    refine lv_if_ne (tgt := 56) hx hb dX10_ledAt_50 (by decide) (fun c9 => False.elim (by revert c9; decide +kernel)) (fun _ => ?_)
    refine lv_ldc (v := (-1000001)) hx hb hown (hts (.constant RX10 232 (-1000001)) (by decide +kernel)) dX10_ledAt_53 ?_
    exact xr_i (v := (-1000001 : Int32)) hx hb hr hlocks hK hS dX10_ledAt_55 (I, L, (va_up (va_up A 17 (A 17)) 18 (A 18)), Q) ⟨(A 17), (A 18), (Or.inr ⟨rfl, rfl, rfl, fun i j hi h9 => h9.elim (fun q9 => hn_8 0 (by omega) (by omega) (by omega) q9.1) (fun q9 => hn_8 1 (by omega) (by omega) (by omega) q9.1)⟩), rfl⟩ hP hD
set_option maxRecDepth 20000 in
theorem ggX10_ledWord_X10_lead : GoodIn wsX10_ledWord wsX10_lead := goodIn_r _ [16, 17, 18, 19, 15, 20, 21, 2, 1, 5, 10, 22, 23, 24, 25, 26, 27, 28, 29, 30, 31, 32, 58, 59, 60, 61, 62, 63, 64, 65, 66, 67, 68, 69, 70, 71, 72, 73, 74, 75, 76, 77, 78, 79, 80, 81, 82, 83, 84, 85] rfl (by decide +kernel)
set_option maxRecDepth 20000 in
theorem gX10_ledWord_X10_lead : GoodIn wsX10_ledWord (wsV RX10 229 RX10 yX10_lead wsX10_lead) := goodIn_app (goodIn_of _ (by decide +kernel)) ggX10_ledWord_X10_lead
set_option maxRecDepth 20000 in
theorem ggX10_ledWord_X10_whole : GoodIn wsX10_ledWord wsX10_whole := goodIn_r _ [36, 2, 58, 59, 60, 61, 62, 63, 64, 65, 66, 67, 68, 69, 70, 71, 72, 73, 74, 75, 76, 77, 78, 79, 80, 81, 82, 83, 84, 85] rfl (by decide +kernel)
set_option maxRecDepth 20000 in
theorem gX10_ledWord_X10_whole : GoodIn wsX10_ledWord (wsV RX10 182 RX10 yX10_whole wsX10_whole) := goodIn_app (goodIn_of _ (by decide +kernel)) ggX10_ledWord_X10_whole
set_option maxRecDepth 20000 in
theorem ggX10_ledWord_X10_worthOf : GoodIn wsX10_ledWord wsX10_worthOf := goodIn_r _ [40, 2, 41, 26, 27, 28, 15, 29, 21, 42, 43, 44, 45, 58, 59, 60, 61, 62, 63, 64, 65, 66, 67, 68, 69, 70, 71, 72, 73, 74, 75, 76, 77, 78, 79, 80, 81, 82, 83, 84, 85] rfl (by decide +kernel)
set_option maxRecDepth 20000 in
theorem gX10_ledWord_X10_worthOf : GoodIn wsX10_ledWord (wsV RX10 187 RX10 yX10_worthOf wsX10_worthOf) := goodIn_app (goodIn_of _ (by decide +kernel)) ggX10_ledWord_X10_worthOf
set_option maxRecDepth 20000 in
theorem ggX10_ledWord_X10_meetHeard : GoodIn wsX10_ledWord wsX10_meetHeard := goodIn_r _ [49, 3, 1, 5, 58, 59, 60, 61, 62, 63, 64, 65, 66, 67, 68, 69, 70, 71, 72, 73, 74, 75, 76, 77, 78, 79, 80, 81, 82, 83, 84, 85] rfl (by decide +kernel)
set_option maxRecDepth 20000 in
theorem gX10_ledWord_X10_meetHeard : GoodIn wsX10_ledWord (wsV RX10 197 RX10 yX10_meetHeard wsX10_meetHeard) := goodIn_app (goodIn_of _ (by decide +kernel)) ggX10_ledWord_X10_meetHeard
set_option maxRecDepth 20000 in
theorem ggX10_ledWord_X10_fractionOf : GoodIn wsX10_ledWord wsX10_fractionOf := goodIn_r _ [53, 7, 2, 21, 3, 41, 6, 33, 34, 35, 15, 36, 37, 38, 39, 40, 26, 27, 28, 29, 42, 43, 44, 45, 58, 59, 60, 61, 62, 63, 64, 65, 66, 67, 68, 69, 70, 71, 72, 73, 74, 75, 76, 77, 78, 79, 80, 81, 82, 83, 84, 85] rfl (by decide +kernel)
set_option maxRecDepth 20000 in
theorem gX10_ledWord_X10_fractionOf : GoodIn wsX10_ledWord (wsV RX10 200 RX10 yX10_fractionOf wsX10_fractionOf) := goodIn_app (goodIn_of _ (by decide +kernel)) ggX10_ledWord_X10_fractionOf
set_option maxRecDepth 20000 in
theorem ggX10_ledWord_X10_numberOf : GoodIn wsX10_ledWord wsX10_numberOf := goodIn_r _ [57, 2, 4, 58, 59, 60, 61, 62, 63, 64, 65, 66, 67, 68, 69, 70, 71, 72, 73, 74, 75, 76, 77, 78, 79, 80, 81, 82, 83, 84, 85] rfl (by decide +kernel)
set_option maxRecDepth 20000 in
theorem gX10_ledWord_X10_numberOf : GoodIn wsX10_ledWord (wsV RX10 207 RX10 yX10_numberOf wsX10_numberOf) := goodIn_app (goodIn_of _ (by decide +kernel)) ggX10_ledWord_X10_numberOf
theorem bdX10_ledWord_0 : (decode cX10_ledWord 0 = .ok (.aload_n 0, 1)) ∧ (decode cX10_ledWord 1 = .ok (.invokevirtual 229, 3)) ∧ (decode cX10_ledWord 4 = .ok (.istore_n 1, 1)) ∧ (decode cX10_ledWord 5 = .ok (.aload_n 0, 1)) ∧ (decode cX10_ledWord 6 = .ok (.aload_n 0, 1)) ∧ (decode cX10_ledWord 7 = .ok (.invokevirtual 182, 3)) ∧ (decode cX10_ledWord 10 = .ok (.invokevirtual 187, 3)) ∧ (decode cX10_ledWord 13 = .ok (.lconst 0, 1)) ∧ (decode cX10_ledWord 14 = .ok (.lcmp, 1)) ∧ (decode cX10_ledWord 15 = .ok (.ifCond .ne 6, 3)) ∧ (decode cX10_ledWord 18 = .ok (.bipush (-2), 2)) ∧ (decode cX10_ledWord 20 = .ok (.ireturn, 1)) ∧ (decode cX10_ledWord 21 = .ok (.aload_n 0, 1)) ∧ (decode cX10_ledWord 22 = .ok (.invokevirtual 197, 3)) ∧ (decode cX10_ledWord 25 = .ok (.iconst 0, 1)) ∧ (decode cX10_ledWord 26 = .ok (.istore_n 2, 1)) := by decide +kernel
theorem dX10_ledWord_0 : decode cX10_ledWord 0 = .ok (.aload_n 0, 1) := bdX10_ledWord_0.1
theorem dX10_ledWord_1 : decode cX10_ledWord 1 = .ok (.invokevirtual 229, 3) := bdX10_ledWord_0.2.1
theorem dX10_ledWord_4 : decode cX10_ledWord 4 = .ok (.istore_n 1, 1) := bdX10_ledWord_0.2.2.1
theorem dX10_ledWord_5 : decode cX10_ledWord 5 = .ok (.aload_n 0, 1) := bdX10_ledWord_0.2.2.2.1
theorem dX10_ledWord_6 : decode cX10_ledWord 6 = .ok (.aload_n 0, 1) := bdX10_ledWord_0.2.2.2.2.1
theorem dX10_ledWord_7 : decode cX10_ledWord 7 = .ok (.invokevirtual 182, 3) := bdX10_ledWord_0.2.2.2.2.2.1
theorem dX10_ledWord_10 : decode cX10_ledWord 10 = .ok (.invokevirtual 187, 3) := bdX10_ledWord_0.2.2.2.2.2.2.1
theorem dX10_ledWord_13 : decode cX10_ledWord 13 = .ok (.lconst 0, 1) := bdX10_ledWord_0.2.2.2.2.2.2.2.1
theorem dX10_ledWord_14 : decode cX10_ledWord 14 = .ok (.lcmp, 1) := bdX10_ledWord_0.2.2.2.2.2.2.2.2.1
theorem dX10_ledWord_15 : decode cX10_ledWord 15 = .ok (.ifCond .ne 6, 3) := bdX10_ledWord_0.2.2.2.2.2.2.2.2.2.1
theorem dX10_ledWord_18 : decode cX10_ledWord 18 = .ok (.bipush (-2), 2) := bdX10_ledWord_0.2.2.2.2.2.2.2.2.2.2.1
theorem dX10_ledWord_20 : decode cX10_ledWord 20 = .ok (.ireturn, 1) := bdX10_ledWord_0.2.2.2.2.2.2.2.2.2.2.2.1
theorem dX10_ledWord_21 : decode cX10_ledWord 21 = .ok (.aload_n 0, 1) := bdX10_ledWord_0.2.2.2.2.2.2.2.2.2.2.2.2.1
theorem dX10_ledWord_22 : decode cX10_ledWord 22 = .ok (.invokevirtual 197, 3) := bdX10_ledWord_0.2.2.2.2.2.2.2.2.2.2.2.2.2.1
theorem dX10_ledWord_25 : decode cX10_ledWord 25 = .ok (.iconst 0, 1) := bdX10_ledWord_0.2.2.2.2.2.2.2.2.2.2.2.2.2.2.1
theorem dX10_ledWord_26 : decode cX10_ledWord 26 = .ok (.istore_n 2, 1) := bdX10_ledWord_0.2.2.2.2.2.2.2.2.2.2.2.2.2.2.2
theorem bdX10_ledWord_27 : (decode cX10_ledWord 27 = .ok (.iload_n 2, 1)) ∧ (decode cX10_ledWord 28 = .ok (.aload_n 0, 1)) ∧ (decode cX10_ledWord 29 = .ok (.getfield 7, 3)) ∧ (decode cX10_ledWord 32 = .ok (.if_icmp .ge 51, 3)) ∧ (decode cX10_ledWord 35 = .ok (.iconst 0, 1)) ∧ (decode cX10_ledWord 36 = .ok (.istore_n 3, 1)) ∧ (decode cX10_ledWord 37 = .ok (.iload_n 3, 1)) ∧ (decode cX10_ledWord 38 = .ok (.aload_n 0, 1)) ∧ (decode cX10_ledWord 39 = .ok (.getfield 13, 3)) ∧ (decode cX10_ledWord 42 = .ok (.if_icmp .ge 35, 3)) ∧ (decode cX10_ledWord 45 = .ok (.aload_n 0, 1)) ∧ (decode cX10_ledWord 46 = .ok (.getfield 51, 3)) ∧ (decode cX10_ledWord 49 = .ok (.iload_n 2, 1)) ∧ (decode cX10_ledWord 50 = .ok (.dup2, 1)) ∧ (decode cX10_ledWord 51 = .ok (.iaload, 1)) ∧ (decode cX10_ledWord 52 = .ok (.aload_n 0, 1)) := by decide +kernel
theorem dX10_ledWord_27 : decode cX10_ledWord 27 = .ok (.iload_n 2, 1) := bdX10_ledWord_27.1
theorem dX10_ledWord_28 : decode cX10_ledWord 28 = .ok (.aload_n 0, 1) := bdX10_ledWord_27.2.1
theorem dX10_ledWord_29 : decode cX10_ledWord 29 = .ok (.getfield 7, 3) := bdX10_ledWord_27.2.2.1
theorem dX10_ledWord_32 : decode cX10_ledWord 32 = .ok (.if_icmp .ge 51, 3) := bdX10_ledWord_27.2.2.2.1
theorem dX10_ledWord_35 : decode cX10_ledWord 35 = .ok (.iconst 0, 1) := bdX10_ledWord_27.2.2.2.2.1
theorem dX10_ledWord_36 : decode cX10_ledWord 36 = .ok (.istore_n 3, 1) := bdX10_ledWord_27.2.2.2.2.2.1
theorem dX10_ledWord_37 : decode cX10_ledWord 37 = .ok (.iload_n 3, 1) := bdX10_ledWord_27.2.2.2.2.2.2.1
theorem dX10_ledWord_38 : decode cX10_ledWord 38 = .ok (.aload_n 0, 1) := bdX10_ledWord_27.2.2.2.2.2.2.2.1
theorem dX10_ledWord_39 : decode cX10_ledWord 39 = .ok (.getfield 13, 3) := bdX10_ledWord_27.2.2.2.2.2.2.2.2.1
theorem dX10_ledWord_42 : decode cX10_ledWord 42 = .ok (.if_icmp .ge 35, 3) := bdX10_ledWord_27.2.2.2.2.2.2.2.2.2.1
theorem dX10_ledWord_45 : decode cX10_ledWord 45 = .ok (.aload_n 0, 1) := bdX10_ledWord_27.2.2.2.2.2.2.2.2.2.2.1
theorem dX10_ledWord_46 : decode cX10_ledWord 46 = .ok (.getfield 51, 3) := bdX10_ledWord_27.2.2.2.2.2.2.2.2.2.2.2.1
theorem dX10_ledWord_49 : decode cX10_ledWord 49 = .ok (.iload_n 2, 1) := bdX10_ledWord_27.2.2.2.2.2.2.2.2.2.2.2.2.1
theorem dX10_ledWord_50 : decode cX10_ledWord 50 = .ok (.dup2, 1) := bdX10_ledWord_27.2.2.2.2.2.2.2.2.2.2.2.2.2.1
theorem dX10_ledWord_51 : decode cX10_ledWord 51 = .ok (.iaload, 1) := bdX10_ledWord_27.2.2.2.2.2.2.2.2.2.2.2.2.2.2.1
theorem dX10_ledWord_52 : decode cX10_ledWord 52 = .ok (.aload_n 0, 1) := bdX10_ledWord_27.2.2.2.2.2.2.2.2.2.2.2.2.2.2.2
theorem bdX10_ledWord_53 : (decode cX10_ledWord 53 = .ok (.getfield 16, 3)) ∧ (decode cX10_ledWord 56 = .ok (.iconst 1, 1)) ∧ (decode cX10_ledWord 57 = .ok (.isub, 1)) ∧ (decode cX10_ledWord 58 = .ok (.aload_n 0, 1)) ∧ (decode cX10_ledWord 59 = .ok (.getfield 19, 3)) ∧ (decode cX10_ledWord 62 = .ok (.iconst 5, 1)) ∧ (decode cX10_ledWord 63 = .ok (.iload_n 2, 1)) ∧ (decode cX10_ledWord 64 = .ok (.imul, 1)) ∧ (decode cX10_ledWord 65 = .ok (.iload_n 3, 1)) ∧ (decode cX10_ledWord 66 = .ok (.iadd, 1)) ∧ (decode cX10_ledWord 67 = .ok (.iaload, 1)) ∧ (decode cX10_ledWord 68 = .ok (.imul, 1)) ∧ (decode cX10_ledWord 69 = .ok (.iadd, 1)) ∧ (decode cX10_ledWord 70 = .ok (.iastore, 1)) ∧ (decode cX10_ledWord 71 = .ok (.iinc 3 1, 3)) ∧ (decode cX10_ledWord 74 = .ok (.goto (-37), 3)) := by decide +kernel
theorem dX10_ledWord_53 : decode cX10_ledWord 53 = .ok (.getfield 16, 3) := bdX10_ledWord_53.1
theorem dX10_ledWord_56 : decode cX10_ledWord 56 = .ok (.iconst 1, 1) := bdX10_ledWord_53.2.1
theorem dX10_ledWord_57 : decode cX10_ledWord 57 = .ok (.isub, 1) := bdX10_ledWord_53.2.2.1
theorem dX10_ledWord_58 : decode cX10_ledWord 58 = .ok (.aload_n 0, 1) := bdX10_ledWord_53.2.2.2.1
theorem dX10_ledWord_59 : decode cX10_ledWord 59 = .ok (.getfield 19, 3) := bdX10_ledWord_53.2.2.2.2.1
theorem dX10_ledWord_62 : decode cX10_ledWord 62 = .ok (.iconst 5, 1) := bdX10_ledWord_53.2.2.2.2.2.1
theorem dX10_ledWord_63 : decode cX10_ledWord 63 = .ok (.iload_n 2, 1) := bdX10_ledWord_53.2.2.2.2.2.2.1
theorem dX10_ledWord_64 : decode cX10_ledWord 64 = .ok (.imul, 1) := bdX10_ledWord_53.2.2.2.2.2.2.2.1
theorem dX10_ledWord_65 : decode cX10_ledWord 65 = .ok (.iload_n 3, 1) := bdX10_ledWord_53.2.2.2.2.2.2.2.2.1
theorem dX10_ledWord_66 : decode cX10_ledWord 66 = .ok (.iadd, 1) := bdX10_ledWord_53.2.2.2.2.2.2.2.2.2.1
theorem dX10_ledWord_67 : decode cX10_ledWord 67 = .ok (.iaload, 1) := bdX10_ledWord_53.2.2.2.2.2.2.2.2.2.2.1
theorem dX10_ledWord_68 : decode cX10_ledWord 68 = .ok (.imul, 1) := bdX10_ledWord_53.2.2.2.2.2.2.2.2.2.2.2.1
theorem dX10_ledWord_69 : decode cX10_ledWord 69 = .ok (.iadd, 1) := bdX10_ledWord_53.2.2.2.2.2.2.2.2.2.2.2.2.1
theorem dX10_ledWord_70 : decode cX10_ledWord 70 = .ok (.iastore, 1) := bdX10_ledWord_53.2.2.2.2.2.2.2.2.2.2.2.2.2.1
theorem dX10_ledWord_71 : decode cX10_ledWord 71 = .ok (.iinc 3 1, 3) := bdX10_ledWord_53.2.2.2.2.2.2.2.2.2.2.2.2.2.2.1
theorem dX10_ledWord_74 : decode cX10_ledWord 74 = .ok (.goto (-37), 3) := bdX10_ledWord_53.2.2.2.2.2.2.2.2.2.2.2.2.2.2.2
theorem bdX10_ledWord_77 : (decode cX10_ledWord 77 = .ok (.iinc 2 1, 3)) ∧ (decode cX10_ledWord 80 = .ok (.goto (-53), 3)) ∧ (decode cX10_ledWord 83 = .ok (.iconst 0, 1)) ∧ (decode cX10_ledWord 84 = .ok (.istore_n 2, 1)) ∧ (decode cX10_ledWord 85 = .ok (.iload_n 2, 1)) ∧ (decode cX10_ledWord 86 = .ok (.aload_n 0, 1)) ∧ (decode cX10_ledWord 87 = .ok (.getfield 13, 3)) ∧ (decode cX10_ledWord 90 = .ok (.if_icmp .ge 66, 3)) ∧ (decode cX10_ledWord 93 = .ok (.aload_n 0, 1)) ∧ (decode cX10_ledWord 94 = .ok (.iload_n 2, 1)) ∧ (decode cX10_ledWord 95 = .ok (.invokevirtual 200, 3)) ∧ (decode cX10_ledWord 98 = .ok (.aload_n 0, 1)) ∧ (decode cX10_ledWord 99 = .ok (.getfield 194, 3)) ∧ (decode cX10_ledWord 102 = .ok (.aload_n 0, 1)) ∧ (decode cX10_ledWord 103 = .ok (.getfield 190, 3)) ∧ (decode cX10_ledWord 106 = .ok (.ladd, 1)) := by decide +kernel
theorem dX10_ledWord_77 : decode cX10_ledWord 77 = .ok (.iinc 2 1, 3) := bdX10_ledWord_77.1
theorem dX10_ledWord_80 : decode cX10_ledWord 80 = .ok (.goto (-53), 3) := bdX10_ledWord_77.2.1
theorem dX10_ledWord_83 : decode cX10_ledWord 83 = .ok (.iconst 0, 1) := bdX10_ledWord_77.2.2.1
theorem dX10_ledWord_84 : decode cX10_ledWord 84 = .ok (.istore_n 2, 1) := bdX10_ledWord_77.2.2.2.1
theorem dX10_ledWord_85 : decode cX10_ledWord 85 = .ok (.iload_n 2, 1) := bdX10_ledWord_77.2.2.2.2.1
theorem dX10_ledWord_86 : decode cX10_ledWord 86 = .ok (.aload_n 0, 1) := bdX10_ledWord_77.2.2.2.2.2.1
theorem dX10_ledWord_87 : decode cX10_ledWord 87 = .ok (.getfield 13, 3) := bdX10_ledWord_77.2.2.2.2.2.2.1
theorem dX10_ledWord_90 : decode cX10_ledWord 90 = .ok (.if_icmp .ge 66, 3) := bdX10_ledWord_77.2.2.2.2.2.2.2.1
theorem dX10_ledWord_93 : decode cX10_ledWord 93 = .ok (.aload_n 0, 1) := bdX10_ledWord_77.2.2.2.2.2.2.2.2.1
theorem dX10_ledWord_94 : decode cX10_ledWord 94 = .ok (.iload_n 2, 1) := bdX10_ledWord_77.2.2.2.2.2.2.2.2.2.1
theorem dX10_ledWord_95 : decode cX10_ledWord 95 = .ok (.invokevirtual 200, 3) := bdX10_ledWord_77.2.2.2.2.2.2.2.2.2.2.1
theorem dX10_ledWord_98 : decode cX10_ledWord 98 = .ok (.aload_n 0, 1) := bdX10_ledWord_77.2.2.2.2.2.2.2.2.2.2.2.1
theorem dX10_ledWord_99 : decode cX10_ledWord 99 = .ok (.getfield 194, 3) := bdX10_ledWord_77.2.2.2.2.2.2.2.2.2.2.2.2.1
theorem dX10_ledWord_102 : decode cX10_ledWord 102 = .ok (.aload_n 0, 1) := bdX10_ledWord_77.2.2.2.2.2.2.2.2.2.2.2.2.2.1
theorem dX10_ledWord_103 : decode cX10_ledWord 103 = .ok (.getfield 190, 3) := bdX10_ledWord_77.2.2.2.2.2.2.2.2.2.2.2.2.2.2.1
theorem dX10_ledWord_106 : decode cX10_ledWord 106 = .ok (.ladd, 1) := bdX10_ledWord_77.2.2.2.2.2.2.2.2.2.2.2.2.2.2.2
theorem bdX10_ledWord_107 : (decode cX10_ledWord 107 = .ok (.lconst 1, 1)) ∧ (decode cX10_ledWord 108 = .ok (.lsub, 1)) ∧ (decode cX10_ledWord 109 = .ok (.lstore_n 3, 1)) ∧ (decode cX10_ledWord 110 = .ok (.ldc2_w 233, 3)) ∧ (decode cX10_ledWord 113 = .ok (.aload_n 0, 1)) ∧ (decode cX10_ledWord 114 = .ok (.getfield 190, 3)) ∧ (decode cX10_ledWord 117 = .ok (.lmul, 1)) ∧ (decode cX10_ledWord 118 = .ok (.lstore 5, 2)) ∧ (decode cX10_ledWord 120 = .ok (.lload_n 3, 1)) ∧ (decode cX10_ledWord 121 = .ok (.lload 5, 2)) ∧ (decode cX10_ledWord 123 = .ok (.ldiv, 1)) ∧ (decode cX10_ledWord 124 = .ok (.lstore 7, 2)) ∧ (decode cX10_ledWord 126 = .ok (.aload_n 0, 1)) ∧ (decode cX10_ledWord 127 = .ok (.getfield 57, 3)) ∧ (decode cX10_ledWord 130 = .ok (.iload_n 2, 1)) ∧ (decode cX10_ledWord 131 = .ok (.lload_n 3, 1)) := by decide +kernel
theorem dX10_ledWord_107 : decode cX10_ledWord 107 = .ok (.lconst 1, 1) := bdX10_ledWord_107.1
theorem dX10_ledWord_108 : decode cX10_ledWord 108 = .ok (.lsub, 1) := bdX10_ledWord_107.2.1
theorem dX10_ledWord_109 : decode cX10_ledWord 109 = .ok (.lstore_n 3, 1) := bdX10_ledWord_107.2.2.1
theorem dX10_ledWord_110 : decode cX10_ledWord 110 = .ok (.ldc2_w 233, 3) := bdX10_ledWord_107.2.2.2.1
theorem dX10_ledWord_113 : decode cX10_ledWord 113 = .ok (.aload_n 0, 1) := bdX10_ledWord_107.2.2.2.2.1
theorem dX10_ledWord_114 : decode cX10_ledWord 114 = .ok (.getfield 190, 3) := bdX10_ledWord_107.2.2.2.2.2.1
theorem dX10_ledWord_117 : decode cX10_ledWord 117 = .ok (.lmul, 1) := bdX10_ledWord_107.2.2.2.2.2.2.1
theorem dX10_ledWord_118 : decode cX10_ledWord 118 = .ok (.lstore 5, 2) := bdX10_ledWord_107.2.2.2.2.2.2.2.1
theorem dX10_ledWord_120 : decode cX10_ledWord 120 = .ok (.lload_n 3, 1) := bdX10_ledWord_107.2.2.2.2.2.2.2.2.1
theorem dX10_ledWord_121 : decode cX10_ledWord 121 = .ok (.lload 5, 2) := bdX10_ledWord_107.2.2.2.2.2.2.2.2.2.1
theorem dX10_ledWord_123 : decode cX10_ledWord 123 = .ok (.ldiv, 1) := bdX10_ledWord_107.2.2.2.2.2.2.2.2.2.2.1
theorem dX10_ledWord_124 : decode cX10_ledWord 124 = .ok (.lstore 7, 2) := bdX10_ledWord_107.2.2.2.2.2.2.2.2.2.2.2.1
theorem dX10_ledWord_126 : decode cX10_ledWord 126 = .ok (.aload_n 0, 1) := bdX10_ledWord_107.2.2.2.2.2.2.2.2.2.2.2.2.1
theorem dX10_ledWord_127 : decode cX10_ledWord 127 = .ok (.getfield 57, 3) := bdX10_ledWord_107.2.2.2.2.2.2.2.2.2.2.2.2.2.1
theorem dX10_ledWord_130 : decode cX10_ledWord 130 = .ok (.iload_n 2, 1) := bdX10_ledWord_107.2.2.2.2.2.2.2.2.2.2.2.2.2.2.1
theorem dX10_ledWord_131 : decode cX10_ledWord 131 = .ok (.lload_n 3, 1) := bdX10_ledWord_107.2.2.2.2.2.2.2.2.2.2.2.2.2.2.2
theorem bdX10_ledWord_132 : (decode cX10_ledWord 132 = .ok (.lload 5, 2)) ∧ (decode cX10_ledWord 134 = .ok (.lrem, 1)) ∧ (decode cX10_ledWord 135 = .ok (.lconst 0, 1)) ∧ (decode cX10_ledWord 136 = .ok (.lcmp, 1)) ∧ (decode cX10_ledWord 137 = .ok (.ifCond .ge 10, 3)) ∧ (decode cX10_ledWord 140 = .ok (.lload 7, 2)) ∧ (decode cX10_ledWord 142 = .ok (.lconst 1, 1)) ∧ (decode cX10_ledWord 143 = .ok (.lsub, 1)) ∧ (decode cX10_ledWord 144 = .ok (.goto 5, 3)) ∧ (decode cX10_ledWord 147 = .ok (.lload 7, 2)) ∧ (decode cX10_ledWord 149 = .ok (.lastore, 1)) ∧ (decode cX10_ledWord 150 = .ok (.iinc 2 1, 3)) ∧ (decode cX10_ledWord 153 = .ok (.goto (-68), 3)) ∧ (decode cX10_ledWord 156 = .ok (.iconst 0, 1)) ∧ (decode cX10_ledWord 157 = .ok (.istore_n 2, 1)) ∧ (decode cX10_ledWord 158 = .ok (.iload_n 2, 1)) := by decide +kernel
theorem dX10_ledWord_132 : decode cX10_ledWord 132 = .ok (.lload 5, 2) := bdX10_ledWord_132.1
theorem dX10_ledWord_134 : decode cX10_ledWord 134 = .ok (.lrem, 1) := bdX10_ledWord_132.2.1
theorem dX10_ledWord_135 : decode cX10_ledWord 135 = .ok (.lconst 0, 1) := bdX10_ledWord_132.2.2.1
theorem dX10_ledWord_136 : decode cX10_ledWord 136 = .ok (.lcmp, 1) := bdX10_ledWord_132.2.2.2.1
theorem dX10_ledWord_137 : decode cX10_ledWord 137 = .ok (.ifCond .ge 10, 3) := bdX10_ledWord_132.2.2.2.2.1
theorem dX10_ledWord_140 : decode cX10_ledWord 140 = .ok (.lload 7, 2) := bdX10_ledWord_132.2.2.2.2.2.1
theorem dX10_ledWord_142 : decode cX10_ledWord 142 = .ok (.lconst 1, 1) := bdX10_ledWord_132.2.2.2.2.2.2.1
theorem dX10_ledWord_143 : decode cX10_ledWord 143 = .ok (.lsub, 1) := bdX10_ledWord_132.2.2.2.2.2.2.2.1
theorem dX10_ledWord_144 : decode cX10_ledWord 144 = .ok (.goto 5, 3) := bdX10_ledWord_132.2.2.2.2.2.2.2.2.1
theorem dX10_ledWord_147 : decode cX10_ledWord 147 = .ok (.lload 7, 2) := bdX10_ledWord_132.2.2.2.2.2.2.2.2.2.1
theorem dX10_ledWord_149 : decode cX10_ledWord 149 = .ok (.lastore, 1) := bdX10_ledWord_132.2.2.2.2.2.2.2.2.2.2.1
theorem dX10_ledWord_150 : decode cX10_ledWord 150 = .ok (.iinc 2 1, 3) := bdX10_ledWord_132.2.2.2.2.2.2.2.2.2.2.2.1
theorem dX10_ledWord_153 : decode cX10_ledWord 153 = .ok (.goto (-68), 3) := bdX10_ledWord_132.2.2.2.2.2.2.2.2.2.2.2.2.1
theorem dX10_ledWord_156 : decode cX10_ledWord 156 = .ok (.iconst 0, 1) := bdX10_ledWord_132.2.2.2.2.2.2.2.2.2.2.2.2.2.1
theorem dX10_ledWord_157 : decode cX10_ledWord 157 = .ok (.istore_n 2, 1) := bdX10_ledWord_132.2.2.2.2.2.2.2.2.2.2.2.2.2.2.1
theorem dX10_ledWord_158 : decode cX10_ledWord 158 = .ok (.iload_n 2, 1) := bdX10_ledWord_132.2.2.2.2.2.2.2.2.2.2.2.2.2.2.2
theorem bdX10_ledWord_159 : (decode cX10_ledWord 159 = .ok (.aload_n 0, 1)) ∧ (decode cX10_ledWord 160 = .ok (.getfield 13, 3)) ∧ (decode cX10_ledWord 163 = .ok (.if_icmp .ge 120, 3)) ∧ (decode cX10_ledWord 166 = .ok (.lconst 0, 1)) ∧ (decode cX10_ledWord 167 = .ok (.lstore_n 3, 1)) ∧ (decode cX10_ledWord 168 = .ok (.iconst 0, 1)) ∧ (decode cX10_ledWord 169 = .ok (.istore 5, 2)) ∧ (decode cX10_ledWord 171 = .ok (.iload 5, 2)) ∧ (decode cX10_ledWord 173 = .ok (.aload_n 0, 1)) ∧ (decode cX10_ledWord 174 = .ok (.getfield 13, 3)) ∧ (decode cX10_ledWord 177 = .ok (.if_icmp .ge 32, 3)) ∧ (decode cX10_ledWord 180 = .ok (.lload_n 3, 1)) ∧ (decode cX10_ledWord 181 = .ok (.aload_n 0, 1)) ∧ (decode cX10_ledWord 182 = .ok (.getfield 44, 3)) ∧ (decode cX10_ledWord 185 = .ok (.iconst 4, 1)) ∧ (decode cX10_ledWord 186 = .ok (.iload_n 2, 1)) := by decide +kernel
theorem dX10_ledWord_159 : decode cX10_ledWord 159 = .ok (.aload_n 0, 1) := bdX10_ledWord_159.1
theorem dX10_ledWord_160 : decode cX10_ledWord 160 = .ok (.getfield 13, 3) := bdX10_ledWord_159.2.1
theorem dX10_ledWord_163 : decode cX10_ledWord 163 = .ok (.if_icmp .ge 120, 3) := bdX10_ledWord_159.2.2.1
theorem dX10_ledWord_166 : decode cX10_ledWord 166 = .ok (.lconst 0, 1) := bdX10_ledWord_159.2.2.2.1
theorem dX10_ledWord_167 : decode cX10_ledWord 167 = .ok (.lstore_n 3, 1) := bdX10_ledWord_159.2.2.2.2.1
theorem dX10_ledWord_168 : decode cX10_ledWord 168 = .ok (.iconst 0, 1) := bdX10_ledWord_159.2.2.2.2.2.1
theorem dX10_ledWord_169 : decode cX10_ledWord 169 = .ok (.istore 5, 2) := bdX10_ledWord_159.2.2.2.2.2.2.1
theorem dX10_ledWord_171 : decode cX10_ledWord 171 = .ok (.iload 5, 2) := bdX10_ledWord_159.2.2.2.2.2.2.2.1
theorem dX10_ledWord_173 : decode cX10_ledWord 173 = .ok (.aload_n 0, 1) := bdX10_ledWord_159.2.2.2.2.2.2.2.2.1
theorem dX10_ledWord_174 : decode cX10_ledWord 174 = .ok (.getfield 13, 3) := bdX10_ledWord_159.2.2.2.2.2.2.2.2.2.1
theorem dX10_ledWord_177 : decode cX10_ledWord 177 = .ok (.if_icmp .ge 32, 3) := bdX10_ledWord_159.2.2.2.2.2.2.2.2.2.2.1
theorem dX10_ledWord_180 : decode cX10_ledWord 180 = .ok (.lload_n 3, 1) := bdX10_ledWord_159.2.2.2.2.2.2.2.2.2.2.2.1
theorem dX10_ledWord_181 : decode cX10_ledWord 181 = .ok (.aload_n 0, 1) := bdX10_ledWord_159.2.2.2.2.2.2.2.2.2.2.2.2.1
theorem dX10_ledWord_182 : decode cX10_ledWord 182 = .ok (.getfield 44, 3) := bdX10_ledWord_159.2.2.2.2.2.2.2.2.2.2.2.2.2.1
theorem dX10_ledWord_185 : decode cX10_ledWord 185 = .ok (.iconst 4, 1) := bdX10_ledWord_159.2.2.2.2.2.2.2.2.2.2.2.2.2.2.1
theorem dX10_ledWord_186 : decode cX10_ledWord 186 = .ok (.iload_n 2, 1) := bdX10_ledWord_159.2.2.2.2.2.2.2.2.2.2.2.2.2.2.2
theorem bdX10_ledWord_187 : (decode cX10_ledWord 187 = .ok (.imul, 1)) ∧ (decode cX10_ledWord 188 = .ok (.iload 5, 2)) ∧ (decode cX10_ledWord 190 = .ok (.iadd, 1)) ∧ (decode cX10_ledWord 191 = .ok (.iaload, 1)) ∧ (decode cX10_ledWord 192 = .ok (.i2l, 1)) ∧ (decode cX10_ledWord 193 = .ok (.aload_n 0, 1)) ∧ (decode cX10_ledWord 194 = .ok (.getfield 57, 3)) ∧ (decode cX10_ledWord 197 = .ok (.iload 5, 2)) ∧ (decode cX10_ledWord 199 = .ok (.laload, 1)) ∧ (decode cX10_ledWord 200 = .ok (.lmul, 1)) ∧ (decode cX10_ledWord 201 = .ok (.ladd, 1)) ∧ (decode cX10_ledWord 202 = .ok (.lstore_n 3, 1)) ∧ (decode cX10_ledWord 203 = .ok (.iinc 5 1, 3)) ∧ (decode cX10_ledWord 206 = .ok (.goto (-35), 3)) ∧ (decode cX10_ledWord 209 = .ok (.ldc2_w 233, 3)) ∧ (decode cX10_ledWord 212 = .ok (.lload_n 3, 1)) := by decide +kernel
theorem dX10_ledWord_187 : decode cX10_ledWord 187 = .ok (.imul, 1) := bdX10_ledWord_187.1
theorem dX10_ledWord_188 : decode cX10_ledWord 188 = .ok (.iload 5, 2) := bdX10_ledWord_187.2.1
theorem dX10_ledWord_190 : decode cX10_ledWord 190 = .ok (.iadd, 1) := bdX10_ledWord_187.2.2.1
theorem dX10_ledWord_191 : decode cX10_ledWord 191 = .ok (.iaload, 1) := bdX10_ledWord_187.2.2.2.1
theorem dX10_ledWord_192 : decode cX10_ledWord 192 = .ok (.i2l, 1) := bdX10_ledWord_187.2.2.2.2.1
theorem dX10_ledWord_193 : decode cX10_ledWord 193 = .ok (.aload_n 0, 1) := bdX10_ledWord_187.2.2.2.2.2.1
theorem dX10_ledWord_194 : decode cX10_ledWord 194 = .ok (.getfield 57, 3) := bdX10_ledWord_187.2.2.2.2.2.2.1
theorem dX10_ledWord_197 : decode cX10_ledWord 197 = .ok (.iload 5, 2) := bdX10_ledWord_187.2.2.2.2.2.2.2.1
theorem dX10_ledWord_199 : decode cX10_ledWord 199 = .ok (.laload, 1) := bdX10_ledWord_187.2.2.2.2.2.2.2.2.1
theorem dX10_ledWord_200 : decode cX10_ledWord 200 = .ok (.lmul, 1) := bdX10_ledWord_187.2.2.2.2.2.2.2.2.2.1
theorem dX10_ledWord_201 : decode cX10_ledWord 201 = .ok (.ladd, 1) := bdX10_ledWord_187.2.2.2.2.2.2.2.2.2.2.1
theorem dX10_ledWord_202 : decode cX10_ledWord 202 = .ok (.lstore_n 3, 1) := bdX10_ledWord_187.2.2.2.2.2.2.2.2.2.2.2.1
theorem dX10_ledWord_203 : decode cX10_ledWord 203 = .ok (.iinc 5 1, 3) := bdX10_ledWord_187.2.2.2.2.2.2.2.2.2.2.2.2.1
theorem dX10_ledWord_206 : decode cX10_ledWord 206 = .ok (.goto (-35), 3) := bdX10_ledWord_187.2.2.2.2.2.2.2.2.2.2.2.2.2.1
theorem dX10_ledWord_209 : decode cX10_ledWord 209 = .ok (.ldc2_w 233, 3) := bdX10_ledWord_187.2.2.2.2.2.2.2.2.2.2.2.2.2.2.1
theorem dX10_ledWord_212 : decode cX10_ledWord 212 = .ok (.lload_n 3, 1) := bdX10_ledWord_187.2.2.2.2.2.2.2.2.2.2.2.2.2.2.2
theorem bdX10_ledWord_213 : (decode cX10_ledWord 213 = .ok (.lmul, 1)) ∧ (decode cX10_ledWord 214 = .ok (.aload_n 0, 1)) ∧ (decode cX10_ledWord 215 = .ok (.getfield 16, 3)) ∧ (decode cX10_ledWord 218 = .ok (.i2l, 1)) ∧ (decode cX10_ledWord 219 = .ok (.lsub, 1)) ∧ (decode cX10_ledWord 220 = .ok (.lconst 1, 1)) ∧ (decode cX10_ledWord 221 = .ok (.ladd, 1)) ∧ (decode cX10_ledWord 222 = .ok (.lstore 5, 2)) ∧ (decode cX10_ledWord 224 = .ok (.aload_n 0, 1)) ∧ (decode cX10_ledWord 225 = .ok (.getfield 54, 3)) ∧ (decode cX10_ledWord 228 = .ok (.iload_n 2, 1)) ∧ (decode cX10_ledWord 229 = .ok (.lload 5, 2)) ∧ (decode cX10_ledWord 231 = .ok (.iconst 1, 1)) ∧ (decode cX10_ledWord 232 = .ok (.aload_n 0, 1)) ∧ (decode cX10_ledWord 233 = .ok (.getfield 16, 3)) ∧ (decode cX10_ledWord 236 = .ok (.isub, 1)) := by decide +kernel
theorem dX10_ledWord_213 : decode cX10_ledWord 213 = .ok (.lmul, 1) := bdX10_ledWord_213.1
theorem dX10_ledWord_214 : decode cX10_ledWord 214 = .ok (.aload_n 0, 1) := bdX10_ledWord_213.2.1
theorem dX10_ledWord_215 : decode cX10_ledWord 215 = .ok (.getfield 16, 3) := bdX10_ledWord_213.2.2.1
theorem dX10_ledWord_218 : decode cX10_ledWord 218 = .ok (.i2l, 1) := bdX10_ledWord_213.2.2.2.1
theorem dX10_ledWord_219 : decode cX10_ledWord 219 = .ok (.lsub, 1) := bdX10_ledWord_213.2.2.2.2.1
theorem dX10_ledWord_220 : decode cX10_ledWord 220 = .ok (.lconst 1, 1) := bdX10_ledWord_213.2.2.2.2.2.1
theorem dX10_ledWord_221 : decode cX10_ledWord 221 = .ok (.ladd, 1) := bdX10_ledWord_213.2.2.2.2.2.2.1
theorem dX10_ledWord_222 : decode cX10_ledWord 222 = .ok (.lstore 5, 2) := bdX10_ledWord_213.2.2.2.2.2.2.2.1
theorem dX10_ledWord_224 : decode cX10_ledWord 224 = .ok (.aload_n 0, 1) := bdX10_ledWord_213.2.2.2.2.2.2.2.2.1
theorem dX10_ledWord_225 : decode cX10_ledWord 225 = .ok (.getfield 54, 3) := bdX10_ledWord_213.2.2.2.2.2.2.2.2.2.1
theorem dX10_ledWord_228 : decode cX10_ledWord 228 = .ok (.iload_n 2, 1) := bdX10_ledWord_213.2.2.2.2.2.2.2.2.2.2.1
theorem dX10_ledWord_229 : decode cX10_ledWord 229 = .ok (.lload 5, 2) := bdX10_ledWord_213.2.2.2.2.2.2.2.2.2.2.2.1
theorem dX10_ledWord_231 : decode cX10_ledWord 231 = .ok (.iconst 1, 1) := bdX10_ledWord_213.2.2.2.2.2.2.2.2.2.2.2.2.1
theorem dX10_ledWord_232 : decode cX10_ledWord 232 = .ok (.aload_n 0, 1) := bdX10_ledWord_213.2.2.2.2.2.2.2.2.2.2.2.2.2.1
theorem dX10_ledWord_233 : decode cX10_ledWord 233 = .ok (.getfield 16, 3) := bdX10_ledWord_213.2.2.2.2.2.2.2.2.2.2.2.2.2.2.1
theorem dX10_ledWord_236 : decode cX10_ledWord 236 = .ok (.isub, 1) := bdX10_ledWord_213.2.2.2.2.2.2.2.2.2.2.2.2.2.2.2
theorem bdX10_ledWord_237 : (decode cX10_ledWord 237 = .ok (.i2l, 1)) ∧ (decode cX10_ledWord 238 = .ok (.lcmp, 1)) ∧ (decode cX10_ledWord 239 = .ok (.ifCond .ge 12, 3)) ∧ (decode cX10_ledWord 242 = .ok (.iconst 1, 1)) ∧ (decode cX10_ledWord 243 = .ok (.aload_n 0, 1)) ∧ (decode cX10_ledWord 244 = .ok (.getfield 16, 3)) ∧ (decode cX10_ledWord 247 = .ok (.isub, 1)) ∧ (decode cX10_ledWord 248 = .ok (.goto 28, 3)) ∧ (decode cX10_ledWord 251 = .ok (.lload 5, 2)) ∧ (decode cX10_ledWord 253 = .ok (.aload_n 0, 1)) ∧ (decode cX10_ledWord 254 = .ok (.getfield 16, 3)) ∧ (decode cX10_ledWord 257 = .ok (.iconst 1, 1)) ∧ (decode cX10_ledWord 258 = .ok (.isub, 1)) ∧ (decode cX10_ledWord 259 = .ok (.i2l, 1)) ∧ (decode cX10_ledWord 260 = .ok (.lcmp, 1)) ∧ (decode cX10_ledWord 261 = .ok (.ifCond .le 12, 3)) := by decide +kernel
theorem dX10_ledWord_237 : decode cX10_ledWord 237 = .ok (.i2l, 1) := bdX10_ledWord_237.1
theorem dX10_ledWord_238 : decode cX10_ledWord 238 = .ok (.lcmp, 1) := bdX10_ledWord_237.2.1
theorem dX10_ledWord_239 : decode cX10_ledWord 239 = .ok (.ifCond .ge 12, 3) := bdX10_ledWord_237.2.2.1
theorem dX10_ledWord_242 : decode cX10_ledWord 242 = .ok (.iconst 1, 1) := bdX10_ledWord_237.2.2.2.1
theorem dX10_ledWord_243 : decode cX10_ledWord 243 = .ok (.aload_n 0, 1) := bdX10_ledWord_237.2.2.2.2.1
theorem dX10_ledWord_244 : decode cX10_ledWord 244 = .ok (.getfield 16, 3) := bdX10_ledWord_237.2.2.2.2.2.1
theorem dX10_ledWord_247 : decode cX10_ledWord 247 = .ok (.isub, 1) := bdX10_ledWord_237.2.2.2.2.2.2.1
theorem dX10_ledWord_248 : decode cX10_ledWord 248 = .ok (.goto 28, 3) := bdX10_ledWord_237.2.2.2.2.2.2.2.1
theorem dX10_ledWord_251 : decode cX10_ledWord 251 = .ok (.lload 5, 2) := bdX10_ledWord_237.2.2.2.2.2.2.2.2.1
theorem dX10_ledWord_253 : decode cX10_ledWord 253 = .ok (.aload_n 0, 1) := bdX10_ledWord_237.2.2.2.2.2.2.2.2.2.1
theorem dX10_ledWord_254 : decode cX10_ledWord 254 = .ok (.getfield 16, 3) := bdX10_ledWord_237.2.2.2.2.2.2.2.2.2.2.1
theorem dX10_ledWord_257 : decode cX10_ledWord 257 = .ok (.iconst 1, 1) := bdX10_ledWord_237.2.2.2.2.2.2.2.2.2.2.2.1
theorem dX10_ledWord_258 : decode cX10_ledWord 258 = .ok (.isub, 1) := bdX10_ledWord_237.2.2.2.2.2.2.2.2.2.2.2.2.1
theorem dX10_ledWord_259 : decode cX10_ledWord 259 = .ok (.i2l, 1) := bdX10_ledWord_237.2.2.2.2.2.2.2.2.2.2.2.2.2.1
theorem dX10_ledWord_260 : decode cX10_ledWord 260 = .ok (.lcmp, 1) := bdX10_ledWord_237.2.2.2.2.2.2.2.2.2.2.2.2.2.2.1
theorem dX10_ledWord_261 : decode cX10_ledWord 261 = .ok (.ifCond .le 12, 3) := bdX10_ledWord_237.2.2.2.2.2.2.2.2.2.2.2.2.2.2.2
theorem bdX10_ledWord_264 : (decode cX10_ledWord 264 = .ok (.aload_n 0, 1)) ∧ (decode cX10_ledWord 265 = .ok (.getfield 16, 3)) ∧ (decode cX10_ledWord 268 = .ok (.iconst 1, 1)) ∧ (decode cX10_ledWord 269 = .ok (.isub, 1)) ∧ (decode cX10_ledWord 270 = .ok (.goto 6, 3)) ∧ (decode cX10_ledWord 273 = .ok (.lload 5, 2)) ∧ (decode cX10_ledWord 275 = .ok (.l2i, 1)) ∧ (decode cX10_ledWord 276 = .ok (.iastore, 1)) ∧ (decode cX10_ledWord 277 = .ok (.iinc 2 1, 3)) ∧ (decode cX10_ledWord 280 = .ok (.goto (-122), 3)) ∧ (decode cX10_ledWord 283 = .ok (.aload_n 0, 1)) ∧ (decode cX10_ledWord 284 = .ok (.aload_n 0, 1)) ∧ (decode cX10_ledWord 285 = .ok (.getfield 54, 3)) ∧ (decode cX10_ledWord 288 = .ok (.invokevirtual 207, 3)) ∧ (decode cX10_ledWord 291 = .ok (.ireturn, 1)) := by decide +kernel
theorem dX10_ledWord_264 : decode cX10_ledWord 264 = .ok (.aload_n 0, 1) := bdX10_ledWord_264.1
theorem dX10_ledWord_265 : decode cX10_ledWord 265 = .ok (.getfield 16, 3) := bdX10_ledWord_264.2.1
theorem dX10_ledWord_268 : decode cX10_ledWord 268 = .ok (.iconst 1, 1) := bdX10_ledWord_264.2.2.1
theorem dX10_ledWord_269 : decode cX10_ledWord 269 = .ok (.isub, 1) := bdX10_ledWord_264.2.2.2.1
theorem dX10_ledWord_270 : decode cX10_ledWord 270 = .ok (.goto 6, 3) := bdX10_ledWord_264.2.2.2.2.1
theorem dX10_ledWord_273 : decode cX10_ledWord 273 = .ok (.lload 5, 2) := bdX10_ledWord_264.2.2.2.2.2.1
theorem dX10_ledWord_275 : decode cX10_ledWord 275 = .ok (.l2i, 1) := bdX10_ledWord_264.2.2.2.2.2.2.1
theorem dX10_ledWord_276 : decode cX10_ledWord 276 = .ok (.iastore, 1) := bdX10_ledWord_264.2.2.2.2.2.2.2.1
theorem dX10_ledWord_277 : decode cX10_ledWord 277 = .ok (.iinc 2 1, 3) := bdX10_ledWord_264.2.2.2.2.2.2.2.2.1
theorem dX10_ledWord_280 : decode cX10_ledWord 280 = .ok (.goto (-122), 3) := bdX10_ledWord_264.2.2.2.2.2.2.2.2.2.1
theorem dX10_ledWord_283 : decode cX10_ledWord 283 = .ok (.aload_n 0, 1) := bdX10_ledWord_264.2.2.2.2.2.2.2.2.2.2.1
theorem dX10_ledWord_284 : decode cX10_ledWord 284 = .ok (.aload_n 0, 1) := bdX10_ledWord_264.2.2.2.2.2.2.2.2.2.2.2.1
theorem dX10_ledWord_285 : decode cX10_ledWord 285 = .ok (.getfield 54, 3) := bdX10_ledWord_264.2.2.2.2.2.2.2.2.2.2.2.2.1
theorem dX10_ledWord_288 : decode cX10_ledWord 288 = .ok (.invokevirtual 207, 3) := bdX10_ledWord_264.2.2.2.2.2.2.2.2.2.2.2.2.2.1
theorem dX10_ledWord_291 : decode cX10_ledWord 291 = .ok (.ireturn, 1) := bdX10_ledWord_264.2.2.2.2.2.2.2.2.2.2.2.2.2.2
set_option maxHeartbeats 4000000 in
set_option maxRecDepth 100000 in
theorem k_X10_ledWord (l : Launch) (dC : Nat → ClassId) (dI : Nat → Nat → Nat) (h : Nat → Nat) (cs : Nat → ClassId) (sz : Nat) (I : Nat → Int32) (L : Nat → Int64) (A : Nat → Nat → Int32) (Q : Nat → Nat → Int64) (R M a : Nat) (hR : I 0 = nI R) (hR1 : 1 ≤ R) (hR5 : R ≤ 5) (hM : I 1 = nI M) (hM1 : 1 ≤ M) (hM4 : M ≤ 4) (ha : I 2 = nI a) (ha2 : a = 2 ∨ a = 4) (htb : tb9 (A 3) R M) : Met l yX10_ledWord wsX10_ledWord ({ frames := 3, cells := 0, slots := 0, locals := 79 }) (va_Pc [.ref (h 0)] (xPre (dC, dI) (rW h cs I L A Q) (tysA cs) sz)) (va_Qi (fun (r : Int32) (u : RS) => ∃ l21 : Int64, ∃ l22 : Int64, ∃ a17 : Nat → Int32, ∃ a18 : Nat → Int32, ∃ a20 : Nat → Int32, ∃ a23 : Nat → Int32, ∃ q19 : Nat → Int64, ∃ q24 : Nat → Int64, (True) ∧ u = (I, (va_up (va_up L 21 l21) 22 l22), (va_up (va_up (va_up (va_up A 17 a17) 18 a18) 20 a20) 23 a23), (va_up (va_up Q 19 q19) 24 q24))) (xB (dC, dI) (tysA cs) (va_A (rW h cs I L A Q) sz) (fun u : RS => rW h cs u.1 u.2.1 u.2.2.1 u.2.2.2)) (va_A (rW h cs I L A Q) sz)) 0 0 (va_A (rW h cs I L A Q) sz) := by
  refine Met.ofW (cc := cX10_ledWord) (maxL := 9) (ret := (some .int)) (by decide) rfl ?_
  intro p e s m args below meth c s₁ B hml hv
  obtain ⟨rfl, hsz, hP, hK, hD0, hN⟩ := hv
  have hx := B.exec
  have hb := B.bytes
  have hr := B.returns
  have hts := atoms_spec (ws := wsX10_ledWord) B.pre
  have hown : s.vm.findClass RX10 = some m.cls := findClass_of_methodNamed B.named
  have hlocks := B.notSynchronized
  subst hsz
  have hD := hD0.self (sz := s.heap.size)
  generalize hAe : va_A (rW h cs I L A Q) s.heap.size = A0 at hD ⊢
  have hA : ∀ q : Nat, s.heap.size ≤ q → A0 q := fun q h => by rw [← hAe]; exact Or.inr h
  have hl := lv_entry ([.ref (h 0)]) (n := 9) (Nat.le_of_ble_eq_true rfl)
  rw [lg_entry_eq]
  generalize (lg_sl ([.ref (h 0)]) ++ List.replicate (9 - (lg_sl ([.ref (h 0)])).length) Slot.unset).toArray = ls at hl ⊢
  have hl : lv_has ls 9 [(0, .ref (h 0))] := hl
  generalize hH : s.heap = H at hP ⊢
  have hS : va_S A0 s.heap H [] := by rw [← hH]; exact va_S.rf
  have hinX10 : ∀ w ∈ wsX100, w ∈ wsX10_ledWord := by decide +kernel
  refine lv_aload_n hx hb dX10_ledWord_0 rfl (lv_at hl 0 rfl) ?_
  refine xj_i (wc := (rW h cs I L A Q)) (wr := ([] : va_W)) hP hD hS hA [0, 1, 2, 3, 4, 5, 6, 7, 8, 9, 10, 11, 12, 13, 14, 15, 16] [] rfl rfl (by decide +kernel) (by decide +kernel) (va_runV (As := []) (rest := []) ⟨hx, hb, hml, hown, hts⟩ (k_X10_lead l dC dI h cs H.size I L A Q R M hR (by first | assumption | omega | exact hR1) (by first | assumption | omega | exact hR5) hM (by first | assumption | omega | exact hM1) (by first | assumption | omega | exact hM4) (by first | assumption | omega | exact htb)) (cwV 0 hts gX10_ledWord_X10_lead rfl rfl rfl (by decide +kernel) ⟨Nat.le_of_ble_eq_true rfl, Nat.le_of_ble_eq_true rfl⟩) (xpV (wc := (rW h cs I L A Q)) hP hD hK hN [0, 1, 2, 3, 4, 5, 6, 7, 8, 9, 10, 11, 12, 13, 14, 15, 16] rfl (by decide) 0 (ci := 10) rfl rfl _) rfl rfl hl.1 rfl (lv_room (Nat.le_of_ble_eq_true rfl)) dX10_ledWord_1 ⟨Nat.zero_le _, Nat.zero_le _⟩) (fun r_2 u_1 H locs hw hP hD hS => ?_)
  obtain ⟨a17_3, a18_4, hf_5, rfl⟩ := hw
  have hP : va_P (dC, dI) vwCl (rW h cs I L (va_up (va_up A 17 a17_3) 18 a18_4) Q) H := hP
  have hD : va_D A0 (rW h cs I L (va_up (va_up A 17 a17_3) 18 a18_4) Q) := hD
  have hlf := hf_5
  have hld9 : short a17_3 := by obtain ⟨_, _, _, _, _, q9⟩ := hlf; exact q9
  refine lv_istore_n (lv' := [(1, .int r_2), (0, .ref (h 0))]) hx hb dX10_ledWord_4 rfl hl (by decide) rfl (fun ls hl => ?_)
  refine lv_aload_n hx hb dX10_ledWord_5 rfl (lv_at hl 1 rfl) ?_
  refine lv_aload_n hx hb dX10_ledWord_6 rfl (lv_at hl 1 rfl) ?_
  refine xj_i (wc := (rW h cs I L (va_up (va_up A 17 a17_3) 18 a18_4) Q)) (wr := ([] : va_W)) hP hD hS hA [0, 1, 2, 3, 4, 5, 6, 7, 8, 9, 10, 11, 12, 13, 14, 15, 16] [] rfl rfl (by decide +kernel) (by decide +kernel) (va_runV (As := []) (rest := [.ref (h 0)]) ⟨hx, hb, hml, hown, hts⟩ (k_X10_whole l dC dI h cs H.size I L (va_up (va_up A 17 a17_3) 18 a18_4) Q M hM (by first | assumption | omega | exact hM1) (by first | assumption | omega | exact hM4)) (cwV 0 hts gX10_ledWord_X10_whole rfl rfl rfl (by decide +kernel) ⟨Nat.le_of_ble_eq_true rfl, Nat.le_of_ble_eq_true rfl⟩) (xpV (wc := (rW h cs I L (va_up (va_up A 17 a17_3) 18 a18_4) Q)) hP hD hK hN [0, 1, 2, 3, 4, 5, 6, 7, 8, 9, 10, 11, 12, 13, 14, 15, 16] rfl (by decide) 0 (ci := 10) rfl rfl _) rfl rfl hl.1 rfl (lv_room (Nat.le_of_ble_eq_true rfl)) dX10_ledWord_7 ⟨Nat.zero_le _, Nat.zero_le _⟩) (fun r_7 u_6 H locs hw hP hD hS => ?_)
  obtain ⟨hf_8, rfl⟩ := hw
  have hP : va_P (dC, dI) vwCl (rW h cs I L (va_up (va_up A 17 a17_3) 18 a18_4) Q) H := hP
  have hD : va_D A0 (rW h cs I L (va_up (va_up A 17 a17_3) 18 a18_4) Q) := hD
  obtain rfl := hf_8
  refine xj_l (wc := (rW h cs I L (va_up (va_up A 17 a17_3) 18 a18_4) Q)) (wr := ([] : va_W)) hP hD hS hA [0, 1, 2, 3, 4, 5, 6, 7, 8, 9, 10, 11, 12, 13, 14, 15, 16] [] rfl rfl (by decide +kernel) (by decide +kernel) (va_runV (As := [.int (nI (2 ^ M - 1))]) (rest := []) ⟨hx, hb, hml, hown, hts⟩ (k_X10_worthOf l dC dI h cs H.size I L (va_up (va_up A 17 a17_3) 18 a18_4) Q (nI (2 ^ M - 1)) M hM (by first | assumption | omega | exact hM1) (by first | assumption | omega | exact hM4)) (cwV 1 hts gX10_ledWord_X10_worthOf rfl rfl rfl (by decide +kernel) ⟨Nat.le_of_ble_eq_true rfl, Nat.le_of_ble_eq_true rfl⟩) (xpV (wc := (rW h cs I L (va_up (va_up A 17 a17_3) 18 a18_4) Q)) hP hD hK hN [0, 1, 2, 3, 4, 5, 6, 7, 8, 9, 10, 11, 12, 13, 14, 15, 16] rfl (by decide) 0 (ci := 10) rfl rfl _) rfl rfl hl.1 rfl (lv_room (Nat.le_of_ble_eq_true rfl)) dX10_ledWord_10 ⟨Nat.zero_le _, Nat.zero_le _⟩) (fun r_10 u_9 H locs hw hP hD hS => ?_)
  obtain ⟨q19_11, hf_12, rfl⟩ := hw
  have hP : va_P (dC, dI) vwCl (rW h cs I L (va_up (va_up A 17 a17_3) 18 a18_4) (va_up Q 19 q19_11)) H := hP
  have hD : va_D A0 (rW h cs I L (va_up (va_up A 17 a17_3) 18 a18_4) (va_up Q 19 q19_11)) := hD
  obtain rfl := hf_12
  refine lv_lconst (v := 0) hx hb dX10_ledWord_13 rfl ?_
  refine xl_ne (tgt := 21) hx hb dX10_ledWord_14 dX10_ledWord_15 (by decide) (fun c_14_12 => ?_) (fun c_14_12 => ?_)
  · skip
    have hwz : ¬ worthF a17_3 M (nI (2 ^ M - 1)) = 0 := c_14_12
    refine lv_aload_n hx hb dX10_ledWord_21 rfl (lv_at hl 1 rfl) ?_
    refine xj_v (wc := (rW h cs I L (va_up (va_up A 17 a17_3) 18 a18_4) (va_up Q 19 q19_11))) (wr := ([] : va_W)) hP hD hS hA [0, 1, 2, 3, 4, 5, 6, 7, 8, 9, 10, 11, 12, 13, 14, 15, 16] [] rfl rfl (by decide +kernel) (by decide +kernel) (va_runV (As := []) (rest := []) ⟨hx, hb, hml, hown, hts⟩ (k_X10_meetHeard l dC dI h cs H.size I L (va_up (va_up A 17 a17_3) 18 a18_4) (va_up Q 19 q19_11) R hR (by first | assumption | omega | exact hR1) (by first | assumption | omega | exact hR5)) (cwV 0 hts gX10_ledWord_X10_meetHeard rfl rfl rfl (by decide +kernel) ⟨Nat.le_of_ble_eq_true rfl, Nat.le_of_ble_eq_true rfl⟩) (xpV (wc := (rW h cs I L (va_up (va_up A 17 a17_3) 18 a18_4) (va_up Q 19 q19_11))) hP hD hK hN [0, 1, 2, 3, 4, 5, 6, 7, 8, 9, 10, 11, 12, 13, 14, 15, 16] rfl (by decide) 0 (ci := 10) rfl rfl _) rfl rfl hl.1 rfl (lv_room (Nat.le_of_ble_eq_true rfl)) dX10_ledWord_22 ⟨Nat.zero_le _, Nat.zero_le _⟩) (fun u_14 H locs hw hP hD hS => ?_)
    obtain ⟨f20_16, hf_17, rfl⟩ := hw
    have hP : va_P (dC, dI) vwCl (rW h cs I L (va_up (va_up (va_up A 17 a17_3) 18 a18_4) 20 f20_16) (va_up Q 19 q19_11)) H := hP
    have hD : va_D A0 (rW h cs I L (va_up (va_up (va_up A 17 a17_3) 18 a18_4) 20 f20_16) (va_up Q 19 q19_11)) := hD
    refine lv_iconst (v := nI 0) hx hb dX10_ledWord_25 (by decide) ?_
    refine lv_istore_n (lv' := [(2, .int (nI 0)), (1, .int r_2), (0, .ref (h 0))]) hx hb dX10_ledWord_26 rfl hl (by decide) rfl (fun ls hl => ?_)
    have cut_27 : ∀ (nf : Nat) (n : Nat) (me : Nat → Int32), (R - n) < nf → (n ≤ R) → ∀ (H : Heap) (locs : List Loc) (ls : Array Slot), va_P (dC, dI) vwCl (rW h cs I L (va_up (va_up (va_up A 17 a17_3) 18 a18_4) 20 me) (va_up Q 19 q19_11)) H → va_D A0 (rW h cs I L (va_up (va_up (va_up A 17 a17_3) 18 a18_4) 20 me) (va_up Q 19 q19_11)) → va_S A0 s.heap H locs → lv_has ls 9 [(0, .ref (h 0)), (1, .int r_2), (2, .int (nI n))] → W p l e (headSpec wsX10_ledWord ({ frames := 3, cells := 0, slots := 0, locals := 79 })).room s m ([.ref (h 0)] : List Value).toArray below meth c H locs 0 0 (MQ below (va_Qi (fun (r : Int32) (u : RS) => ∃ l21 : Int64, ∃ l22 : Int64, ∃ a17 : Nat → Int32, ∃ a18 : Nat → Int32, ∃ a20 : Nat → Int32, ∃ a23 : Nat → Int32, ∃ q19 : Nat → Int64, ∃ q24 : Nat → Int64, (True) ∧ u = (I, (va_up (va_up L 21 l21) 22 l22), (va_up (va_up (va_up (va_up A 17 a17) 18 a18) 20 a20) 23 a23), (va_up (va_up Q 19 q19) 24 q24))) (xB (dC, dI) (tysA cs) A0 (fun u : RS => rW h cs u.1 u.2.1 u.2.2.1 u.2.2.2)) A0) ([.ref (h 0)] : List Value).toArray s 0 0 A0) (F0 m 27 ls []) := by
      intro nf
      induction nf with
      | zero => intro n me hm; exact absurd hm (Nat.not_lt_zero _)
      | succ nf ih_27 =>
        intro n me hm_27 hn27 H locs ls hP hD hS hl
        refine lv_iload_n hx hb dX10_ledWord_27 rfl (lv_at hl 2 rfl) ?_
        refine lv_aload_n hx hb dX10_ledWord_28 rfl (lv_at hl 0 rfl) ?_
        refine va_get (D := (dC, dI)) (ci := 10) (v := .int (I 0)) (C := RX10) (T := TX10) (N := 28) hx hb hts hinX10 hown hK hP 0 rfl rfl 0 (by decide) (hts (.fieldLink RX10 7 "MixedWordsModel" "rows" "I") (by decide +kernel)) (fun _ h9 => h9) rfl dX10_ledWord_29 ?_
        refine xt_i (y := nI R) (hR) ?_
        refine xn_ge (tgt := 83) hx hb dX10_ledWord_32 (by decide) (by omega) (by omega) (fun c_32_17 => ?_) (fun c_32_17 => ?_)
        · skip
          refine lv_iconst (v := nI 0) hx hb dX10_ledWord_83 (by decide) ?_
          refine lv_istore_n (lv' := [(2, .int (nI 0)), (0, .ref (h 0)), (1, .int r_2)]) hx hb dX10_ledWord_84 rfl hl (by decide) rfl (fun ls hl => ?_)
          have cut_85 : ∀ (nf : Nat) (c1 : Nat) (y21 : Int64) (y22 : Int64) (q9 : Nat → Int64) (w9 : Nat → Int64), (M - c1) < nf → (c1 ≤ M) → ∀ (H : Heap) (locs : List Loc) (ls : Array Slot), va_P (dC, dI) vwCl (rW h cs I (va_up (va_up L 21 y21) 22 y22) (va_up (va_up (va_up A 17 a17_3) 18 a18_4) 20 me) (va_up (va_up Q 19 q9) 24 w9)) H → va_D A0 (rW h cs I (va_up (va_up L 21 y21) 22 y22) (va_up (va_up (va_up A 17 a17_3) 18 a18_4) 20 me) (va_up (va_up Q 19 q9) 24 w9)) → va_S A0 s.heap H locs → lv_has ls 9 [(0, .ref (h 0)), (1, .int r_2), (2, .int (nI c1))] → W p l e (headSpec wsX10_ledWord ({ frames := 3, cells := 0, slots := 0, locals := 79 })).room s m ([.ref (h 0)] : List Value).toArray below meth c H locs 0 0 (MQ below (va_Qi (fun (r : Int32) (u : RS) => ∃ l21 : Int64, ∃ l22 : Int64, ∃ a17 : Nat → Int32, ∃ a18 : Nat → Int32, ∃ a20 : Nat → Int32, ∃ a23 : Nat → Int32, ∃ q19 : Nat → Int64, ∃ q24 : Nat → Int64, (True) ∧ u = (I, (va_up (va_up L 21 l21) 22 l22), (va_up (va_up (va_up (va_up A 17 a17) 18 a18) 20 a20) 23 a23), (va_up (va_up Q 19 q19) 24 q24))) (xB (dC, dI) (tysA cs) A0 (fun u : RS => rW h cs u.1 u.2.1 u.2.2.1 u.2.2.2)) A0) ([.ref (h 0)] : List Value).toArray s 0 0 A0) (F0 m 85 ls []) := by
            intro nf
            induction nf with
            | zero => intro c1 y21 y22 q9 w9 hm; exact absurd hm (Nat.not_lt_zero _)
            | succ nf ih_85 =>
              intro c1 y21 y22 q9 w9 hm_85 hc85 H locs ls hP hD hS hl
              refine lv_iload_n hx hb dX10_ledWord_85 rfl (lv_at hl 2 rfl) ?_
              refine lv_aload_n hx hb dX10_ledWord_86 rfl (lv_at hl 0 rfl) ?_
              refine va_get (D := (dC, dI)) (ci := 10) (v := .int (I 1)) (C := RX10) (T := TX10) (N := 28) hx hb hts hinX10 hown hK hP 0 rfl rfl 1 (by decide) (hts (.fieldLink RX10 13 "MixedWordsModel" "columns" "I") (by decide +kernel)) (fun _ h9 => h9) rfl dX10_ledWord_87 ?_
              refine xt_i (y := nI M) (hM) ?_
              refine xn_ge (tgt := 156) hx hb dX10_ledWord_90 (by decide) (by omega) (by omega) (fun c_90_18 => ?_) (fun c_90_18 => ?_)
              · skip
                refine lv_iconst (v := nI 0) hx hb dX10_ledWord_156 (by decide) ?_
                refine lv_istore_n (lv' := [(2, .int (nI 0)), (0, .ref (h 0)), (1, .int r_2)]) hx hb dX10_ledWord_157 rfl hl (by decide) rfl (fun ls hl => ?_)
                have cut_158 : ∀ (nf : Nat) (c2 : Nat) (le : Nat → Int32), (M - c2) < nf → (c2 ≤ M) → ∀ (H : Heap) (locs : List Loc) (ls : Array Slot), va_P (dC, dI) vwCl (rW h cs I (va_up (va_up L 21 y21) 22 y22) (va_up (va_up (va_up (va_up A 17 a17_3) 18 a18_4) 20 me) 23 le) (va_up (va_up Q 19 q9) 24 w9)) H → va_D A0 (rW h cs I (va_up (va_up L 21 y21) 22 y22) (va_up (va_up (va_up (va_up A 17 a17_3) 18 a18_4) 20 me) 23 le) (va_up (va_up Q 19 q9) 24 w9)) → va_S A0 s.heap H locs → lv_has ls 9 [(0, .ref (h 0)), (1, .int r_2), (2, .int (nI c2))] → W p l e (headSpec wsX10_ledWord ({ frames := 3, cells := 0, slots := 0, locals := 79 })).room s m ([.ref (h 0)] : List Value).toArray below meth c H locs 0 0 (MQ below (va_Qi (fun (r : Int32) (u : RS) => ∃ l21 : Int64, ∃ l22 : Int64, ∃ a17 : Nat → Int32, ∃ a18 : Nat → Int32, ∃ a20 : Nat → Int32, ∃ a23 : Nat → Int32, ∃ q19 : Nat → Int64, ∃ q24 : Nat → Int64, (True) ∧ u = (I, (va_up (va_up L 21 l21) 22 l22), (va_up (va_up (va_up (va_up A 17 a17) 18 a18) 20 a20) 23 a23), (va_up (va_up Q 19 q19) 24 q24))) (xB (dC, dI) (tysA cs) A0 (fun u : RS => rW h cs u.1 u.2.1 u.2.2.1 u.2.2.2)) A0) ([.ref (h 0)] : List Value).toArray s 0 0 A0) (F0 m 158 ls []) := by
                  intro nf
                  induction nf with
                  | zero => intro c2 le hm; exact absurd hm (Nat.not_lt_zero _)
                  | succ nf ih_158 =>
                    intro c2 le hm_158 hc158 H locs ls hP hD hS hl
                    refine lv_iload_n hx hb dX10_ledWord_158 rfl (lv_at hl 2 rfl) ?_
                    refine lv_aload_n hx hb dX10_ledWord_159 rfl (lv_at hl 0 rfl) ?_
                    refine va_get (D := (dC, dI)) (ci := 10) (v := .int (I 1)) (C := RX10) (T := TX10) (N := 28) hx hb hts hinX10 hown hK hP 0 rfl rfl 1 (by decide) (hts (.fieldLink RX10 13 "MixedWordsModel" "columns" "I") (by decide +kernel)) (fun _ h9 => h9) rfl dX10_ledWord_160 ?_
                    refine xt_i (y := nI M) (hM) ?_
                    refine xn_ge (tgt := 283) hx hb dX10_ledWord_163 (by decide) (by omega) (by omega) (fun c_163_19 => ?_) (fun c_163_19 => ?_)
                    · skip
                      refine lv_aload_n hx hb dX10_ledWord_283 rfl (lv_at hl 0 rfl) ?_
                      refine lv_aload_n hx hb dX10_ledWord_284 rfl (lv_at hl 0 rfl) ?_
                      refine va_get (D := (dC, dI)) (ci := 10) (v := .ref (h 23)) (C := RX10) (T := TX10) (N := 28) hx hb hts hinX10 hown hK hP 0 rfl rfl 23 (by decide) (hts (.fieldLink RX10 54 "MixedWordsModel" "letters" "[I") (by decide +kernel)) (fun _ h9 => h9) rfl dX10_ledWord_285 ?_
                      refine xj_i (wc := (rW h cs I (va_up (va_up L 21 y21) 22 y22) (va_up (va_up (va_up (va_up A 17 a17_3) 18 a18_4) 20 me) 23 le) (va_up (va_up Q 19 q9) 24 w9))) (wr := ([] : va_W)) hP hD hS hA [0, 1, 2, 3, 4, 5, 6, 7, 8, 9, 10, 11, 12, 13, 14, 15, 16] [] rfl rfl (by decide +kernel) (by decide +kernel) (va_runV (As := [.ref (h 23)]) (rest := []) ⟨hx, hb, hml, hown, hts⟩ (k_X10_numberOf l dC dI h cs H.size I (va_up (va_up L 21 y21) 22 y22) (va_up (va_up (va_up (va_up A 17 a17_3) 18 a18_4) 20 me) 23 le) (va_up (va_up Q 19 q9) 24 w9) M a hM (by first | assumption | omega | exact hM1) (by first | assumption | omega | exact hM4) ha (by first | assumption | omega | exact ha2)) (cwV 1 hts gX10_ledWord_X10_numberOf rfl rfl rfl (by decide +kernel) ⟨Nat.le_of_ble_eq_true rfl, Nat.le_of_ble_eq_true rfl⟩) (xpV (wc := (rW h cs I (va_up (va_up L 21 y21) 22 y22) (va_up (va_up (va_up (va_up A 17 a17_3) 18 a18_4) 20 me) 23 le) (va_up (va_up Q 19 q9) 24 w9))) hP hD hK hN [0, 1, 2, 3, 4, 5, 6, 7, 8, 9, 10, 11, 12, 13, 14, 15, 16] rfl (by decide) 0 (ci := 10) rfl rfl _) rfl rfl hl.1 rfl (lv_room (Nat.le_of_ble_eq_true rfl)) dX10_ledWord_288 ⟨Nat.zero_le _, Nat.zero_le _⟩) (fun r_22 u_21 H locs hw hP hD hS => ?_)
                      obtain ⟨hf_23, rfl⟩ := hw
                      have hP : va_P (dC, dI) vwCl (rW h cs I (va_up (va_up L 21 y21) 22 y22) (va_up (va_up (va_up (va_up A 17 a17_3) 18 a18_4) 20 me) 23 le) (va_up (va_up Q 19 q9) 24 w9)) H := hP
                      have hD : va_D A0 (rW h cs I (va_up (va_up L 21 y21) 22 y22) (va_up (va_up (va_up (va_up A 17 a17_3) 18 a18_4) 20 me) 23 le) (va_up (va_up Q 19 q9) 24 w9)) := hD
                      obtain rfl := hf_23
                      exact xr_i (v := (numF le a M)) hx hb hr hlocks hK hS dX10_ledWord_291 (I, (va_up (va_up L 21 y21) 22 y22), (va_up (va_up (va_up (va_up A 17 a17_3) 18 a18_4) 20 me) 23 le), (va_up (va_up Q 19 q9) 24 w9)) ⟨y21, y22, a17_3, a18_4, me, le, q9, w9, trivial, rfl⟩ hP hD
                    · skip
                      refine lv_lconst (v := 0) hx hb dX10_ledWord_166 rfl ?_
                      refine lv_lstore_n (lv' := [(3, .long (0 : Int64)), (0, .ref (h 0)), (1, .int r_2), (2, .int (nI c2))]) hx hb dX10_ledWord_167 rfl hl (by decide) rfl (fun ls hl => ?_)
                      refine lv_iconst (v := nI 0) hx hb dX10_ledWord_168 (by decide) ?_
                      refine lv_istore (lv' := [(5, .int (nI 0)), (3, .long (0 : Int64)), (0, .ref (h 0)), (1, .int r_2), (2, .int (nI c2))]) hx hb dX10_ledWord_169 hl (by decide) rfl (fun ls hl => ?_)
                      have cut_171 : ∀ (nf : Nat) (c5 : Nat) (z3 : Int64), (M - c5) < nf → (c5 ≤ M) → ∀ (H : Heap) (locs : List Loc) (ls : Array Slot), va_P (dC, dI) vwCl (rW h cs I (va_up (va_up L 21 y21) 22 y22) (va_up (va_up (va_up (va_up A 17 a17_3) 18 a18_4) 20 me) 23 le) (va_up (va_up Q 19 q9) 24 w9)) H → va_D A0 (rW h cs I (va_up (va_up L 21 y21) 22 y22) (va_up (va_up (va_up (va_up A 17 a17_3) 18 a18_4) 20 me) 23 le) (va_up (va_up Q 19 q9) 24 w9)) → va_S A0 s.heap H locs → lv_has ls 9 [(0, .ref (h 0)), (1, .int r_2), (2, .int (nI c2)), (3, .long z3), (5, .int (nI c5))] → W p l e (headSpec wsX10_ledWord ({ frames := 3, cells := 0, slots := 0, locals := 79 })).room s m ([.ref (h 0)] : List Value).toArray below meth c H locs 0 0 (MQ below (va_Qi (fun (r : Int32) (u : RS) => ∃ l21 : Int64, ∃ l22 : Int64, ∃ a17 : Nat → Int32, ∃ a18 : Nat → Int32, ∃ a20 : Nat → Int32, ∃ a23 : Nat → Int32, ∃ q19 : Nat → Int64, ∃ q24 : Nat → Int64, (True) ∧ u = (I, (va_up (va_up L 21 l21) 22 l22), (va_up (va_up (va_up (va_up A 17 a17) 18 a18) 20 a20) 23 a23), (va_up (va_up Q 19 q19) 24 q24))) (xB (dC, dI) (tysA cs) A0 (fun u : RS => rW h cs u.1 u.2.1 u.2.2.1 u.2.2.2)) A0) ([.ref (h 0)] : List Value).toArray s 0 0 A0) (F0 m 171 ls []) := by
                        intro nf
                        induction nf with
                        | zero => intro c5 z3 hm; exact absurd hm (Nat.not_lt_zero _)
                        | succ nf ih_171 =>
                          intro c5 z3 hm_171 hc171 H locs ls hP hD hS hl
                          refine lv_iload hx hb dX10_ledWord_171 (lv_at hl 4 rfl) ?_
                          refine lv_aload_n hx hb dX10_ledWord_173 rfl (lv_at hl 0 rfl) ?_
                          refine va_get (D := (dC, dI)) (ci := 10) (v := .int (I 1)) (C := RX10) (T := TX10) (N := 28) hx hb hts hinX10 hown hK hP 0 rfl rfl 1 (by decide) (hts (.fieldLink RX10 13 "MixedWordsModel" "columns" "I") (by decide +kernel)) (fun _ h9 => h9) rfl dX10_ledWord_174 ?_
                          refine xt_i (y := nI M) (hM) ?_
                          refine xn_ge (tgt := 209) hx hb dX10_ledWord_177 (by decide) (by omega) (by omega) (fun c_177_23 => ?_) (fun c_177_23 => ?_)
                          · skip
                            refine lv_ldc2 (v := 2) hx hb hown (hts (.constantLong RX10 233 (2)) (by decide +kernel)) dX10_ledWord_209 ?_
                            refine lv_lload_n hx hb dX10_ledWord_212 rfl (lv_at hl 3 rfl) ?_
                            refine lv_lmul hx hb dX10_ledWord_213 ?_
                            refine lv_aload_n hx hb dX10_ledWord_214 rfl (lv_at hl 0 rfl) ?_
                            refine va_get (D := (dC, dI)) (ci := 10) (v := .int (I 2)) (C := RX10) (T := TX10) (N := 28) hx hb hts hinX10 hown hK hP 0 rfl rfl 2 (by decide) (hts (.fieldLink RX10 16 "MixedWordsModel" "a" "I") (by decide +kernel)) (fun _ h9 => h9) rfl dX10_ledWord_215 ?_
                            refine xt_i (y := nI a) (ha) ?_
                            refine lv_i2l (v := (nI a).toInt64) hx hb dX10_ledWord_218 rfl ?_
                            refine lv_lsub hx hb dX10_ledWord_219 ?_
                            refine lv_lconst (v := 1) hx hb dX10_ledWord_220 rfl ?_
                            refine lv_ladd hx hb dX10_ledWord_221 ?_
                            refine lv_topl (fun x_25 ex_25 => ?_)
                            refine lv_lstore (lv' := [(5, .long x_25), (0, .ref (h 0)), (1, .int r_2), (2, .int (nI c2)), (3, .long z3)]) hx hb dX10_ledWord_222 hl (by decide) rfl (fun ls hl => ?_)
                            refine lv_aload_n hx hb dX10_ledWord_224 rfl (lv_at hl 1 rfl) ?_
                            refine va_get (D := (dC, dI)) (ci := 10) (v := .ref (h 23)) (C := RX10) (T := TX10) (N := 28) hx hb hts hinX10 hown hK hP 0 rfl rfl 23 (by decide) (hts (.fieldLink RX10 54 "MixedWordsModel" "letters" "[I") (by decide +kernel)) (fun _ h9 => h9) rfl dX10_ledWord_225 ?_
                            refine lv_iload_n hx hb dX10_ledWord_228 rfl (lv_at hl 3 rfl) ?_
                            refine lv_lload hx hb dX10_ledWord_229 (lv_at hl 0 rfl) ?_
                            refine lv_iconst (v := nI 1) hx hb dX10_ledWord_231 (by decide) ?_
                            refine lv_aload_n hx hb dX10_ledWord_232 rfl (lv_at hl 1 rfl) ?_
                            refine va_get (D := (dC, dI)) (ci := 10) (v := .int (I 2)) (C := RX10) (T := TX10) (N := 28) hx hb hts hinX10 hown hK hP 0 rfl rfl 2 (by decide) (hts (.fieldLink RX10 16 "MixedWordsModel" "a" "I") (by decide +kernel)) (fun _ h9 => h9) rfl dX10_ledWord_233 ?_
                            refine xt_i (y := nI a) (ha) ?_
                            refine lv_isub hx hb dX10_ledWord_236 ?_
                            refine lv_i2l (v := ((nI 1) - (nI a)).toInt64) hx hb dX10_ledWord_237 rfl ?_
                            refine xl_ge (tgt := 251) hx hb dX10_ledWord_238 dX10_ledWord_239 (by decide) (fun c_238_25 => ?_) (fun c_238_25 => ?_)
                            · skip
                              refine lv_lload hx hb dX10_ledWord_251 (lv_at hl 0 rfl) ?_
                              refine lv_aload_n hx hb dX10_ledWord_253 rfl (lv_at hl 1 rfl) ?_
                              refine va_get (D := (dC, dI)) (ci := 10) (v := .int (I 2)) (C := RX10) (T := TX10) (N := 28) hx hb hts hinX10 hown hK hP 0 rfl rfl 2 (by decide) (hts (.fieldLink RX10 16 "MixedWordsModel" "a" "I") (by decide +kernel)) (fun _ h9 => h9) rfl dX10_ledWord_254 ?_
                              refine xt_i (y := nI a) (ha) ?_
                              refine lv_iconst (v := nI 1) hx hb dX10_ledWord_257 (by decide) ?_
                              refine lv_isub hx hb dX10_ledWord_258 ?_
                              refine xt_i (y := nI (a - 1)) (pk_sub (by omega)) ?_
                              refine lv_i2l (v := (nI (a - 1)).toInt64) hx hb dX10_ledWord_259 rfl ?_
                              refine xl_le (tgt := 273) hx hb dX10_ledWord_260 dX10_ledWord_261 (by decide) (fun c_260_26 => ?_) (fun c_260_26 => ?_)
                              · skip
                                refine lv_lload hx hb dX10_ledWord_273 (lv_at hl 0 rfl) ?_
                                refine lv_l2i (v := x_25.toInt32) hx hb dX10_ledWord_275 rfl ?_
                                refine xa_iast hx hb hK hP hD hS 12 0 rfl rfl (by omega) (by decide) dX10_ledWord_276 (fun H locs hP hD hS => ?_)
                                have hP : va_P (dC, dI) vwCl (rW h cs I (va_up (va_up L 21 y21) 22 y22) (va_up (va_up (va_up (va_up A 17 a17_3) 18 a18_4) 20 me) 23 (upd le c2 x_25.toInt32)) (va_up (va_up Q 19 q9) 24 w9)) H := hP
                                have hD : va_D A0 (rW h cs I (va_up (va_up L 21 y21) 22 y22) (va_up (va_up (va_up (va_up A 17 a17_3) 18 a18_4) 20 me) 23 (upd le c2 x_25.toInt32)) (va_up (va_up Q 19 q9) 24 w9)) := hD
                                refine lv_iinc (v := nI (c2 + 1)) (lv' := [(2, .int (nI (c2 + 1))), (5, .long x_25), (0, .ref (h 0)), (1, .int r_2), (3, .long z3)]) hx hb dX10_ledWord_277 hl (k := 3) rfl (nI_1 _) (by decide) rfl (fun ls hl => ?_)
                                refine lv_goto (tgt := 158) hx hb dX10_ledWord_280 (by decide) ?_
                                exact ih_158 (c2 + 1) (upd le c2 x_25.toInt32) (by omega) (by first | assumption | omega) _ _ _ hP hD hS (lv_sub hl [2, 3, 0] rfl)
                              · skip
                                refine lv_aload_n hx hb dX10_ledWord_264 rfl (lv_at hl 1 rfl) ?_
                                refine va_get (D := (dC, dI)) (ci := 10) (v := .int (I 2)) (C := RX10) (T := TX10) (N := 28) hx hb hts hinX10 hown hK hP 0 rfl rfl 2 (by decide) (hts (.fieldLink RX10 16 "MixedWordsModel" "a" "I") (by decide +kernel)) (fun _ h9 => h9) rfl dX10_ledWord_265 ?_
                                refine xt_i (y := nI a) (ha) ?_
                                refine lv_iconst (v := nI 1) hx hb dX10_ledWord_268 (by decide) ?_
                                refine lv_isub hx hb dX10_ledWord_269 ?_
                                refine xt_i (y := nI (a - 1)) (pk_sub (by omega)) ?_
                                refine lv_goto (tgt := 276) hx hb dX10_ledWord_270 (by decide) ?_
                                refine xa_iast hx hb hK hP hD hS 12 0 rfl rfl (by omega) (by decide) dX10_ledWord_276 (fun H locs hP hD hS => ?_)
                                have hP : va_P (dC, dI) vwCl (rW h cs I (va_up (va_up L 21 y21) 22 y22) (va_up (va_up (va_up (va_up A 17 a17_3) 18 a18_4) 20 me) 23 (upd le c2 (nI (a - 1)))) (va_up (va_up Q 19 q9) 24 w9)) H := hP
                                have hD : va_D A0 (rW h cs I (va_up (va_up L 21 y21) 22 y22) (va_up (va_up (va_up (va_up A 17 a17_3) 18 a18_4) 20 me) 23 (upd le c2 (nI (a - 1)))) (va_up (va_up Q 19 q9) 24 w9)) := hD
                                refine lv_iinc (v := nI (c2 + 1)) (lv' := [(2, .int (nI (c2 + 1))), (5, .long x_25), (0, .ref (h 0)), (1, .int r_2), (3, .long z3)]) hx hb dX10_ledWord_277 hl (k := 3) rfl (nI_1 _) (by decide) rfl (fun ls hl => ?_)
                                refine lv_goto (tgt := 158) hx hb dX10_ledWord_280 (by decide) ?_
                                exact ih_158 (c2 + 1) (upd le c2 (nI (a - 1))) (by omega) (by first | assumption | omega) _ _ _ hP hD hS (lv_sub hl [2, 3, 0] rfl)
                            · skip
                              refine lv_iconst (v := nI 1) hx hb dX10_ledWord_242 (by decide) ?_
                              refine lv_aload_n hx hb dX10_ledWord_243 rfl (lv_at hl 1 rfl) ?_
                              refine va_get (D := (dC, dI)) (ci := 10) (v := .int (I 2)) (C := RX10) (T := TX10) (N := 28) hx hb hts hinX10 hown hK hP 0 rfl rfl 2 (by decide) (hts (.fieldLink RX10 16 "MixedWordsModel" "a" "I") (by decide +kernel)) (fun _ h9 => h9) rfl dX10_ledWord_244 ?_
                              refine xt_i (y := nI a) (ha) ?_
                              refine lv_isub hx hb dX10_ledWord_247 ?_
                              refine lv_goto (tgt := 276) hx hb dX10_ledWord_248 (by decide) ?_
                              refine xa_iast hx hb hK hP hD hS 12 0 rfl rfl (by omega) (by decide) dX10_ledWord_276 (fun H locs hP hD hS => ?_)
                              have hP : va_P (dC, dI) vwCl (rW h cs I (va_up (va_up L 21 y21) 22 y22) (va_up (va_up (va_up (va_up A 17 a17_3) 18 a18_4) 20 me) 23 (upd le c2 ((nI 1) - (nI a)))) (va_up (va_up Q 19 q9) 24 w9)) H := hP
                              have hD : va_D A0 (rW h cs I (va_up (va_up L 21 y21) 22 y22) (va_up (va_up (va_up (va_up A 17 a17_3) 18 a18_4) 20 me) 23 (upd le c2 ((nI 1) - (nI a)))) (va_up (va_up Q 19 q9) 24 w9)) := hD
                              refine lv_iinc (v := nI (c2 + 1)) (lv' := [(2, .int (nI (c2 + 1))), (5, .long x_25), (0, .ref (h 0)), (1, .int r_2), (3, .long z3)]) hx hb dX10_ledWord_277 hl (k := 3) rfl (nI_1 _) (by decide) rfl (fun ls hl => ?_)
                              refine lv_goto (tgt := 158) hx hb dX10_ledWord_280 (by decide) ?_
                              exact ih_158 (c2 + 1) (upd le c2 ((nI 1) - (nI a))) (by omega) (by first | assumption | omega) _ _ _ hP hD hS (lv_sub hl [2, 3, 0] rfl)
                          · skip
                            refine lv_lload_n hx hb dX10_ledWord_180 rfl (lv_at hl 3 rfl) ?_
                            refine lv_aload_n hx hb dX10_ledWord_181 rfl (lv_at hl 0 rfl) ?_
                            refine va_get (D := (dC, dI)) (ci := 10) (v := .ref (h 18)) (C := RX10) (T := TX10) (N := 28) hx hb hts hinX10 hown hK hP 0 rfl rfl 18 (by decide) (hts (.fieldLink RX10 44 "MixedWordsModel" "trans" "[I") (by decide +kernel)) (fun _ h9 => h9) rfl dX10_ledWord_182 ?_
                            refine lv_iconst (v := nI 4) hx hb dX10_ledWord_185 (by decide) ?_
                            refine lv_iload_n hx hb dX10_ledWord_186 rfl (lv_at hl 2 rfl) ?_
                            refine lv_imul hx hb dX10_ledWord_187 ?_
                            refine xt_i (y := nI (4 * c2)) (pk_mul _ _) ?_
                            refine lv_iload hx hb dX10_ledWord_188 (lv_at hl 4 rfl) ?_
                            refine lv_iadd hx hb dX10_ledWord_190 ?_
                            refine xt_i (y := nI ((4 * c2) + c5)) (nI_add _ _) ?_
                            refine xa_iald hx hb hK hP 9 0 rfl rfl (by omega) (by decide) dX10_ledWord_191 ?_
                            refine lv_i2l (v := (a18_4 ((4 * c2) + c5)).toInt64) hx hb dX10_ledWord_192 rfl ?_
                            refine lv_aload_n hx hb dX10_ledWord_193 rfl (lv_at hl 0 rfl) ?_
                            refine va_get (D := (dC, dI)) (ci := 10) (v := .ref (h 24)) (C := RX10) (T := TX10) (N := 28) hx hb hts hinX10 hown hK hP 0 rfl rfl 24 (by decide) (hts (.fieldLink RX10 57 "MixedWordsModel" "wholes" "[J") (by decide +kernel)) (fun _ h9 => h9) rfl dX10_ledWord_194 ?_
                            refine lv_iload hx hb dX10_ledWord_197 (lv_at hl 4 rfl) ?_
                            refine xa_lald hx hb hK hP 13 1 rfl rfl (by omega) (by decide) dX10_ledWord_199 ?_
                            refine lv_lmul hx hb dX10_ledWord_200 ?_
                            refine lv_ladd hx hb dX10_ledWord_201 ?_
                            refine lv_topl (fun x_28 ex_28 => ?_)
                            refine lv_lstore_n (lv' := [(3, .long x_28), (0, .ref (h 0)), (1, .int r_2), (2, .int (nI c2)), (5, .int (nI c5))]) hx hb dX10_ledWord_202 rfl hl (by decide) rfl (fun ls hl => ?_)
                            refine lv_iinc (v := nI (c5 + 1)) (lv' := [(5, .int (nI (c5 + 1))), (3, .long x_28), (0, .ref (h 0)), (1, .int r_2), (2, .int (nI c2))]) hx hb dX10_ledWord_203 hl (k := 4) rfl (nI_1 _) (by decide) rfl (fun ls hl => ?_)
                            refine lv_goto (tgt := 171) hx hb dX10_ledWord_206 (by decide) ?_
                            exact ih_171 (c5 + 1) x_28 (by omega) (by first | assumption | omega) _ _ _ hP hD hS (lv_sub hl [2, 3, 4, 1, 0] rfl)
                      exact cut_171 _ 0 (0 : Int64) (Nat.lt_succ_self _) (by first | assumption | omega) _ _ _ hP hD hS (lv_sub hl [2, 3, 4, 1, 0] rfl)
                exact cut_158 _ 0 (A 23) (Nat.lt_succ_self _) (by first | assumption | omega) _ _ _ hP hD hS (lv_sub hl [1, 2, 0] rfl)
              · skip
                refine lv_aload_n hx hb dX10_ledWord_93 rfl (lv_at hl 0 rfl) ?_
                refine lv_iload_n hx hb dX10_ledWord_94 rfl (lv_at hl 2 rfl) ?_
                refine xj_v (wc := (rW h cs I (va_up (va_up L 21 y21) 22 y22) (va_up (va_up (va_up A 17 a17_3) 18 a18_4) 20 me) (va_up (va_up Q 19 q9) 24 w9))) (wr := ([] : va_W)) hP hD hS hA [0, 1, 2, 3, 4, 5, 6, 7, 8, 9, 10, 11, 12, 13, 14, 15, 16] [] rfl rfl (by decide +kernel) (by decide +kernel) (va_runV (As := [.int (nI c1)]) (rest := []) ⟨hx, hb, hml, hown, hts⟩ (k_X10_fractionOf l dC dI h cs H.size I (va_up (va_up L 21 y21) 22 y22) (va_up (va_up (va_up A 17 a17_3) 18 a18_4) 20 me) (va_up (va_up Q 19 q9) 24 w9) c1 M (by first | assumption | omega) hM (by first | assumption | omega | exact hM1) (by first | assumption | omega | exact hM4)) (cwV 1 hts gX10_ledWord_X10_fractionOf rfl rfl rfl (by decide +kernel) ⟨Nat.le_of_ble_eq_true rfl, Nat.le_of_ble_eq_true rfl⟩) (xpV (wc := (rW h cs I (va_up (va_up L 21 y21) 22 y22) (va_up (va_up (va_up A 17 a17_3) 18 a18_4) 20 me) (va_up (va_up Q 19 q9) 24 w9))) hP hD hK hN [0, 1, 2, 3, 4, 5, 6, 7, 8, 9, 10, 11, 12, 13, 14, 15, 16] rfl (by decide) 0 (ci := 10) rfl rfl _) rfl rfl hl.1 rfl (lv_room (Nat.le_of_ble_eq_true rfl)) dX10_ledWord_95 ⟨Nat.zero_le _, Nat.zero_le _⟩) (fun u_29 H locs hw hP hD hS => ?_)
                obtain ⟨x21_31, x22_32, q19_33, hf_34, rfl⟩ := hw
                have hP : va_P (dC, dI) vwCl (rW h cs I (va_up (va_up L 21 x21_31) 22 x22_32) (va_up (va_up (va_up A 17 a17_3) 18 a18_4) 20 me) (va_up (va_up Q 24 w9) 19 q19_33)) H := hP
                have hD : va_D A0 (rW h cs I (va_up (va_up L 21 x21_31) 22 x22_32) (va_up (va_up (va_up A 17 a17_3) 18 a18_4) 20 me) (va_up (va_up Q 24 w9) 19 q19_33)) := hD
                obtain ⟨rfl, rfl⟩ := hf_34
                refine lv_aload_n hx hb dX10_ledWord_98 rfl (lv_at hl 0 rfl) ?_
                refine va_get (D := (dC, dI)) (ci := 10) (v := .long (detM M (fracM a17_3 me c1))) (C := RX10) (T := TX10) (N := 28) hx hb hts hinX10 hown hK hP 0 rfl rfl 21 (by decide) (hts (.fieldLink RX10 194 "MixedWordsModel" "above" "J") (by decide +kernel)) (fun _ h9 => h9) rfl dX10_ledWord_99 ?_
                refine lv_aload_n hx hb dX10_ledWord_102 rfl (lv_at hl 0 rfl) ?_
                refine va_get (D := (dC, dI)) (ci := 10) (v := .long (worthF a17_3 M (nI (2 ^ M - 1)))) (C := RX10) (T := TX10) (N := 28) hx hb hts hinX10 hown hK hP 0 rfl rfl 22 (by decide) (hts (.fieldLink RX10 190 "MixedWordsModel" "below" "J") (by decide +kernel)) (fun _ h9 => h9) rfl dX10_ledWord_103 ?_
                refine lv_ladd hx hb dX10_ledWord_106 ?_
                refine lv_lconst (v := 1) hx hb dX10_ledWord_107 rfl ?_
                refine lv_lsub hx hb dX10_ledWord_108 ?_
                refine lv_topl (fun x_35 ex_35 => ?_)
                refine lv_lstore_n (lv' := [(3, .long x_35), (0, .ref (h 0)), (1, .int r_2), (2, .int (nI c1))]) hx hb dX10_ledWord_109 rfl hl (by decide) rfl (fun ls hl => ?_)
                refine lv_ldc2 (v := 2) hx hb hown (hts (.constantLong RX10 233 (2)) (by decide +kernel)) dX10_ledWord_110 ?_
                refine lv_aload_n hx hb dX10_ledWord_113 rfl (lv_at hl 1 rfl) ?_
                refine va_get (D := (dC, dI)) (ci := 10) (v := .long (worthF a17_3 M (nI (2 ^ M - 1)))) (C := RX10) (T := TX10) (N := 28) hx hb hts hinX10 hown hK hP 0 rfl rfl 22 (by decide) (hts (.fieldLink RX10 190 "MixedWordsModel" "below" "J") (by decide +kernel)) (fun _ h9 => h9) rfl dX10_ledWord_114 ?_
                refine lv_lmul hx hb dX10_ledWord_117 ?_
                refine lv_lstore (lv' := [(5, .long ((2 : Int64) * (worthF a17_3 M (nI (2 ^ M - 1))))), (3, .long x_35), (0, .ref (h 0)), (1, .int r_2), (2, .int (nI c1))]) hx hb dX10_ledWord_118 hl (by decide) rfl (fun ls hl => ?_)
                refine lv_lload_n hx hb dX10_ledWord_120 rfl (lv_at hl 1 rfl) ?_
                refine lv_lload hx hb dX10_ledWord_121 (lv_at hl 0 rfl) ?_
                refine lv_ldiv hx hb dX10_ledWord_123 (two_worth hM1 hM4 hld9 hwz) ?_
                refine lv_topl (fun x_36 ex_36 => ?_)
                refine lv_lstore (lv' := [(7, .long x_36), (5, .long ((2 : Int64) * (worthF a17_3 M (nI (2 ^ M - 1))))), (3, .long x_35), (0, .ref (h 0)), (1, .int r_2), (2, .int (nI c1))]) hx hb dX10_ledWord_124 hl (by decide) rfl (fun ls hl => ?_)
                refine lv_aload_n hx hb dX10_ledWord_126 rfl (lv_at hl 3 rfl) ?_
                refine va_get (D := (dC, dI)) (ci := 10) (v := .ref (h 24)) (C := RX10) (T := TX10) (N := 28) hx hb hts hinX10 hown hK hP 0 rfl rfl 24 (by decide) (hts (.fieldLink RX10 57 "MixedWordsModel" "wholes" "[J") (by decide +kernel)) (fun _ h9 => h9) rfl dX10_ledWord_127 ?_
                refine lv_iload_n hx hb dX10_ledWord_130 rfl (lv_at hl 5 rfl) ?_
                refine lv_lload_n hx hb dX10_ledWord_131 rfl (lv_at hl 2 rfl) ?_
                refine lv_lload hx hb dX10_ledWord_132 (lv_at hl 1 rfl) ?_
                refine lv_lrem hx hb dX10_ledWord_134 (two_worth hM1 hM4 hld9 hwz) ?_
                refine lv_lconst (v := 0) hx hb dX10_ledWord_135 rfl ?_
                refine xl_ge (tgt := 147) hx hb dX10_ledWord_136 dX10_ledWord_137 (by decide) (fun c_136_36 => ?_) (fun c_136_36 => ?_)
                · skip
                  refine lv_lload hx hb dX10_ledWord_147 (lv_at hl 0 rfl) ?_
                  refine xa_last hx hb hK hP hD hS 13 1 rfl rfl (by omega) (by decide) dX10_ledWord_149 (fun H locs hP hD hS => ?_)
                  have hP : va_P (dC, dI) vwCl (rW h cs I (va_up (va_up L 22 (worthF a17_3 M (nI (2 ^ M - 1)))) 21 (detM M (fracM a17_3 me c1))) (va_up (va_up (va_up A 17 a17_3) 18 a18_4) 20 me) (va_up (va_up Q 19 q19_33) 24 (vp_updL w9 c1 x_36))) H := hP
                  have hD : va_D A0 (rW h cs I (va_up (va_up L 22 (worthF a17_3 M (nI (2 ^ M - 1)))) 21 (detM M (fracM a17_3 me c1))) (va_up (va_up (va_up A 17 a17_3) 18 a18_4) 20 me) (va_up (va_up Q 19 q19_33) 24 (vp_updL w9 c1 x_36))) := hD
                  refine lv_iinc (v := nI (c1 + 1)) (lv' := [(2, .int (nI (c1 + 1))), (7, .long x_36), (5, .long ((2 : Int64) * (worthF a17_3 M (nI (2 ^ M - 1))))), (3, .long x_35), (0, .ref (h 0)), (1, .int r_2)]) hx hb dX10_ledWord_150 hl (k := 5) rfl (nI_1 _) (by decide) rfl (fun ls hl => ?_)
                  refine lv_goto (tgt := 85) hx hb dX10_ledWord_153 (by decide) ?_
                  exact ih_85 (c1 + 1) (detM M (fracM a17_3 me c1)) (worthF a17_3 M (nI (2 ^ M - 1))) q19_33 (vp_updL w9 c1 x_36) (by omega) (by first | assumption | omega) _ _ _ hP hD hS (lv_sub hl [4, 5, 0] rfl)
                · skip
                  refine lv_lload hx hb dX10_ledWord_140 (lv_at hl 0 rfl) ?_
                  refine lv_lconst (v := 1) hx hb dX10_ledWord_142 rfl ?_
                  refine lv_lsub hx hb dX10_ledWord_143 ?_
                  refine lv_goto (tgt := 149) hx hb dX10_ledWord_144 (by decide) ?_
                  refine xa_last hx hb hK hP hD hS 13 1 rfl rfl (by omega) (by decide) dX10_ledWord_149 (fun H locs hP hD hS => ?_)
                  have hP : va_P (dC, dI) vwCl (rW h cs I (va_up (va_up L 22 (worthF a17_3 M (nI (2 ^ M - 1)))) 21 (detM M (fracM a17_3 me c1))) (va_up (va_up (va_up A 17 a17_3) 18 a18_4) 20 me) (va_up (va_up Q 19 q19_33) 24 (vp_updL w9 c1 (x_36 - (1 : Int64))))) H := hP
                  have hD : va_D A0 (rW h cs I (va_up (va_up L 22 (worthF a17_3 M (nI (2 ^ M - 1)))) 21 (detM M (fracM a17_3 me c1))) (va_up (va_up (va_up A 17 a17_3) 18 a18_4) 20 me) (va_up (va_up Q 19 q19_33) 24 (vp_updL w9 c1 (x_36 - (1 : Int64))))) := hD
                  refine lv_iinc (v := nI (c1 + 1)) (lv' := [(2, .int (nI (c1 + 1))), (7, .long x_36), (5, .long ((2 : Int64) * (worthF a17_3 M (nI (2 ^ M - 1))))), (3, .long x_35), (0, .ref (h 0)), (1, .int r_2)]) hx hb dX10_ledWord_150 hl (k := 5) rfl (nI_1 _) (by decide) rfl (fun ls hl => ?_)
                  refine lv_goto (tgt := 85) hx hb dX10_ledWord_153 (by decide) ?_
                  exact ih_85 (c1 + 1) (detM M (fracM a17_3 me c1)) (worthF a17_3 M (nI (2 ^ M - 1))) q19_33 (vp_updL w9 c1 (x_36 - (1 : Int64))) (by omega) (by first | assumption | omega) _ _ _ hP hD hS (lv_sub hl [4, 5, 0] rfl)
          exact cut_85 _ 0 (L 21) (L 22) q19_11 (Q 24) (Nat.lt_succ_self _) (by first | assumption | omega) _ _ _ hP hD hS (lv_sub hl [1, 2, 0] rfl)
        · skip
          refine lv_iconst (v := nI 0) hx hb dX10_ledWord_35 (by decide) ?_
          refine lv_istore_n (lv' := [(3, .int (nI 0)), (0, .ref (h 0)), (1, .int r_2), (2, .int (nI n))]) hx hb dX10_ledWord_36 rfl hl (by decide) rfl (fun ls hl => ?_)
          have cut_37 : ∀ (nf : Nat) (k : Nat) (me2 : Nat → Int32), (M - k) < nf → (k ≤ M) → ∀ (H : Heap) (locs : List Loc) (ls : Array Slot), va_P (dC, dI) vwCl (rW h cs I L (va_up (va_up (va_up A 17 a17_3) 18 a18_4) 20 me2) (va_up Q 19 q19_11)) H → va_D A0 (rW h cs I L (va_up (va_up (va_up A 17 a17_3) 18 a18_4) 20 me2) (va_up Q 19 q19_11)) → va_S A0 s.heap H locs → lv_has ls 9 [(0, .ref (h 0)), (1, .int r_2), (2, .int (nI n)), (3, .int (nI k))] → W p l e (headSpec wsX10_ledWord ({ frames := 3, cells := 0, slots := 0, locals := 79 })).room s m ([.ref (h 0)] : List Value).toArray below meth c H locs 0 0 (MQ below (va_Qi (fun (r : Int32) (u : RS) => ∃ l21 : Int64, ∃ l22 : Int64, ∃ a17 : Nat → Int32, ∃ a18 : Nat → Int32, ∃ a20 : Nat → Int32, ∃ a23 : Nat → Int32, ∃ q19 : Nat → Int64, ∃ q24 : Nat → Int64, (True) ∧ u = (I, (va_up (va_up L 21 l21) 22 l22), (va_up (va_up (va_up (va_up A 17 a17) 18 a18) 20 a20) 23 a23), (va_up (va_up Q 19 q19) 24 q24))) (xB (dC, dI) (tysA cs) A0 (fun u : RS => rW h cs u.1 u.2.1 u.2.2.1 u.2.2.2)) A0) ([.ref (h 0)] : List Value).toArray s 0 0 A0) (F0 m 37 ls []) := by
            intro nf
            induction nf with
            | zero => intro k me2 hm; exact absurd hm (Nat.not_lt_zero _)
            | succ nf ih_37 =>
              intro k me2 hm_37 hk37 H locs ls hP hD hS hl
              refine lv_iload_n hx hb dX10_ledWord_37 rfl (lv_at hl 3 rfl) ?_
              refine lv_aload_n hx hb dX10_ledWord_38 rfl (lv_at hl 0 rfl) ?_
              refine va_get (D := (dC, dI)) (ci := 10) (v := .int (I 1)) (C := RX10) (T := TX10) (N := 28) hx hb hts hinX10 hown hK hP 0 rfl rfl 1 (by decide) (hts (.fieldLink RX10 13 "MixedWordsModel" "columns" "I") (by decide +kernel)) (fun _ h9 => h9) rfl dX10_ledWord_39 ?_
              refine xt_i (y := nI M) (hM) ?_
              refine xn_ge (tgt := 77) hx hb dX10_ledWord_42 (by decide) (by omega) (by omega) (fun c_42_37 => ?_) (fun c_42_37 => ?_)
              · skip
                refine lv_iinc (v := nI (n + 1)) (lv' := [(2, .int (nI (n + 1))), (0, .ref (h 0)), (1, .int r_2), (3, .int (nI k))]) hx hb dX10_ledWord_77 hl (k := 2) rfl (nI_1 _) (by decide) rfl (fun ls hl => ?_)
                refine lv_goto (tgt := 27) hx hb dX10_ledWord_80 (by decide) ?_
                exact ih_27 (n + 1) me2 (by omega) (by first | assumption | omega) _ _ _ hP hD hS (lv_sub hl [1, 2, 0] rfl)
              · skip
                refine lv_aload_n hx hb dX10_ledWord_45 rfl (lv_at hl 0 rfl) ?_
                refine va_get (D := (dC, dI)) (ci := 10) (v := .ref (h 20)) (C := RX10) (T := TX10) (N := 28) hx hb hts hinX10 hown hK hP 0 rfl rfl 20 (by decide) (hts (.fieldLink RX10 51 "MixedWordsModel" "met" "[I") (by decide +kernel)) (fun _ h9 => h9) rfl dX10_ledWord_46 ?_
                refine lv_iload_n hx hb dX10_ledWord_49 rfl (lv_at hl 2 rfl) ?_
                refine lv_dup2_11 hx hb dX10_ledWord_50 rfl rfl ?_
                refine xa_iald hx hb hK hP 11 0 rfl rfl (by omega) (by decide) dX10_ledWord_51 ?_
                refine lv_aload_n hx hb dX10_ledWord_52 rfl (lv_at hl 0 rfl) ?_
                refine va_get (D := (dC, dI)) (ci := 10) (v := .int (I 2)) (C := RX10) (T := TX10) (N := 28) hx hb hts hinX10 hown hK hP 0 rfl rfl 2 (by decide) (hts (.fieldLink RX10 16 "MixedWordsModel" "a" "I") (by decide +kernel)) (fun _ h9 => h9) rfl dX10_ledWord_53 ?_
                refine xt_i (y := nI a) (ha) ?_
                refine lv_iconst (v := nI 1) hx hb dX10_ledWord_56 (by decide) ?_
                refine lv_isub hx hb dX10_ledWord_57 ?_
                refine xt_i (y := nI (a - 1)) (pk_sub (by omega)) ?_
                refine lv_aload_n hx hb dX10_ledWord_58 rfl (lv_at hl 0 rfl) ?_
                refine va_get (D := (dC, dI)) (ci := 10) (v := .ref (h 3)) (C := RX10) (T := TX10) (N := 28) hx hb hts hinX10 hown hK hP 0 rfl rfl 3 (by decide) (hts (.fieldLink RX10 19 "MixedWordsModel" "told" "[I") (by decide +kernel)) (fun _ h9 => h9) rfl dX10_ledWord_59 ?_
                refine lv_iconst (v := nI 5) hx hb dX10_ledWord_62 (by decide) ?_
                refine lv_iload_n hx hb dX10_ledWord_63 rfl (lv_at hl 2 rfl) ?_
                refine lv_imul hx hb dX10_ledWord_64 ?_
                refine xt_i (y := nI (5 * n)) (pk_mul _ _) ?_
                refine lv_iload_n hx hb dX10_ledWord_65 rfl (lv_at hl 3 rfl) ?_
                refine lv_iadd hx hb dX10_ledWord_66 ?_
                refine xt_i (y := nI ((5 * n) + k)) (nI_add _ _) ?_
                refine xa_iald hx hb hK hP 1 0 rfl rfl (by omega) (by decide) dX10_ledWord_67 ?_
                refine lv_imul hx hb dX10_ledWord_68 ?_
                refine lv_iadd hx hb dX10_ledWord_69 ?_
                refine xa_iast hx hb hK hP hD hS 11 0 rfl rfl (by omega) (by decide) dX10_ledWord_70 (fun H locs hP hD hS => ?_)
                have hP : va_P (dC, dI) vwCl (rW h cs I L (va_up (va_up (va_up A 17 a17_3) 18 a18_4) 20 (upd me2 n ((me2 n) + ((nI (a - 1)) * (A 3 ((5 * n) + k)))))) (va_up Q 19 q19_11)) H := hP
                have hD : va_D A0 (rW h cs I L (va_up (va_up (va_up A 17 a17_3) 18 a18_4) 20 (upd me2 n ((me2 n) + ((nI (a - 1)) * (A 3 ((5 * n) + k)))))) (va_up Q 19 q19_11)) := hD
                refine lv_iinc (v := nI (k + 1)) (lv' := [(3, .int (nI (k + 1))), (0, .ref (h 0)), (1, .int r_2), (2, .int (nI n))]) hx hb dX10_ledWord_71 hl (k := 3) rfl (nI_1 _) (by decide) rfl (fun ls hl => ?_)
                refine lv_goto (tgt := 37) hx hb dX10_ledWord_74 (by decide) ?_
                exact ih_37 (k + 1) (upd me2 n ((me2 n) + ((nI (a - 1)) * (A 3 ((5 * n) + k))))) (by omega) (by first | assumption | omega) _ _ _ hP hD hS (lv_sub hl [1, 2, 3, 0] rfl)
          exact cut_37 _ 0 me (Nat.lt_succ_self _) (by first | assumption | omega) _ _ _ hP hD hS (lv_sub hl [1, 2, 3, 0] rfl)
    exact cut_27 _ 0 f20_16 (Nat.lt_succ_self _) (by first | assumption | omega) _ _ _ hP hD hS (lv_sub hl [2, 1, 0] rfl)
  · skip
    refine lv_bipush (v := (-2)) hx hb dX10_ledWord_18 (by decide) ?_
    exact xr_i (v := (-2)) hx hb hr hlocks hK hS dX10_ledWord_20 (I, (va_up (va_up L 21 (L 21)) 22 (L 22)), (va_up (va_up (va_up (va_up A 17 a17_3) 18 a18_4) 20 (A 20)) 23 (A 23)), (va_up (va_up Q 19 q19_11) 24 (Q 24))) ⟨(L 21), (L 22), a17_3, a18_4, (A 20), (A 23), q19_11, (Q 24), trivial, rfl⟩ hP hD
