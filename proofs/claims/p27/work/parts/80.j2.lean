def RelT (R M : Nat) (he : Nat → Int32) (g : Nat → Nat → Int32) (t : Nat → Int32) : Prop := ∀ i j : Nat, i < R → j ≤ M → atF he g M i j = t (plc M i j)
def ok99 (M j : Nat) (v : Int32) : Prop := -(lim9 M j) ≤ v.toInt ∧ v.toInt ≤ lim9 M j
def RelA (R M o bk on : Nat) (a140 a141 a142 a143 b6 b7 b8 : Nat → Int32) : Prop := ∀ k : Nat, k < bk + on → ∃ i j : Nat, i < R ∧ j ≤ M ∧ a140 ((o + k) % 40) = nI i ∧ a141 ((o + k) % 40) = nI j ∧ b6 k = nI (plc M i j) ∧ a142 ((o + k) % 40) = b7 k ∧ a143 ((o + k) % 40) = b8 k ∧ ok99 M j (b7 k) ∧ ok99 M j (b8 k)
def RelP (T : Nat) (a150 b9_ : Nat → Int32) : Prop := ∀ q : Nat, q < T → a150 q = b9_ q ∧ 32 ≤ (b9_ q).toInt ∧ (b9_ q).toInt ≤ 126
def RelQ (q0 q1 q2 q3 : Nat → Int64) (b27 : Nat → Int32) : Prop := ∀ t : Nat, t < 25 → q0 t = (b27 (25 * 0 + t)).toInt64 ∧ q1 t = (b27 (25 * 1 + t)).toInt64 ∧ q2 t = (b27 (25 * 2 + t)).toInt64 ∧ q3 t = (b27 (25 * 3 + t)).toInt64
def H999 (R : Nat) (b3 : Nat → Int32) : Prop := ∀ i : Nat, i < R → -999 ≤ (b3 (5 * i + 4)).toInt ∧ (b3 (5 * i + 4)).toInt ≤ 999
def JX (t : Nat) (i120 i121 i122 i123 i144 i145 i146 i151 : Int32) (a140 a141 a142 a143 a136 a150 : Nat → Int32) (g0 : Nat → Nat → Int32) (j0 j1 j2 j4 j5 j10 : Int32) (b3 b6 b7 b8 b9_ b26 : Nat → Int32) : Prop := ∃ R M a sp o bk on T : Nat, cIn t R M a sp o bk on T i120 i121 i122 i123 i144 i145 i146 i151 a140 a141 ∧ rIn R M a bk on T j0 j1 j2 j4 j5 j10 b3 b6 b7 b8 b26 ∧ RelT R M a136 g0 b3 ∧ RelA R M o bk on a140 a141 a142 a143 b6 b7 b8 ∧ RelP T a150 b9_ ∧ H999 R b3

theorem jx_same {t : Nat} {I : Nat → Int32} {A : Nat → Nat → Int32} {Q : Nat → Nat → Int64} {G : Nat → Nat → Nat → Int32} {rI : Nat → Int32} {rA : Nat → Nat → Int32} {R M a sp o bk on T : Nat} (hc : cIn t R M a sp o bk on T (I 120) (I 121) (I 122) (I 123) (I 144) (I 145) (I 146) (I 151) (A 140) (A 141)) (hr : rIn R M a bk on T (rI 0) (rI 1) (rI 2) (rI 4) (rI 5) (rI 10) (rA 3) (rA 6) (rA 7) (rA 8) (rA 26)) (ht : RelT R M (A 136) (G 0) (rA 3)) (ha : RelA R M o bk on (A 140) (A 141) (A 142) (A 143) (rA 6) (rA 7) (rA 8)) (hp : RelP T (A 150) (rA 9)) (h9 : H999 R (rA 3)) : JX (t + 1) (I 120) (I 121) (I 122) (I 123) (I 144) (I 145) (I 146) (I 151) (A 140) (A 141) (A 142) (A 143) (A 136) (A 150) (G 0) (rI 0) (rI 1) (rI 2) (rI 4) (rI 5) (rI 10) (rA 3) (rA 6) (rA 7) (rA 8) (rA 9) (rA 26) := by
  obtain ⟨h0, h1, h2, h3, h4, h5, h6, h7⟩ := hc
  obtain ⟨g0_, g1_, g2_, g3_, g4_, g5_, g6_, g7_⟩ := hr
  have h3b : sp ≤ 30 * (t + 1) + 1 := by omega
  exact ⟨R, M, a, sp, o, bk, on, T, ⟨h0, h1, h2, ⟨h3.1, h3b⟩, h4, h5, h6, h7⟩, ⟨g0_, g1_, g2_, g3_, g4_, g5_, g6_, g7_⟩, ht, ha, hp, h9⟩
theorem plc_inj9 {M i j i2 j2 : Nat} (hM : M ≤ 4) (hj : j ≤ M) (hj2 : j2 ≤ M) (h : plc M i j = plc M i2 j2) : i = i2 ∧ j = j2 := by
  unfold plc at h
  split at h <;> split at h <;> omega
theorem plc_M {M i : Nat} : plc M i M = 5 * i + 4 := by
  unfold plc
  rw [if_pos rfl]
theorem plc_4 {M i j k : Nat} (hM : M ≤ 4) (hj : j ≤ M) (h : plc M i j = 5 * k + 4) : i = k ∧ j = M := by
  unfold plc at h
  split at h <;> omega
theorem rel_put {R M i j : Nat} {v : Int32} {he he2 t : Nat → Int32} {g g2 : Nat → Nat → Int32} (hM : M ≤ 4) (hj : j ≤ M) (h : RelT R M he g t) (hp : putP M i j v he g he2 g2) : RelT R M he2 g2 (upd t (plc M i j) v) := fun i2 j2 hi2 hj2 => by
  obtain ⟨p1, p2⟩ := put_at hp
  by_cases e : i2 = i ∧ j2 = j
  · rw [e.1, e.2, p1, pk_us]
  · rw [p2 i2 j2 hj2 e, pk_un (fun q => e (plc_inj9 hM hj2 hj q))]
    exact h i2 j2 hi2 hj2
theorem h999_put {R M i j : Nat} {v : Int32} {t : Nat → Int32} (hM : M ≤ 4) (hj : j ≤ M) (h : H999 R t) (hv : ok99 M j v) : H999 R (upd t (plc M i j) v) := fun k hk => by
  by_cases e : plc M i j = 5 * k + 4
  · rw [← e, pk_us]
    obtain ⟨-, e2⟩ := plc_4 hM hj e
    unfold ok99 lim9 at hv
    rw [if_pos e2] at hv
    exact hv
  · rw [pk_un (fun q => e q.symm)]
    exact h k hk
theorem tb9_put {R M i j : Nat} {v : Int32} {t : Nat → Int32} (hM : M ≤ 4) (hj : j ≤ M) (h : tb9 t R M) (hv : ok99 M j v) : tb9 (upd t (plc M i j) v) R M := tb9_upd hM h (fun g => by
  obtain ⟨g1, -⟩ := plc_mod hM hj g
  unfold ok99 lim9 at hv
  rw [if_neg (by omega)] at hv
  exact hv)
theorem old99 {R M i j : Nat} {t : Nat → Int32} (hi : i < R) (hj : j ≤ M) (h : tb9 t R M) (h2 : H999 R t) : ok99 M j (t (plc M i j)) := by
  unfold ok99 lim9 plc
  by_cases e : j = M
  · rw [if_pos e, if_pos e]
    exact h2 i hi
  · rw [if_neg e, if_neg e]
    exact h i j hi (by omega)
theorem b9_99 {M j q : Nat} {v : Int32} {i : Nat} (hM : M ≤ 4) (hj : j ≤ M) (hv : ok99 M j v) : plc M i j % 5 < 4 → b9 v := fun g => by
  obtain ⟨g1, -⟩ := plc_mod hM hj g
  unfold ok99 lim9 at hv
  rw [if_neg (by omega)] at hv
  exact hv
theorem relA_act {R M o bk on o2 b2 dd i j : Nat} {v w : Int32} {a140 a141 a142 a143 b6 b7 b8 f6 f7 f8 : Nat → Int32} (ho : o < 40) (hb : bk + on ≤ 40) (hi : i < R) (hj : j ≤ M) (h : RelA R M o bk on a140 a141 a142 a143 b6 b7 b8) (hc : (bk < 40 ∧ o2 = o ∧ b2 = bk) ∨ (bk = 40 ∧ o2 = (o + 1) % 40 ∧ b2 = 39)) (hd1 : dd ≤ 39) (hd2 : dd = bk ∨ (bk = 40 ∧ dd = 39)) (hact : actRows bk (plc M i j) v w b6 b7 b8 f6 f7 f8 dd) (hw : ok99 M j w) (hv : ok99 M j v) :
    RelA R M o2 (dd + 1) 0 (upd a140 ((o2 + b2) % 40) (nI i)) (upd a141 ((o2 + b2) % 40) (nI j)) (upd a142 ((o2 + b2) % 40) w) (upd a143 ((o2 + b2) % 40) v) f6 f7 f8 := fun k hk => by
  have eb : b2 = dd := by omega
  subst eb
  obtain ⟨h1, h2, h3, h4⟩ := hact
  by_cases e : k = b2
  · subst e
    rw [pk_us, pk_us, pk_us, pk_us, h2, h3, h4]
    exact ⟨i, j, hi, hj, rfl, rfl, rfl, rfl, rfl, hw, hv⟩
  · have hne : (o2 + k) % 40 ≠ (o2 + b2) % 40 := by omega
    rw [pk_un hne, pk_un hne, pk_un hne, pk_un hne]
    obtain ⟨q1, q2, q3⟩ := h1 k (by omega)
    rw [q1, q2, q3]
    rcases hc with ⟨c1, c2, c3⟩ | ⟨c1, c2, c3⟩
    · subst c2
      rw [show k + (bk - b2) = k by omega]
      exact h k (by omega)
    · rw [show k + (bk - b2) = k + 1 by omega, show (o2 + k) % 40 = (o + (k + 1)) % 40 by omega]
      exact h (k + 1) (by omega)
theorem ring_c {R M o bk on : Nat} {a140 a141 a142 a143 b6 b7 b8 : Nat → Int32} (hR : R ≤ 5) (h : RelA R M o bk on a140 a141 a142 a143 b6 b7 b8) : ∀ k : Nat, k < bk + on → ∃ i j : Nat, i < 5 ∧ j ≤ M ∧ a140 ((o + k) % 40) = nI i ∧ a141 ((o + k) % 40) = nI j := fun k hk => by
  obtain ⟨i, j, q1, q2, q3, q4, -⟩ := h k hk
  exact ⟨i, j, by omega, q2, q3, q4⟩
theorem ring_r {R M o bk on : Nat} {a140 a141 a142 a143 b6 b7 b8 : Nat → Int32} (hR : R ≤ 5) (hM : M ≤ 4) (h : RelA R M o bk on a140 a141 a142 a143 b6 b7 b8) : ∀ k : Nat, k < bk + on → ∃ q : Nat, q < 25 ∧ b6 k = nI q ∧ (q % 5 < 4 → b9 (b7 k) ∧ b9 (b8 k)) := fun k hk => by
  obtain ⟨i, j, q1, q2, q3, q4, q5, q6, q7, q8, q9⟩ := h k hk
  exact ⟨plc M i j, plc_lt (by omega) q2 hM, q5, fun g => ⟨b9_99 (q := 0) hM q2 q8 g, b9_99 (q := 0) hM q2 q9 g⟩⟩
theorem jx_act {t : Nat} {I : Nat → Int32} {A : Nat → Nat → Int32} {Q : Nat → Nat → Int64} {G : Nat → Nat → Nat → Int32} {rI : Nat → Int32} {rA : Nat → Nat → Int32} {R M a sp o bk on T : Nat} {o2 b2 dd i j : Nat} {v r1 r2 x123 x144 x145 x146 x4 x5 : Int32} {f136 f140 f141 f142 f143 f3 f6 f7 f8 : Nat → Int32} {g0 : Nat → Nat → Int32} (hc : cIn t R M a sp o bk on T (I 120) (I 121) (I 122) (I 123) (I 144) (I 145) (I 146) (I 151) (A 140) (A 141)) (hr : rIn R M a bk on T (rI 0) (rI 1) (rI 2) (rI 4) (rI 5) (rI 10) (rA 3) (rA 6) (rA 7) (rA 8) (rA 26)) (ht : RelT R M (A 136) (G 0) (rA 3)) (ha : RelA R M o bk on (A 140) (A 141) (A 142) (A 143) (rA 6) (rA 7) (rA 8)) (hp : RelP T (A 150) (rA 9)) (h9 : H999 R (rA 3)) (hi : i < R) (hj : j ≤ M) (hv : ok99 M j v) (e0 : r1 = atF (A 136) (G 0) M i j) (e1 : x123 = nI (sp + 1)) (hput : putP M i j v (A 136) (G 0) f136 g0) (hcc : (bk < 40 ∧ o2 = o ∧ b2 = bk) ∨ (bk = 40 ∧ o2 = (o + 1) % 40 ∧ b2 = 39)) (e2 : x144 = nI o2) (e3 : x145 = nI (b2 + 1)) (e4 : x146 = nI 0) (e5 : f140 = upd (A 140) ((o2 + b2) % 40) (nI i)) (e6 : f141 = upd (A 141) ((o2 + b2) % 40) (nI j)) (e7 : f142 = upd (A 142) ((o2 + b2) % 40) (atF (A 136) (G 0) M i j)) (e8 : f143 = upd (A 143) ((o2 + b2) % 40) v)
    (k0 : r2 = rA 3 (plc M i j)) (hd1 : dd ≤ 39) (hd2 : dd = bk ∨ (bk = 40 ∧ dd = 39)) (k1 : x4 = nI (dd + 1)) (k2 : x5 = nI 0) (k3 : f3 = upd (rA 3) (plc M i j) v) (hact : actRows bk (plc M i j) v (rA 3 (plc M i j)) (rA 6) (rA 7) (rA 8) f6 f7 f8 dd) : r1 = r2 ∧ JX (t + 1) (I 120) (I 121) (I 122) x123 x144 x145 x146 (I 151) f140 f141 f142 f143 f136 (A 150) g0 (rI 0) (rI 1) (rI 2) x4 x5 (rI 10) f3 f6 f7 f8 (rA 9) (rA 26) := by
  obtain ⟨h0, h1, h2, h3, h4, h5, h6, h7⟩ := hc
  obtain ⟨g0_, g1_, g2_, g3_, g4_, g5_, g6_, g7_⟩ := hr
  have h3b : sp ≤ 30 * (t + 1) + 1 := by omega
  have hw : atF (A 136) (G 0) M i j = rA 3 (plc M i j) := ht i j hi hj
  have eb : b2 = dd := by omega
  refine ⟨by rw [e0, k0, hw], ?_⟩
  rw [hw] at e7
  have hA2 := relA_act h4.2 h5.2.2 hi hj ha hcc hd1 hd2 hact (old99 hi hj g6_ h9) hv
  rw [e5, e6, e7, e8, k3]
  refine ⟨R, M, a, sp + 1, o2, dd + 1, 0, T, ⟨h0, h1, h2, ⟨e1, by omega⟩, ⟨e2, by omega⟩, ⟨by rw [e3, eb], e4, by omega⟩, ring_c h0.2.2 hA2, h7⟩, ⟨g0_, g1_, g2_, ⟨k1, k2, by omega⟩, ring_r h0.2.2 h1.2.2 hA2, g5_, tb9_put h1.2.2 hj g6_ hv, g7_⟩, rel_put h1.2.2 hj ht hput, hA2, hp, h999_put h1.2.2 hj h9 hv⟩
theorem jx_set {t : Nat} {I : Nat → Int32} {A : Nat → Nat → Int32} {Q : Nat → Nat → Int64} {G : Nat → Nat → Nat → Int32} {rI : Nat → Int32} {rA : Nat → Nat → Int32} {R M a sp o bk on T : Nat} {x y v r1 r2 x123 x144 x145 x146 x4 x5 : Int32} {f136 f140 f141 f142 f143 f3 f6 f7 f8 : Nat → Int32} {g0 : Nat → Nat → Int32} (hc : cIn t R M a sp o bk on T (I 120) (I 121) (I 122) (I 123) (I 144) (I 145) (I 146) (I 151) (A 140) (A 141)) (hr : rIn R M a bk on T (rI 0) (rI 1) (rI 2) (rI 4) (rI 5) (rI 10) (rA 3) (rA 6) (rA 7) (rA 8) (rA 26)) (ht : RelT R M (A 136) (G 0) (rA 3)) (ha : RelA R M o bk on (A 140) (A 141) (A 142) (A 143) (rA 6) (rA 7) (rA 8)) (hp : RelP T (A 150) (rA 9)) (h9 : H999 R (rA 3)) (hf1 : (∃ i j : Nat, i < R ∧ j < M ∧ x = nI i ∧ y = nI j ∧ (-9 ≤ v.toInt ∧ v.toInt ≤ 9) ∧ r1 = atF (A 136) (G 0) M i j ∧ x123 = nI (sp + 1) ∧ putP M i j v (A 136) (G 0) f136 g0 ∧ ∃ o2 b2 : Nat, ((bk < 40 ∧ o2 = o ∧ b2 = bk) ∨ (bk = 40 ∧ o2 = (o + 1) % 40 ∧ b2 = 39)) ∧ x144 = nI o2 ∧ x145 = nI (b2 + 1) ∧ x146 = nI 0 ∧ f140 = upd (A 140) ((o2 + b2) % 40) (nI i) ∧ f141 = upd (A 141) ((o2 + b2) % 40) (nI j) ∧ f142 = upd (A 142) ((o2 + b2) % 40) (atF (A 136) (G 0) M i j) ∧ f143 = upd (A 143) ((o2 + b2) % 40) v) ∨ (r1 = -101 ∧ (∀ i j : Nat, i < R → j < M → x = nI i → y = nI j → (-9 ≤ v.toInt ∧ v.toInt ≤ 9) → False) ∧ x123 = I 123 ∧ f136 = A 136 ∧ g0 = G 0 ∧ x144 = I 144 ∧ x145 = I 145 ∧ x146 = I 146 ∧ f140 = A 140 ∧ f141 = A 141 ∧ f142 = A 142 ∧ f143 = A 143)) (hf2 : (∃ i j : Nat, i < R ∧ j < M ∧ x = nI i ∧ y = nI j ∧ (-9 ≤ v.toInt ∧ v.toInt ≤ 9) ∧ r2 = rA 3 (plc M i j) ∧ ∃ dd : Nat, dd ≤ 39 ∧ (dd = bk ∨ (bk = 40 ∧ dd = 39)) ∧ x4 = nI (dd + 1) ∧ x5 = nI 0 ∧ f3 = upd (rA 3) (plc M i j) v ∧ actRows bk (plc M i j) v (rA 3 (plc M i j)) (rA 6) (rA 7) (rA 8) f6 f7 f8 dd) ∨ (r2 = -101 ∧ (∀ i j : Nat, i < R → j < M → x = nI i → y = nI j → (-9 ≤ v.toInt ∧ v.toInt ≤ 9) → False) ∧ x4 = rI 4 ∧ x5 = rI 5 ∧ f3 = rA 3 ∧ f6 = rA 6 ∧ f7 = rA 7 ∧ f8 = rA 8)) : r1 = r2 ∧ JX (t + 1) (I 120) (I 121) (I 122) x123 x144 x145 x146 (I 151) f140 f141 f142 f143 f136 (A 150) g0 (rI 0) (rI 1) (rI 2) x4 x5 (rI 10) f3 f6 f7 f8 (rA 9) (rA 26) := by
  rcases hf1 with ⟨i, j, hi, hj, ex, ey, hv, e0, e1, hput, o2, b2, hcc, e2, e3, e4, e5, e6, e7, e8⟩ | ⟨e0, hn, e1, e2, e3, e4, e5, e6, e7, e8, e9, e10⟩ <;> rcases hf2 with ⟨i2, j2, hi2, hj2, fx, fy, hv2, k0, dd, hd1, hd2, k1, k2, k3, hact⟩ | ⟨k0, hm, k1, k2, k3, k4, k5, k6⟩
  · obtain rfl : i = i2 := (nI_eq (by have := hc.1.2.2; omega) (by have := hc.1.2.2; omega)).mp (ex.symm.trans fx)
    obtain rfl : j = j2 := (nI_eq (by have := hc.2.1.2.2; omega) (by have := hc.2.1.2.2; omega)).mp (ey.symm.trans fy)
    have hv9 : ok99 M j v := by
      unfold ok99 lim9
      rw [if_neg (by omega)]
      exact hv
    exact jx_act (Q := Q) hc hr ht ha hp h9 hi (by omega) hv9 e0 e1 hput hcc e2 e3 e4 e5 e6 e7 e8 k0 hd1 hd2 k1 k2 k3 hact
  · exact (hm i j hi hj ex ey hv).elim
  · exact (hn i2 j2 hi2 hj2 fx fy hv2).elim
  · refine ⟨by rw [e0, k0], ?_⟩
    rw [e1, e2, e3, e4, e5, e6, e7, e8, e9, e10, k1, k2, k3, k4, k5, k6]
    exact jx_same (Q := Q) hc hr ht ha hp h9
theorem jx_hear {t : Nat} {I : Nat → Int32} {A : Nat → Nat → Int32} {Q : Nat → Nat → Int64} {G : Nat → Nat → Nat → Int32} {rI : Nat → Int32} {rA : Nat → Nat → Int32} {R M a sp o bk on T : Nat} {x v r1 r2 x123 x144 x145 x146 x4 x5 : Int32} {f136 f140 f141 f142 f143 f3 f6 f7 f8 : Nat → Int32} {g0 : Nat → Nat → Int32} (hc : cIn t R M a sp o bk on T (I 120) (I 121) (I 122) (I 123) (I 144) (I 145) (I 146) (I 151) (A 140) (A 141)) (hr : rIn R M a bk on T (rI 0) (rI 1) (rI 2) (rI 4) (rI 5) (rI 10) (rA 3) (rA 6) (rA 7) (rA 8) (rA 26)) (ht : RelT R M (A 136) (G 0) (rA 3)) (ha : RelA R M o bk on (A 140) (A 141) (A 142) (A 143) (rA 6) (rA 7) (rA 8)) (hp : RelP T (A 150) (rA 9)) (h9 : H999 R (rA 3)) (hf1 : (∃ i : Nat, i < R ∧ x = nI i ∧ (-999 ≤ v.toInt ∧ v.toInt ≤ 999) ∧ r1 = atF (A 136) (G 0) M i M ∧ x123 = nI (sp + 1) ∧ putP M i M v (A 136) (G 0) f136 g0 ∧ ∃ o2 b2 : Nat, ((bk < 40 ∧ o2 = o ∧ b2 = bk) ∨ (bk = 40 ∧ o2 = (o + 1) % 40 ∧ b2 = 39)) ∧ x144 = nI o2 ∧ x145 = nI (b2 + 1) ∧ x146 = nI 0 ∧ f140 = upd (A 140) ((o2 + b2) % 40) (nI i) ∧ f141 = upd (A 141) ((o2 + b2) % 40) (nI M) ∧ f142 = upd (A 142) ((o2 + b2) % 40) (atF (A 136) (G 0) M i M) ∧ f143 = upd (A 143) ((o2 + b2) % 40) v) ∨ (r1 = -10001 ∧ (∀ i : Nat, i < R → x = nI i → (-999 ≤ v.toInt ∧ v.toInt ≤ 999) → False) ∧ x123 = I 123 ∧ f136 = A 136 ∧ g0 = G 0 ∧ x144 = I 144 ∧ x145 = I 145 ∧ x146 = I 146 ∧ f140 = A 140 ∧ f141 = A 141 ∧ f142 = A 142 ∧ f143 = A 143)) (hf2 : (∃ i : Nat, i < R ∧ x = nI i ∧ (-999 ≤ v.toInt ∧ v.toInt ≤ 999) ∧ r2 = rA 3 (plc M i M) ∧ ∃ dd : Nat, dd ≤ 39 ∧ (dd = bk ∨ (bk = 40 ∧ dd = 39)) ∧ x4 = nI (dd + 1) ∧ x5 = nI 0 ∧ f3 = upd (rA 3) (plc M i M) v ∧ actRows bk (plc M i M) v (rA 3 (plc M i M)) (rA 6) (rA 7) (rA 8) f6 f7 f8 dd) ∨ (r2 = -10001 ∧ (∀ i : Nat, i < R → x = nI i → (-999 ≤ v.toInt ∧ v.toInt ≤ 999) → False) ∧ x4 = rI 4 ∧ x5 = rI 5 ∧ f3 = rA 3 ∧ f6 = rA 6 ∧ f7 = rA 7 ∧ f8 = rA 8)) : r1 = r2 ∧ JX (t + 1) (I 120) (I 121) (I 122) x123 x144 x145 x146 (I 151) f140 f141 f142 f143 f136 (A 150) g0 (rI 0) (rI 1) (rI 2) x4 x5 (rI 10) f3 f6 f7 f8 (rA 9) (rA 26) := by
  rcases hf1 with ⟨i, hi, ex, hv, e0, e1, hput, o2, b2, hcc, e2, e3, e4, e5, e6, e7, e8⟩ | ⟨e0, hn, e1, e2, e3, e4, e5, e6, e7, e8, e9, e10⟩ <;> rcases hf2 with ⟨i2, hi2, fx, hv2, k0, dd, hd1, hd2, k1, k2, k3, hact⟩ | ⟨k0, hm, k1, k2, k3, k4, k5, k6⟩
  · obtain rfl : i = i2 := (nI_eq (by have := hc.1.2.2; omega) (by have := hc.1.2.2; omega)).mp (ex.symm.trans fx)
    have hv9 : ok99 M M v := by
      unfold ok99 lim9
      rw [if_pos rfl]
      exact hv
    exact jx_act (Q := Q) hc hr ht ha hp h9 hi (Nat.le_refl M) hv9 e0 e1 hput hcc e2 e3 e4 e5 e6 e7 e8 k0 hd1 hd2 k1 k2 k3 hact
  · exact (hm i hi ex hv).elim
  · exact (hn i2 hi2 fx hv2).elim
  · refine ⟨by rw [e0, k0], ?_⟩
    rw [e1, e2, e3, e4, e5, e6, e7, e8, e9, e10, k1, k2, k3, k4, k5, k6]
    exact jx_same (Q := Q) hc hr ht ha hp h9
theorem jx_undo {t : Nat} {I : Nat → Int32} {A : Nat → Nat → Int32} {Q : Nat → Nat → Int64} {G : Nat → Nat → Nat → Int32} {rI : Nat → Int32} {rA : Nat → Nat → Int32} {R M a sp o bk on T : Nat} {r1 r2 x123 x145 x146 x4 x5 : Int32} {f136 f3 : Nat → Int32} {g0 : Nat → Nat → Int32} (hc : cIn t R M a sp o bk on T (I 120) (I 121) (I 122) (I 123) (I 144) (I 145) (I 146) (I 151) (A 140) (A 141)) (hr : rIn R M a bk on T (rI 0) (rI 1) (rI 2) (rI 4) (rI 5) (rI 10) (rA 3) (rA 6) (rA 7) (rA 8) (rA 26)) (ht : RelT R M (A 136) (G 0) (rA 3)) (ha : RelA R M o bk on (A 140) (A 141) (A 142) (A 143) (rA 6) (rA 7) (rA 8)) (hp : RelP T (A 150) (rA 9)) (h9 : H999 R (rA 3)) (hf1 : (0 < bk ∧ r1 = nI (bk - 1) ∧ x145 = nI (bk - 1) ∧ x146 = nI (on + 1) ∧ x123 = nI (sp + 1) ∧ ∃ i j : Nat, i < 5 ∧ j ≤ M ∧ A 140 ((o + (bk - 1)) % 40) = nI i ∧ A 141 ((o + (bk - 1)) % 40) = nI j ∧ putP M i j (A 142 ((o + (bk - 1)) % 40)) (A 136) (G 0) f136 g0) ∨ (bk = 0 ∧ r1 = -2 ∧ x123 = I 123 ∧ f136 = A 136 ∧ g0 = G 0 ∧ x145 = I 145 ∧ x146 = I 146)) (hf2 : (bk = 0 ∧ r2 = -2 ∧ x4 = rI 4 ∧ x5 = rI 5 ∧ f3 = rA 3) ∨ (0 < bk ∧ r2 = nI (bk - 1) ∧ x4 = nI (bk - 1) ∧ x5 = nI (on + 1) ∧ ∃ q : Nat, q < 25 ∧ rA 6 (bk - 1) = nI q ∧ f3 = upd (rA 3) q (rA 7 (bk - 1)))) : r1 = r2 ∧ JX (t + 1) (I 120) (I 121) (I 122) x123 (I 144) x145 x146 (I 151) (A 140) (A 141) (A 142) (A 143) f136 (A 150) g0 (rI 0) (rI 1) (rI 2) x4 x5 (rI 10) f3 (rA 6) (rA 7) (rA 8) (rA 9) (rA 26) := by
  rcases hf1 with ⟨hb, e0, e1, e2, e3, i, j, hi, hj, ei, ej, hput⟩ | ⟨hb, e0, e1, e2, e3, e4, e5⟩ <;> rcases hf2 with ⟨hd, k0, k1, k2, k3⟩ | ⟨hd, k0, k1, k2, q, hq, k3, k4⟩
  · omega
  · obtain ⟨i2, j2, q1, q2, q3, q4, q5, q6, q7, q8, q9⟩ := ha (bk - 1) (by have := hr.2.2.2.1.2.2; omega)
    have hR := hc.1.2.2
    have hM := hc.2.1.2.2
    obtain rfl : i = i2 := (nI_eq (by omega) (by omega)).mp (ei.symm.trans q3)
    obtain rfl : j = j2 := (nI_eq (by omega) (by omega)).mp (ej.symm.trans q4)
    have hl := plc_lt (i := i) hi hj hM
    obtain rfl : q = plc M i j := (nI_eq (by omega) (by omega)).mp (k3.symm.trans q5)
    rw [q6] at hput
    obtain ⟨h0, h1, h2, h3, h4, h5, h6, h7⟩ := hc
    obtain ⟨g0_, g1_, g2_, g3_, g4_, g5_, g6_, g7_⟩ := hr
    have h3b : sp ≤ 30 * (t + 1) + 1 := by omega
    refine ⟨by rw [e0, k0], ?_⟩
    rw [k4]
    have hA2 : RelA R M o (bk - 1) (on + 1) (A 140) (A 141) (A 142) (A 143) (rA 6) (rA 7) (rA 8) := fun k hk => ha k (by omega)
    exact ⟨R, M, a, sp + 1, o, bk - 1, on + 1, T, ⟨h0, h1, h2, ⟨e3, by omega⟩, h4, ⟨e1, e2, by omega⟩, ring_c hR hA2, h7⟩, ⟨g0_, g1_, g2_, ⟨k1, k2, by omega⟩, ring_r hR hM hA2, g5_, tb9_put hM hj g6_ q8, g7_⟩, rel_put hM hj ht hput, hA2, hp, h999_put hM hj h9 q8⟩
  · refine ⟨by rw [e0, k0], ?_⟩
    rw [e1, e2, e3, e4, e5, k1, k2, k3]
    exact jx_same (Q := Q) hc hr ht ha hp h9
  · omega
theorem jx_redo {t : Nat} {I : Nat → Int32} {A : Nat → Nat → Int32} {Q : Nat → Nat → Int64} {G : Nat → Nat → Nat → Int32} {rI : Nat → Int32} {rA : Nat → Nat → Int32} {R M a sp o bk on T : Nat} {r1 r2 x123 x145 x146 x4 x5 : Int32} {f136 f3 : Nat → Int32} {g0 : Nat → Nat → Int32} (hc : cIn t R M a sp o bk on T (I 120) (I 121) (I 122) (I 123) (I 144) (I 145) (I 146) (I 151) (A 140) (A 141)) (hr : rIn R M a bk on T (rI 0) (rI 1) (rI 2) (rI 4) (rI 5) (rI 10) (rA 3) (rA 6) (rA 7) (rA 8) (rA 26)) (ht : RelT R M (A 136) (G 0) (rA 3)) (ha : RelA R M o bk on (A 140) (A 141) (A 142) (A 143) (rA 6) (rA 7) (rA 8)) (hp : RelP T (A 150) (rA 9)) (h9 : H999 R (rA 3)) (hf1 : (0 < on ∧ r1 = nI (on - 1) ∧ x145 = nI (bk + 1) ∧ x146 = nI (on - 1) ∧ x123 = nI (sp + 1) ∧ ∃ i j : Nat, i < 5 ∧ j ≤ M ∧ A 140 ((o + (bk)) % 40) = nI i ∧ A 141 ((o + (bk)) % 40) = nI j ∧ putP M i j (A 143 ((o + (bk)) % 40)) (A 136) (G 0) f136 g0) ∨ (on = 0 ∧ r1 = -2 ∧ x123 = I 123 ∧ f136 = A 136 ∧ g0 = G 0 ∧ x145 = I 145 ∧ x146 = I 146)) (hf2 : (on = 0 ∧ r2 = -2 ∧ x4 = rI 4 ∧ x5 = rI 5 ∧ f3 = rA 3) ∨ (0 < on ∧ r2 = nI (on - 1) ∧ x4 = nI (bk + 1) ∧ x5 = nI (on - 1) ∧ ∃ q : Nat, q < 25 ∧ rA 6 bk = nI q ∧ f3 = upd (rA 3) q (rA 8 bk))) : r1 = r2 ∧ JX (t + 1) (I 120) (I 121) (I 122) x123 (I 144) x145 x146 (I 151) (A 140) (A 141) (A 142) (A 143) f136 (A 150) g0 (rI 0) (rI 1) (rI 2) x4 x5 (rI 10) f3 (rA 6) (rA 7) (rA 8) (rA 9) (rA 26) := by
  rcases hf1 with ⟨hb, e0, e1, e2, e3, i, j, hi, hj, ei, ej, hput⟩ | ⟨hb, e0, e1, e2, e3, e4, e5⟩ <;> rcases hf2 with ⟨hd, k0, k1, k2, k3⟩ | ⟨hd, k0, k1, k2, q, hq, k3, k4⟩
  · omega
  · obtain ⟨i2, j2, q1, q2, q3, q4, q5, q6, q7, q8, q9⟩ := ha bk (by have := hr.2.2.2.1.2.2; omega)
    have hR := hc.1.2.2
    have hM := hc.2.1.2.2
    obtain rfl : i = i2 := (nI_eq (by omega) (by omega)).mp (ei.symm.trans q3)
    obtain rfl : j = j2 := (nI_eq (by omega) (by omega)).mp (ej.symm.trans q4)
    have hl := plc_lt (i := i) hi hj hM
    obtain rfl : q = plc M i j := (nI_eq (by omega) (by omega)).mp (k3.symm.trans q5)
    rw [q7] at hput
    obtain ⟨h0, h1, h2, h3, h4, h5, h6, h7⟩ := hc
    obtain ⟨g0_, g1_, g2_, g3_, g4_, g5_, g6_, g7_⟩ := hr
    have h3b : sp ≤ 30 * (t + 1) + 1 := by omega
    refine ⟨by rw [e0, k0], ?_⟩
    rw [k4]
    have hA2 : RelA R M o (bk + 1) (on - 1) (A 140) (A 141) (A 142) (A 143) (rA 6) (rA 7) (rA 8) := fun k hk => ha k (by omega)
    exact ⟨R, M, a, sp + 1, o, bk + 1, on - 1, T, ⟨h0, h1, h2, ⟨e3, by omega⟩, h4, ⟨e1, e2, by omega⟩, ring_c hR hA2, h7⟩, ⟨g0_, g1_, g2_, ⟨k1, k2, by omega⟩, ring_r hR hM hA2, g5_, tb9_put hM hj g6_ q9, g7_⟩, rel_put hM hj ht hput, hA2, hp, h999_put hM hj h9 q9⟩
  · refine ⟨by rw [e0, k0], ?_⟩
    rw [e1, e2, e3, e4, e5, k1, k2, k3]
    exact jx_same (Q := Q) hc hr ht ha hp h9
  · omega
theorem relA_0 {R M o : Nat} {a140 a141 a142 a143 b6 b7 b8 : Nat → Int32} : RelA R M o 0 0 a140 a141 a142 a143 b6 b7 b8 := fun k hk => absurd hk (by omega)
theorem relT_0 {R M : Nat} {he t : Nat → Int32} {g : Nat → Nat → Int32} (hR : R ≤ 5) (hM : M ≤ 4) (h1 : ∀ q t : Nat, q < 5 → t < 4 → g q t = nI 0) (h2 : ∀ t : Nat, t < 5 → he t = nI 0) (h3 : ∀ q : Nat, q < 25 → t q = nI 0) : RelT R M he g t := fun i j hi hj => by
  rw [h3 _ (plc_lt (by omega) hj hM)]
  unfold atF
  split
  · exact h2 i (by omega)
  · exact h1 i j (by omega) (by omega)
theorem h999_0 {R : Nat} {t : Nat → Int32} (hR : R ≤ 5) (h : ∀ q : Nat, q < 5 → t (5 * q + 4) = nI 0) : H999 R t := fun i hi => by
  rw [h i (by omega)]
  decide
theorem jx_table {t : Nat} {I : Nat → Int32} {A : Nat → Nat → Int32} {Q : Nat → Nat → Int64} {G : Nat → Nat → Nat → Int32} {rI : Nat → Int32} {rA : Nat → Nat → Int32} {R M a sp o bk on T : Nat} {x y r1 r2 i120 i121 i123 i144 i145 i146 x0 x1 x4 x5 : Int32} {a136 f : Nat → Int32} {g0 : Nat → Nat → Int32} (hc : cIn t R M a sp o bk on T (I 120) (I 121) (I 122) (I 123) (I 144) (I 145) (I 146) (I 151) (A 140) (A 141)) (hr : rIn R M a bk on T (rI 0) (rI 1) (rI 2) (rI 4) (rI 5) (rI 10) (rA 3) (rA 6) (rA 7) (rA 8) (rA 26)) (ht : RelT R M (A 136) (G 0) (rA 3)) (ha : RelA R M o bk on (A 140) (A 141) (A 142) (A 143) (rA 6) (rA 7) (rA 8)) (hp : RelP T (A 150) (rA 9)) (h9 : H999 R (rA 3)) (hf1 : (r1 = nI 1 ∧ ∃ i j : Nat, 1 ≤ i ∧ i ≤ 5 ∧ 1 ≤ j ∧ j ≤ 4 ∧ x = nI i ∧ y = nI j ∧ i120 = nI i ∧ i121 = nI j ∧ i123 = nI (sp + 1) ∧ i144 = nI 0 ∧ i145 = nI 0 ∧ i146 = nI 0 ∧ (∀ q t : Nat, q < 5 → t < 4 → g0 q t = nI 0) ∧ ∀ t : Nat, t < 5 → a136 t = nI 0) ∨ (r1 = -1 ∧ (∀ i j : Nat, 1 ≤ i → i ≤ 5 → 1 ≤ j → j ≤ 4 → x = nI i → y = nI j → False) ∧ i120 = I 120 ∧ i121 = I 121 ∧ i123 = I 123 ∧ i144 = I 144 ∧ i145 = I 145 ∧ i146 = I 146 ∧ g0 = G 0 ∧ a136 = A 136)) (hf2 : (r2 = nI 1 ∧ ∃ i j : Nat, 1 ≤ i ∧ i ≤ 5 ∧ 1 ≤ j ∧ j ≤ 4 ∧ x = nI i ∧ y = nI j ∧ x0 = nI i ∧ x1 = nI j ∧ x4 = nI 0 ∧ x5 = nI 0 ∧ ∀ t : Nat, t < 25 → f t = nI 0) ∨ (r2 = -1 ∧ (∀ i j : Nat, 1 ≤ i → i ≤ 5 → 1 ≤ j → j ≤ 4 → x = nI i → y = nI j → False) ∧ x0 = rI 0 ∧ x1 = rI 1 ∧ x4 = rI 4 ∧ x5 = rI 5 ∧ f = rA 3)) : r1 = r2 ∧ JX (t + 1) i120 i121 (I 122) i123 i144 i145 i146 (I 151) (A 140) (A 141) (A 142) (A 143) a136 (A 150) g0 x0 x1 (rI 2) x4 x5 (rI 10) f (rA 6) (rA 7) (rA 8) (rA 9) (rA 26) := by
  obtain ⟨h0, h1, h2, h3, h4, h5, h6, h7⟩ := hc
  obtain ⟨g0_, g1_, g2_, g3_, g4_, g5_, g6_, g7_⟩ := hr
  have h3b : sp ≤ 30 * (t + 1) + 1 := by omega
  rcases hf1 with ⟨e0, i, j, b1, b2, b3, b4, ex, ey, e1, e2, e3, e4, e5, e6, z1, z2⟩ | ⟨e0, hn, e1, e2, e3, e4, e5, e6, e7, e8⟩ <;> rcases hf2 with ⟨k0, i2, j2, c1, c2, c3, c4, fx, fy, k1, k2, k3, k4, z3⟩ | ⟨k0, hm, k1, k2, k3, k4, k5⟩
  · obtain rfl : i = i2 := (nI_eq (by omega) (by omega)).mp (ex.symm.trans fx)
    obtain rfl : j = j2 := (nI_eq (by omega) (by omega)).mp (ey.symm.trans fy)
    exact ⟨by rw [e0, k0], i, j, a, sp + 1, 0, 0, 0, T, ⟨⟨e1, b1, b2⟩, ⟨e2, b3, b4⟩, h2, ⟨e3, by omega⟩, ⟨e4, by decide⟩, ⟨e5, e6, by decide⟩, fun k hk => absurd hk (by omega), h7⟩, ⟨⟨k1, b1, b2⟩, ⟨k2, b3, b4⟩, g2_, ⟨k3, k4, by decide⟩, fun k hk => absurd hk (by omega), g5_, tb9_0 b2 b4 (b9_0 z3), g7_⟩, relT_0 b2 b4 z1 z2 z3, relA_0, hp, h999_0 b2 (fun q hq => z3 _ (by omega))⟩
  · exact (hm i j b1 b2 b3 b4 ex ey).elim
  · exact (hn i2 j2 c1 c2 c3 c4 fx fy).elim
  · refine ⟨by rw [e0, k0], ?_⟩
    rw [e1, e2, e3, e4, e5, e6, e7, e8, k1, k2, k3, k4, k5]
    exact ⟨R, M, a, sp, o, bk, on, T, ⟨h0, h1, h2, ⟨h3.1, h3b⟩, h4, h5, h6, h7⟩, ⟨g0_, g1_, g2_, g3_, g4_, g5_, g6_, g7_⟩, ht, ha, hp, h9⟩
theorem jx_letters {t : Nat} {I : Nat → Int32} {A : Nat → Nat → Int32} {Q : Nat → Nat → Int64} {G : Nat → Nat → Nat → Int32} {rI : Nat → Int32} {rA : Nat → Nat → Int32} {R M a sp o bk on T : Nat} {x r1 r2 x122 x123 x144 x145 x146 x2 x4 x5 : Int32} (hc : cIn t R M a sp o bk on T (I 120) (I 121) (I 122) (I 123) (I 144) (I 145) (I 146) (I 151) (A 140) (A 141)) (hr : rIn R M a bk on T (rI 0) (rI 1) (rI 2) (rI 4) (rI 5) (rI 10) (rA 3) (rA 6) (rA 7) (rA 8) (rA 26)) (ht : RelT R M (A 136) (G 0) (rA 3)) (ha : RelA R M o bk on (A 140) (A 141) (A 142) (A 143) (rA 6) (rA 7) (rA 8)) (hp : RelP T (A 150) (rA 9)) (h9 : H999 R (rA 3)) (hf1 : (r1 = I 122 ∧ (x = nI 2 ∨ x = nI 4) ∧ x122 = x ∧ x123 = nI (sp + 1) ∧ x144 = nI 0 ∧ x145 = nI 0 ∧ x146 = nI 0) ∨ (r1 = -1 ∧ ¬ x = nI 2 ∧ ¬ x = nI 4 ∧ x122 = I 122 ∧ x123 = I 123 ∧ x144 = I 144 ∧ x145 = I 145 ∧ x146 = I 146)) (hf2 : (r2 = rI 2 ∧ (x = nI 2 ∨ x = nI 4) ∧ x2 = x ∧ x4 = nI 0 ∧ x5 = nI 0) ∨ (r2 = -1 ∧ ¬ x = nI 2 ∧ ¬ x = nI 4 ∧ x2 = rI 2 ∧ x4 = rI 4 ∧ x5 = rI 5)) : r1 = r2 ∧ JX (t + 1) (I 120) (I 121) x122 x123 x144 x145 x146 (I 151) (A 140) (A 141) (A 142) (A 143) (A 136) (A 150) (G 0) (rI 0) (rI 1) x2 x4 x5 (rI 10) (rA 3) (rA 6) (rA 7) (rA 8) (rA 9) (rA 26) := by
  obtain ⟨h0, h1, h2, h3, h4, h5, h6, h7⟩ := hc
  obtain ⟨g0_, g1_, g2_, g3_, g4_, g5_, g6_, g7_⟩ := hr
  have h3b : sp ≤ 30 * (t + 1) + 1 := by omega
  rcases hf1 with ⟨e1, hx, e2, e3, e4, e5, e6⟩ | ⟨e1, n1, n2, e2, e3, e4, e5, e6⟩ <;> rcases hf2 with ⟨k1, hx2, k2, k4, k5⟩ | ⟨k1, m1, m2, k2, k4, k5⟩
  · refine ⟨by rw [e1, k1, h2.1, g2_.1], ?_⟩
    obtain ⟨a2, ha2, hxa⟩ : ∃ a2 : Nat, (a2 = 2 ∨ a2 = 4) ∧ x = nI a2 := hx.elim (fun q => ⟨2, Or.inl rfl, q⟩) (fun q => ⟨4, Or.inr rfl, q⟩)
    exact ⟨R, M, a2, sp + 1, 0, 0, 0, T, ⟨h0, h1, ⟨by rw [e2, hxa], ha2⟩, ⟨e3, by omega⟩, ⟨e4, by decide⟩, ⟨e5, e6, by decide⟩, fun k hk => absurd hk (by omega), h7⟩, ⟨g0_, g1_, ⟨by rw [k2, hxa], ha2⟩, ⟨k4, k5, by decide⟩, fun k hk => absurd hk (by omega), g5_, g6_, g7_⟩, ht, relA_0, hp, h9⟩
  · exact (hx.elim m1 m2).elim
  · exact (hx2.elim n1 n2).elim
  · refine ⟨by rw [e1, k1], ?_⟩
    rw [e2, e3, e4, e5, e6, k2, k4, k5]
    exact ⟨R, M, a, sp, o, bk, on, T, ⟨h0, h1, h2, ⟨h3.1, h3b⟩, h4, h5, h6, h7⟩, ⟨g0_, g1_, g2_, g3_, g4_, g5_, g6_, g7_⟩, ht, ha, hp, h9⟩
theorem byte_same {w : Int64} {k : Nat} (h : okB w k) : byteC w k = (byteL w k).toInt32 ∧ 32 ≤ ((byteL w k).toInt32).toInt ∧ ((byteL w k).toInt32).toInt ≤ 126 := by
  have e := byte_int w k
  unfold okB at h
  rw [Int64.le_iff_toInt_le, Int64.le_iff_toInt_le] at h
  have z1 : (32 : Int64).toInt = 32 := by decide
  have z2 : (126 : Int64).toInt = 126 := by decide
  rw [z1, z2, ← e] at h
  refine ⟨?_, h⟩
  unfold byteC
  generalize (byteL w k).toInt32 = b at h
  obtain ⟨hb, -⟩ := nI_at (x := b) (by omega)
  have hlt : b.toInt.toNat < 127 := by omega
  generalize b.toInt.toNat = n at hb hlt
  subst hb
  clear h e z1 z2
  revert n
  decide +kernel

theorem isC_c {t u : Nat → Int32} {T j k : Nat} (h : ∀ q : Nat, q < T → t q = u q) : isC t T j k ↔ isC u T j k := by
  unfold isC
  exact ⟨fun g => ⟨g.1, by rw [← h j g.1]; exact g.2⟩, fun g => ⟨g.1, by rw [h j g.1]; exact g.2⟩⟩
theorem sk_c {t u : Nat → Int32} {T a j : Nat} (h : ∀ q : Nat, q < T → t q = u q) (g : IsSkip t T a j) : IsSkip u T a j :=
  ⟨g.1, g.2.1, fun v h1 h2 => by rw [← h v (by have := g.2.1; omega)]; exact g.2.2.1 v h1 h2, fun k => by rw [← h j k]; exact g.2.2.2 k⟩
theorem dg_c {t u : Nat → Int32} {T a j : Nat} (h : ∀ q : Nat, q < T → t q = u q) (g : IsDigs t T a j) : IsDigs u T a j :=
  ⟨g.1, g.2.1, fun v h1 h2 => by rw [← h v (by have := g.2.1; omega)]; exact g.2.2.1 v h1 h2, fun k => by rw [← h j k]; exact g.2.2.2 k⟩
theorem dV_c {t u : Nat → Int32} {T b : Nat} (h : ∀ q : Nat, q < T → t q = u q) : ∀ k : Nat, b + k ≤ T → digV t b k = digV u b k
  | 0, _ => rfl
  | k + 1, hk => by rw [digV, digV, dV_c h k (by omega), h (b + k) (by omega)]
theorem ok_c {t u : Nat → Int32} {T p p3 : Nat} {v : Int32} (h : ∀ q : Nat, q < T → t q = u q) (g : nmOk t T p p3 v) : nmOk u T p p3 v := by
  obtain ⟨j1, j2, ng, h1, h2, h3, h4, h5, h6, h7⟩ := g
  have e := dV_c h (b := j2) (p3 - j2) (by have := h5.2.1; have := h5.1; omega)
  rw [e] at h6 h7
  exact ⟨j1, j2, ng, sk_c h h1, h2.trans (isC_c h), sk_c h h3, ⟨h4.1, by rw [← h j2 h4.1]; exact h4.2⟩, dg_c h h5, h6, h7⟩
theorem bad_c {t u : Nat → Int32} {T p q : Nat} (h : ∀ q : Nat, q < T → t q = u q) (g : nmBad t T p q) : nmBad u T p q := by
  obtain ⟨j1, ng, h1, h2, h3, h4⟩ := g
  refine ⟨j1, ng, sk_c h h1, h2.trans (isC_c h), sk_c h h3, ?_⟩
  rcases h4 with h4 | ⟨j3, h5, h6⟩
  · exact Or.inl (fun k => h4 ⟨k.1, by rw [h q k.1]; exact k.2⟩)
  · have e := dV_c h (b := q) (j3 - q) (by have := h5.2.1; have := h5.1; omega)
    rw [e] at h6
    exact Or.inr ⟨j3, dg_c h h5, h6⟩
theorem pR_c {t u : Nat → Int32} {T : Nat} (hh : ∀ q : Nat, q < T → t q = u q) : ∀ (f h w r p : Nat) (res : Int32) (H W : Nat) (V : Nat → Nat → Int32), pR t T f h w r p res H W V → pR u T f h w r p res H W V
  | 0, _, _, _, _, _, _, _, _, g => g.elim
  | f + 1, h, w, r, p, res, H, W, V, g => by
    rcases g with ⟨q, g1, g2⟩ | ⟨p3, v, j, go, gv, gj, gm⟩
    · exact Or.inl ⟨q, bad_c hh g1, g2⟩
    · refine Or.inr ⟨p3, v, j, ok_c hh go, gv, sk_c hh gj, ?_⟩
      rcases gm with a1 | ⟨a1, a2⟩ | ⟨a1, a2⟩ | ⟨a1, a2, a3, a4⟩
      · exact Or.inl a1
      · exact Or.inr (Or.inl ⟨⟨(isC_c hh).mp a1.1, a1.2⟩, pR_c hh f h w (r + 1) (j + 1) res H W V a2⟩)
      · exact Or.inr (Or.inr (Or.inl ⟨⟨(isC_c hh).mp a1.1, a1.2⟩, pR_c hh f (h + 1) (r + 1) 0 (j + 1) res H W V a2⟩))
      · exact Or.inr (Or.inr (Or.inr ⟨a1, fun k => a2 ⟨(isC_c hh).mpr k.1, k.2⟩, fun k => a3 ⟨(isC_c hh).mpr k.1, k.2⟩, a4⟩))
theorem relP_ty {T n : Nat} {w : Int64} {a150 b150 f9 b9_ : Nat → Int32} (h : RelP T b150 b9_) (hk : ∀ t : Nat, t < n → okB w t) (h1 : ∀ q : Nat, q < T → a150 q = b150 q) (h2 : ∀ i : Nat, i < n → a150 (T + (n - 1 - i)) = byteC w i) (k1 : ∀ q : Nat, q < T → f9 q = b9_ q) (k2 : ∀ i : Nat, i < n → f9 (T + (n - 1 - i)) = (byteL w i).toInt32) : RelP (T + n) a150 f9 := fun q hq => by
  by_cases e : q < T
  · rw [h1 q e, k1 q e]
    exact h q e
  · have e2 : q = T + (n - 1 - (n - 1 - (q - T))) := by omega
    obtain ⟨b1, b2, b3⟩ := byte_same (hk (n - 1 - (q - T)) (by omega))
    rw [e2, h2 _ (by omega), k2 _ (by omega)]
    exact ⟨b1, b2, b3⟩
theorem jx_type {t : Nat} {I : Nat → Int32} {A : Nat → Nat → Int32} {Q : Nat → Nat → Int64} {G : Nat → Nat → Nat → Int32} {rI : Nat → Int32} {rA : Nat → Nat → Int32} {R M a sp o bk on T : Nat} {w : Int64} {x r1 r2 i151 x10 : Int32} {a150 f9 : Nat → Int32} (hc : cIn t R M a sp o bk on T (I 120) (I 121) (I 122) (I 123) (I 144) (I 145) (I 146) (I 151) (A 140) (A 141)) (hr : rIn R M a bk on T (rI 0) (rI 1) (rI 2) (rI 4) (rI 5) (rI 10) (rA 3) (rA 6) (rA 7) (rA 8) (rA 26)) (ht : RelT R M (A 136) (G 0) (rA 3)) (ha : RelA R M o bk on (A 140) (A 141) (A 142) (A 143) (rA 6) (rA 7) (rA 8)) (hp : RelP T (A 150) (rA 9)) (h9 : H999 R (rA 3)) (hf1 : (∃ n : Nat, 1 ≤ n ∧ n ≤ 8 ∧ x = nI n ∧ r1 = nI (T + n) ∧ (∀ t : Nat, t < n → okB w t) ∧ T + n ≤ 90 ∧ i151 = nI (T + n) ∧ (∀ q : Nat, q < T → a150 q = A 150 q) ∧ ∀ i : Nat, i < n → a150 (T + (n - 1 - i)) = byteC w i) ∨ (∃ n : Nat, 1 ≤ n ∧ n ≤ 8 ∧ x = nI n ∧ r1 = -3 ∧ (∀ t : Nat, t < n → okB w t) ∧ 90 < T + n ∧ i151 = I 151 ∧ a150 = A 150) ∨ (r1 = -1 ∧ (∀ n : Nat, 1 ≤ n → n ≤ 8 → x = nI n → (∀ t : Nat, t < n → okB w t) → False) ∧ i151 = I 151 ∧ a150 = A 150)) (hf2 : (∃ n : Nat, 1 ≤ n ∧ n ≤ 8 ∧ x = nI n ∧ r2 = nI (T + n) ∧ (∀ t : Nat, t < n → okB w t) ∧ T + n ≤ 90 ∧ x10 = nI (T + n) ∧ (∀ q : Nat, q < T → f9 q = rA 9 q) ∧ ∀ i : Nat, i < n → f9 (T + (n - 1 - i)) = (byteL w i).toInt32) ∨ (∃ n : Nat, 1 ≤ n ∧ n ≤ 8 ∧ x = nI n ∧ r2 = -3 ∧ (∀ t : Nat, t < n → okB w t) ∧ 90 < T + n ∧ x10 = rI 10 ∧ f9 = rA 9) ∨ (r2 = -1 ∧ (∀ n : Nat, 1 ≤ n → n ≤ 8 → x = nI n → (∀ t : Nat, t < n → okB w t) → False) ∧ x10 = rI 10 ∧ f9 = rA 9)) : r1 = r2 ∧ JX (t + 1) (I 120) (I 121) (I 122) (I 123) (I 144) (I 145) (I 146) i151 (A 140) (A 141) (A 142) (A 143) (A 136) a150 (G 0) (rI 0) (rI 1) (rI 2) (rI 4) (rI 5) x10 (rA 3) (rA 6) (rA 7) (rA 8) f9 (rA 26) := by
  obtain ⟨h0, h1, h2, h3, h4, h5, h6, h7⟩ := hc
  obtain ⟨g0_, g1_, g2_, g3_, g4_, g5_, g6_, g7_⟩ := hr
  have h3b : sp ≤ 30 * (t + 1) + 1 := by omega
  rcases hf1 with ⟨n, a1, a2, ex, e1, hk, hl, e2, e3, e4⟩ | ⟨n, a1, a2, ex, e1, hk, hl, e2, e3⟩ | ⟨e1, hn, e2, e3⟩ <;> rcases hf2 with ⟨n2, c1, c2, ey, k1, hk2, hl2, k2, k3, k4⟩ | ⟨n2, c1, c2, ey, k1, hk2, hl2, k2, k3⟩ | ⟨k1, hn2, k2, k3⟩
  · obtain rfl : n = n2 := (nI_eq (by omega) (by omega)).mp (ex.symm.trans ey)
    exact ⟨by rw [e1, k1], R, M, a, sp, o, bk, on, T + n, ⟨h0, h1, h2, ⟨h3.1, h3b⟩, h4, h5, h6, ⟨e2, hl⟩⟩, ⟨g0_, g1_, g2_, g3_, g4_, ⟨k2, hl⟩, g6_, g7_⟩, ht, ha, relP_ty hp hk e3 e4 k3 k4, h9⟩
  · obtain rfl : n = n2 := (nI_eq (by omega) (by omega)).mp (ex.symm.trans ey)
    omega
  · exact (hn2 n a1 a2 ex hk).elim
  · obtain rfl : n = n2 := (nI_eq (by omega) (by omega)).mp (ex.symm.trans ey)
    omega
  · refine ⟨by rw [e1, k1], ?_⟩
    rw [e2, e3, k2, k3]
    exact ⟨R, M, a, sp, o, bk, on, T, ⟨h0, h1, h2, ⟨h3.1, h3b⟩, h4, h5, h6, h7⟩, ⟨g0_, g1_, g2_, g3_, g4_, g5_, g6_, g7_⟩, ht, ha, hp, h9⟩
  · exact (hn2 n a1 a2 ex hk).elim
  · exact (hn n2 c1 c2 ey hk2).elim
  · exact (hn n2 c1 c2 ey hk2).elim
  · refine ⟨by rw [e1, k1], ?_⟩
    rw [e2, e3, k2, k3]
    exact ⟨R, M, a, sp, o, bk, on, T, ⟨h0, h1, h2, ⟨h3.1, h3b⟩, h4, h5, h6, h7⟩, ⟨g0_, g1_, g2_, g3_, g4_, g5_, g6_, g7_⟩, ht, ha, hp, h9⟩
theorem relP_nz {T : Nat} {a150 b9_ : Nat → Int32} (h : RelP T a150 b9_) : ∀ u : Nat, u < T → ¬ a150 u = -1 := fun u hu e => by
  obtain ⟨h1, h2, h3⟩ := h u hu
  rw [← h1, e] at h2
  exact absurd h2 (by decide)
theorem relP_nz2 {T : Nat} {a150 b9_ : Nat → Int32} (h : RelP T a150 b9_) : ∀ u : Nat, u < T → ¬ b9_ u = nI 0 := fun u hu e => by
  obtain ⟨h1, h2, h3⟩ := h u hu
  rw [e] at h2
  exact absurd h2 (by decide)
theorem relP_0 {a150 b9_ : Nat → Int32} : RelP 0 a150 b9_ := fun q hq => absurd hq (Nat.not_lt_zero q)
theorem jx_read {t : Nat} {I : Nat → Int32} {A : Nat → Nat → Int32} {Q : Nat → Nat → Int64} {G : Nat → Nat → Nat → Int32} {rI : Nat → Int32} {rA : Nat → Nat → Int32} {R M a sp o bk on T : Nat} {r1 r2 i120 i121 i123 i144 i145 i146 i151 j0 j1 j4 j5 j10 : Int32} {a136 b3 : Nat → Int32} {g0 : Nat → Nat → Int32} (hc : cIn t R M a sp o bk on T (I 120) (I 121) (I 122) (I 123) (I 144) (I 145) (I 146) (I 151) (A 140) (A 141)) (hr : rIn R M a bk on T (rI 0) (rI 1) (rI 2) (rI 4) (rI 5) (rI 10) (rA 3) (rA 6) (rA 7) (rA 8) (rA 26)) (ht : RelT R M (A 136) (G 0) (rA 3)) (ha : RelA R M o bk on (A 140) (A 141) (A 142) (A 143) (rA 6) (rA 7) (rA 8)) (hp : RelP T (A 150) (rA 9)) (h9 : H999 R (rA 3)) (hf1 : i151 = nI 0 ∧ ((∃ (h7 w7 s2 : Nat) (V : Nat → Nat → Int32), 1 ≤ h7 ∧ h7 ≤ 5 ∧ 1 ≤ w7 ∧ w7 ≤ 4 ∧ sp < s2 ∧ s2 ≤ sp + 25 ∧ r1 = nI h7 ∧ i120 = nI h7 ∧ i121 = nI w7 ∧ i123 = nI s2 ∧ i144 = nI 0 ∧ i145 = nI 0 ∧ i146 = nI 0 ∧ pR (A 150) T 20 0 0 0 0 (nI 0) h7 w7 V ∧ (∀ i j : Nat, i < h7 → j < w7 → g0 i j = V i j) ∧ ∀ t : Nat, t < 5 → a136 t = nI 0) ∨ (∃ (q : Nat) (V : Nat → Nat → Int32), q ≤ T ∧ r1 = -20 - nI q ∧ pR (A 150) T 20 0 0 0 0 (-20 - nI q) 0 0 V ∧ i120 = I 120 ∧ i121 = I 121 ∧ i123 = I 123 ∧ i144 = I 144 ∧ i145 = I 145 ∧ i146 = I 146 ∧ a136 = A 136 ∧ g0 = G 0))) (hf2 : j10 = nI 0 ∧ ((∃ (i j : Nat) (V : Nat → Nat → Int32), 1 ≤ i ∧ i ≤ 5 ∧ 1 ≤ j ∧ j ≤ 4 ∧ r2 = nI i ∧ j0 = nI i ∧ j1 = nI j ∧ j4 = nI 0 ∧ j5 = nI 0 ∧ (∀ q : Nat, q < 25 → b9 (b3 q)) ∧ pR (rA 9) T 20 0 0 0 0 (nI 0) i j V ∧ (∀ a b : Nat, a < i → b < j → b3 (5 * a + b) = V a b) ∧ ∀ a : Nat, a < 5 → b3 (5 * a + 4) = nI 0) ∨ (∃ (q : Nat) (V : Nat → Nat → Int32), q ≤ T ∧ r2 = -20 - nI q ∧ pR (rA 9) T 20 0 0 0 0 (-20 - nI q) 0 0 V ∧ j0 = rI 0 ∧ j1 = rI 1 ∧ j4 = rI 4 ∧ j5 = rI 5 ∧ b3 = rA 3))) : r1 = r2 ∧ JX (t + 1) i120 i121 (I 122) i123 i144 i145 i146 i151 (A 140) (A 141) (A 142) (A 143) a136 (A 150) g0 j0 j1 (rI 2) j4 j5 j10 b3 (rA 6) (rA 7) (rA 8) (rA 9) (rA 26) := by
  obtain ⟨h0, h1, h2, h3, h4, h5, h6, h7⟩ := hc
  obtain ⟨g0_, g1_, g2_, g3_, g4_, g5_, g6_, g7_⟩ := hr
  have h3b : sp ≤ 30 * (t + 1) + 1 := by omega
  have hq : ∀ q : Nat, q < T → rA 9 q = A 150 q := fun q hq => (hp q hq).1.symm
  obtain ⟨e0, ⟨h8, w8, s2, V, b1, b2, b3_, b4, b5, b6_, e9, e1, e2, e3, e4, e5, e6, hp1, z1, z2⟩ | ⟨q1, V, hq1, e9, hp1, e1, e2, e3, e4, e5, e6, e7, e8⟩⟩ := hf1
  · obtain ⟨k0, ⟨i, j, V2, c1, c2, c3, c4, k9, k1, k2, k4, k5, hb, hp2, y1, y2⟩ | ⟨q2, V2, hq2, k9, hp2, k1, k2, k4, k5, k3⟩⟩ := hf2
    · obtain ⟨-, hu⟩ := pR_u h7.2 _ _ _ _ _ _ _ _ _ _ _ _ _ _ hp1 (pR_c hq _ _ _ _ _ _ _ _ _ hp2)
      obtain ⟨u1, u2, u3⟩ := hu rfl
      subst u1 u2
      refine ⟨by rw [e9, k9], h8, w8, a, s2, 0, 0, 0, 0, ⟨⟨e1, b1, b2⟩, ⟨e2, b3_, b4⟩, h2, ⟨e3, by omega⟩, ⟨e4, by decide⟩, ⟨e5, e6, by decide⟩, fun k hk => absurd hk (by omega), ⟨e0, by decide⟩⟩, ⟨⟨k1, b1, b2⟩, ⟨k2, b3_, b4⟩, g2_, ⟨k4, k5, by decide⟩, fun k hk => absurd hk (by omega), ⟨k0, by decide⟩, tb9_0 b2 b4 hb, g7_⟩, ?_, relA_0, relP_0, h999_0 b2 y2⟩
      intro i9 j9 hi hj
      unfold atF plc
      by_cases e : j9 = w8
      · rw [if_pos e, if_pos e, z2 i9 (by omega), y2 i9 (by omega)]
      · rw [if_neg e, if_neg e, z1 i9 j9 hi (by omega), y1 i9 j9 hi (by omega)]
        exact u3 i9 j9 (by omega) hi (by omega)
    · obtain ⟨hu, -⟩ := pR_u h7.2 _ _ _ _ _ _ _ _ _ _ _ _ _ _ hp1 (pR_c hq _ _ _ _ _ _ _ _ _ hp2)
      exact absurd hu.symm (fault_ne0 (by omega))
  · obtain ⟨k0, ⟨i, j, V2, c1, c2, c3, c4, k9, k1, k2, k4, k5, hb, hp2, y1, y2⟩ | ⟨q2, V2, hq2, k9, hp2, k1, k2, k4, k5, k3⟩⟩ := hf2
    · obtain ⟨hu, -⟩ := pR_u h7.2 _ _ _ _ _ _ _ _ _ _ _ _ _ _ hp1 (pR_c hq _ _ _ _ _ _ _ _ _ hp2)
      exact absurd hu (fault_ne0 (by omega))
    · obtain ⟨hu, -⟩ := pR_u h7.2 _ _ _ _ _ _ _ _ _ _ _ _ _ _ hp1 (pR_c hq _ _ _ _ _ _ _ _ _ hp2)
      refine ⟨by rw [e9, k9, hu], ?_⟩
      rw [e1, e2, e3, e4, e5, e6, e7, e8, k1, k2, k3, k4, k5]
      exact ⟨R, M, a, sp, o, bk, on, 0, ⟨h0, h1, h2, ⟨h3.1, h3b⟩, h4, h5, h6, ⟨e0, by decide⟩⟩, ⟨g0_, g1_, g2_, g3_, g4_, ⟨k0, by decide⟩, g6_, g7_⟩, ht, ha, relP_0, h9⟩
theorem relQ_at {Q : Nat → Nat → Int64} {b27 : Nat → Int32} (h : RelQ (Q 228) (Q 229) (Q 230) (Q 231) b27) : ∀ s t : Nat, s < 4 → t < 25 → Q (228 + s) t = (b27 (25 * s + t)).toInt64 := fun s t hs ht => by
  obtain ⟨h1, h2, h3, h4⟩ := h t ht
  rcases (show s = 0 ∨ s = 1 ∨ s = 2 ∨ s = 3 by omega) with rfl | rfl | rfl | rfl
  · exact h1
  · exact h2
  · exact h3
  · exact h4
theorem okv_I {M t j : Nat} {v : Int32} (e : t % (M + 1) = j) : okv M t v ↔ okI M j v.toInt64 := by
  unfold okv okI lim9
  rw [e, to64]
  split <;> exact Iff.rfl
theorem divmod {M i j : Nat} (hj : j ≤ M) : (i * (M + 1) + j) / (M + 1) = i ∧ (i * (M + 1) + j) % (M + 1) = j := by
  constructor
  · rw [Nat.mul_comm, Nat.mul_add_div (by omega), Nat.div_eq_of_lt (by omega), Nat.add_zero]
  · rw [Nat.mul_comm, Nat.mul_add_mod, Nat.mod_eq_of_lt (by omega)]
theorem tk_iff {R M s i9 : Nat} {Q : Nat → Nat → Int64} {b27 : Nat → Int32} (hs : s < 4) (hi : i9 + R * (M + 1) ≤ 25) (h : RelQ (Q 228) (Q 229) (Q 230) (Q 231) b27) : tkI (Q (228 + s)) i9 M R 0 ↔ ∀ t : Nat, t < R * (M + 1) → okv M t (b27 (25 * s + i9 + t)) := by
  constructor
  · intro hk t ht
    have d1 : t / (M + 1) < R := (Nat.div_lt_iff_lt_mul (by omega)).mpr ht
    have d2 : t % (M + 1) < M + 1 := Nat.mod_lt _ (by omega)
    have d3 : t / (M + 1) * (M + 1) + t % (M + 1) = t := by
      have := Nat.div_add_mod t (M + 1)
      rw [Nat.mul_comm] at this
      exact this
    have q := hk (t / (M + 1)) (t % (M + 1)) (by omega) (Or.inl d1)
    rw [d3, relQ_at h s (i9 + t) hs (by omega), ← Nat.add_assoc] at q
    exact (okv_I rfl).mpr q
  · intro hk i j hj hi2
    have hl := ix_lt (R := R) (M := M) (n := i) (k := j) (by omega) hj
    rw [relQ_at h s (i9 + (i * (M + 1) + j)) hs (by omega), ← Nat.add_assoc]
    exact (okv_I (divmod hj).2).mp (hk _ hl)
theorem rows_rel {R M s i9 : Nat} {Q : Nat → Nat → Int64} {b27 he f3 : Nat → Int32} {g : Nat → Nat → Int32} (hs : s < 4) (hi : i9 + R * (M + 1) ≤ 25) (h : RelQ (Q 228) (Q 229) (Q 230) (Q 231) b27) (hc : cpI (Q (228 + s)) i9 M R 0 he g) (hf : ∀ t : Nat, t < R * (M + 1) → okv M t (b27 (25 * s + i9 + t)) ∧ f3 (plc M (t / (M + 1)) (t % (M + 1))) = b27 (25 * s + i9 + t)) : RelT R M he g f3 := fun i j hi2 hj => by
  have hl := ix_lt (R := R) (M := M) (n := i) (k := j) hi2 hj
  obtain ⟨d1, d2⟩ := divmod (i := i) hj
  have q := (hf _ hl).2
  rw [d1, d2] at q
  rw [hc i j hj (Or.inl hi2), q, relQ_at h s (i9 + (i * (M + 1) + j)) hs (by omega), ← Nat.add_assoc, Int32.toInt32_toInt64]
theorem rows_999 {R M k9 : Nat} {f f27 : Nat → Int32} (hf : ∀ t : Nat, t < R * (M + 1) → okv M t (f27 (k9 + t)) ∧ f (plc M (t / (M + 1)) (t % (M + 1))) = f27 (k9 + t)) : H999 R f := fun i hi => by
  have hl := ix_lt (R := R) (M := M) (n := i) (k := M) hi (Nat.le_refl M)
  obtain ⟨d1, d2⟩ := divmod (i := i) (Nat.le_refl M)
  obtain ⟨q1, q2⟩ := hf _ hl
  rw [d1, d2, plc_M] at q2
  unfold okv at q1
  rw [d2, if_pos rfl] at q1
  rw [q2]
  exact q1
/-- what both sides refuse, or that neither does -/
theorem rf_rows {x y z : Int32} {c9 : Nat} {r1 : Int32} {I : Nat → Int32} {b25 b26 : Nat → Int32} (h : S4 (I 220) (I 224) (I 221) (I 225) (I 222) (I 226) (I 223) (I 227) b25 b26) (hne : ¬ r1 = nI 0) (hf : rfP I x y z c9 r1) : (r1 = -1 ∧ ∀ i j : Nat, i < 4 → j < 3 → x = nI i → y = nI j → False) ∨ ∃ s v : Nat, s < 4 ∧ v < 3 ∧ x = nI s ∧ y = nI v ∧ ((r1 = -11 ∧ b25 s < 0) ∨ (r1 = -12 ∧ 0 ≤ b25 s ∧ ¬ b25 s = nI v) ∨ (r1 = -13 ∧ b25 s = nI v ∧ ∃ ln : Nat, ln ≤ 25 ∧ b26 s = nI ln ∧ ∀ i : Nat, i + c9 ≤ ln → z = nI i → False)) := by
  rcases hf with ⟨e1, hn⟩ | ⟨s, v, hs, hv, ex, ey, hc⟩
  · exact Or.inl ⟨e1, hn⟩
  · refine Or.inr ⟨s, v, hs, hv, ex, ey, ?_⟩
    obtain ⟨ln, b1, b2, ⟨b3, b4⟩ | ⟨u, b3, b4, b5, b6⟩⟩ := S4_at h s hs
    · rcases hc with ⟨-, d⟩ | ⟨d, -⟩ | ⟨d, -⟩
      · exact Or.inl ⟨d, by rw [b4]; decide⟩
      · exact absurd b3 d
      · exact absurd b3 d
    · rcases hc with ⟨d, -⟩ | ⟨-, d, e⟩ | ⟨-, d, ⟨e, k⟩ | ⟨e, -⟩⟩
      · exact absurd (d.symm.trans b4) (neg1_nI (by omega))
      · exact Or.inr (Or.inl ⟨e, Int32.not_lt.mp (nI_nn (by omega) b5), fun q => d (b4.trans (b5.symm.trans q))⟩)
      · exact Or.inr (Or.inr ⟨e, b5.trans (b4.symm.trans d), ln, b1, b6, fun i q1 q2 => k i ln b1 q2 b2 q1⟩)
      · exact absurd e hne
theorem jx_rows {t : Nat} {I : Nat → Int32} {A : Nat → Nat → Int32} {Q : Nat → Nat → Int64} {G : Nat → Nat → Nat → Int32} {rI : Nat → Int32} {rA : Nat → Nat → Int32} {R M a sp o bk on T : Nat} {x y z r1 r2 i123 i144 i145 i146 x4 x5 : Int32} {a136 f3 : Nat → Int32} {g0 : Nat → Nat → Int32} (hc : cIn t R M a sp o bk on T (I 120) (I 121) (I 122) (I 123) (I 144) (I 145) (I 146) (I 151) (A 140) (A 141)) (hr : rIn R M a bk on T (rI 0) (rI 1) (rI 2) (rI 4) (rI 5) (rI 10) (rA 3) (rA 6) (rA 7) (rA 8) (rA 26)) (ht : RelT R M (A 136) (G 0) (rA 3)) (ha : RelA R M o bk on (A 140) (A 141) (A 142) (A 143) (rA 6) (rA 7) (rA 8)) (hp : RelP T (A 150) (rA 9)) (h9 : H999 R (rA 3)) (hs4 : S4 (I 220) (I 224) (I 221) (I 225) (I 222) (I 226) (I 223) (I 227) (rA 25) (rA 26)) (hq : RelQ (Q 228) (Q 229) (Q 230) (Q 231) (rA 27)) (hf1 : (¬ r1 = nI 0 ∧ rfP I x y z (R * (M + 1)) r1 ∧ a136 = A 136 ∧ g0 = G 0 ∧ i123 = I 123 ∧ i144 = I 144 ∧ i145 = I 145 ∧ i146 = I 146) ∨ (∃ s w i ln : Nat, s < 4 ∧ w < 3 ∧ ln ≤ 25 ∧ x = nI s ∧ y = nI w ∧ z = nI i ∧ ¬ I (220 + s) = -1 ∧ I (220 + s) = nI w ∧ I (224 + s) = nI ln ∧ i + R * (M + 1) ≤ ln ∧ ((¬ tkI (Q (228 + s)) i M R 0 ∧ r1 = -2 ∧ a136 = A 136 ∧ g0 = G 0 ∧ i123 = I 123 ∧ i144 = I 144 ∧ i145 = I 145 ∧ i146 = I 146) ∨ (tkI (Q (228 + s)) i M R 0 ∧ r1 = nI R ∧ cpI (Q (228 + s)) i M R 0 a136 g0 ∧ (∃ s2 : Nat, sp < s2 ∧ s2 ≤ sp + 25 ∧ i123 = nI s2) ∧ i144 = nI 0 ∧ i145 = nI 0 ∧ i146 = nI 0)))) (hf2 : (∃ i j : Nat, i < 4 ∧ j < 3 ∧ x = nI i ∧ y = nI j ∧ r2 = nI R ∧ rA 25 i = nI j ∧ ∃ n k : Nat, n ≤ 25 ∧ rA 26 i = nI n ∧ k + R * (M + 1) ≤ n ∧ z = nI k ∧ (∀ t : Nat, t < R * (M + 1) → okv M t (rA 27 (25 * i + k + t)) ∧ f3 (plc M (t / (M + 1)) (t % (M + 1))) = rA 27 (25 * i + k + t)) ∧ x4 = nI 0 ∧ x5 = nI 0) ∨ (∃ i j : Nat, i < 4 ∧ j < 3 ∧ x = nI i ∧ y = nI j ∧ r2 = -2 ∧ rA 25 i = nI j ∧ ∃ n k : Nat, n ≤ 25 ∧ rA 26 i = nI n ∧ k + R * (M + 1) ≤ n ∧ z = nI k ∧ (∃ t : Nat, t < R * (M + 1) ∧ ¬ okv M t (rA 27 (25 * i + k + t))) ∧ x4 = rI 4 ∧ x5 = rI 5 ∧ f3 = rA 3) ∨ (∃ i j : Nat, i < 4 ∧ j < 3 ∧ x = nI i ∧ y = nI j ∧ r2 = -13 ∧ rA 25 i = nI j ∧ ∃ n : Nat, n ≤ 25 ∧ rA 26 i = nI n ∧ (∀ k : Nat, k + R * (M + 1) ≤ n → z = nI k → False) ∧ x4 = rI 4 ∧ x5 = rI 5 ∧ f3 = rA 3) ∨ (∃ i j : Nat, i < 4 ∧ j < 3 ∧ x = nI i ∧ y = nI j ∧ r2 = -12 ∧ 0 ≤ rA 25 i ∧ ¬ rA 25 i = nI j ∧ x4 = rI 4 ∧ x5 = rI 5 ∧ f3 = rA 3) ∨ (∃ i j : Nat, i < 4 ∧ j < 3 ∧ x = nI i ∧ y = nI j ∧ r2 = -11 ∧ rA 25 i < 0 ∧ x4 = rI 4 ∧ x5 = rI 5 ∧ f3 = rA 3) ∨ (r2 = -1 ∧ (∀ i j : Nat, i < 4 → j < 3 → x = nI i → y = nI j → False) ∧ x4 = rI 4 ∧ x5 = rI 5 ∧ f3 = rA 3)) : r1 = r2 ∧ JX (t + 1) (I 120) (I 121) (I 122) i123 i144 i145 i146 (I 151) (A 140) (A 141) (A 142) (A 143) a136 (A 150) g0 (rI 0) (rI 1) (rI 2) x4 x5 (rI 10) f3 (rA 6) (rA 7) (rA 8) (rA 9) (rA 26) := by
  obtain ⟨h0, h1, h2, h3, h4, h5, h6, h7⟩ := hc
  obtain ⟨g0_, g1_, g2_, g3_, g4_, g5_, g6_, g7_⟩ := hr
  have h3b : sp ≤ 30 * (t + 1) + 1 := by omega
  have hRM : R * (M + 1) ≤ 25 := Nat.mul_le_mul h0.2.2 (Nat.succ_le_succ h1.2.2)
  rcases hf1 with ⟨hne, hrf, e1, e2, e3, e4, e5, e6⟩ | ⟨s, w, i9, ln, hs, hw, hln, ex, ey, ez, hl1, hl2, hl3, hil, hcase⟩
  · have key : r1 = r2 ∧ x4 = rI 4 ∧ x5 = rI 5 ∧ f3 = rA 3 := by
      rcases rf_rows hs4 hne hrf with ⟨d1, d2⟩ | ⟨s, v, hs, hv, ex, ey, hc⟩
      · rcases hf2 with ⟨i2, j2, c1, c2, fx, fy, -⟩ | ⟨i2, j2, c1, c2, fx, fy, -⟩ | ⟨i2, j2, c1, c2, fx, fy, -⟩ | ⟨i2, j2, c1, c2, fx, fy, -⟩ | ⟨i2, j2, c1, c2, fx, fy, -⟩ | ⟨k0, -, k1, k2, k3⟩
        · exact (d2 i2 j2 c1 c2 fx fy).elim
        · exact (d2 i2 j2 c1 c2 fx fy).elim
        · exact (d2 i2 j2 c1 c2 fx fy).elim
        · exact (d2 i2 j2 c1 c2 fx fy).elim
        · exact (d2 i2 j2 c1 c2 fx fy).elim
        · exact ⟨d1.trans k0.symm, k1, k2, k3⟩
      · rcases hf2 with ⟨i2, j2, c1, c2, fx, fy, k0, l1, n2, m2, c3, l2, l3, fz, -⟩ | ⟨i2, j2, c1, c2, fx, fy, k0, l1, n2, m2, c3, l2, l3, fz, -⟩ | ⟨i2, j2, c1, c2, fx, fy, k0, l1, n2, c3, l2, l3, k1, k2, k3⟩ | ⟨i2, j2, c1, c2, fx, fy, k0, l1, l2, k1, k2, k3⟩ | ⟨i2, j2, c1, c2, fx, fy, k0, l1, k1, k2, k3⟩ | ⟨k0, hno, -⟩
        rotate_left 5
        · exact (hno s v hs hv ex ey).elim
        all_goals
          obtain rfl : s = i2 := (nI_eq (by omega) (by omega)).mp (ex.symm.trans fx)
          obtain rfl : v = j2 := (nI_eq (by omega) (by omega)).mp (ey.symm.trans fy)
          rcases hc with ⟨d0, d1⟩ | ⟨d0, d1, d2⟩ | ⟨d0, d1, l9, d2, d3, d4⟩
        · exact absurd d1 (nI_nn (by omega) l1)
        · exact absurd l1 d2
        · obtain rfl : l9 = n2 := (nI_eq (by omega) (by omega)).mp (d3.symm.trans l2)
          exact (d4 m2 l3 fz).elim
        · exact absurd d1 (nI_nn (by omega) l1)
        · exact absurd l1 d2
        · obtain rfl : l9 = n2 := (nI_eq (by omega) (by omega)).mp (d3.symm.trans l2)
          exact (d4 m2 l3 fz).elim
        · exact absurd d1 (nI_nn (by omega) l1)
        · exact absurd l1 d2
        · exact ⟨d0.trans k0.symm, k1, k2, k3⟩
        · exact absurd d1 (Int32.not_lt.mpr l1)
        · exact ⟨d0.trans k0.symm, k1, k2, k3⟩
        · exact absurd d1 l2
        · exact ⟨d0.trans k0.symm, k1, k2, k3⟩
        · exact absurd l1 (Int32.not_lt.mpr d1)
        · exact absurd l1 (nI_nn (by omega) d1)
    obtain ⟨k0, k1, k2, k3⟩ := key
    refine ⟨k0, ?_⟩
    rw [e1, e2, e3, e4, e5, e6, k1, k2, k3]
    exact ⟨R, M, a, sp, o, bk, on, T, ⟨h0, h1, h2, ⟨h3.1, h3b⟩, h4, h5, h6, h7⟩, ⟨g0_, g1_, g2_, g3_, g4_, g5_, g6_, g7_⟩, ht, ha, hp, h9⟩
  · obtain ⟨l9, b1, b2, ⟨b3, b4⟩ | ⟨u, b3, b4, b5, b6⟩⟩ := S4_at hs4 s hs
    · exact absurd b3 hl1
    · obtain rfl : l9 = ln := (nI_eq (by omega) (by omega)).mp (b2.symm.trans hl3)
      obtain rfl : u = w := (nI_eq (by omega) (by omega)).mp (b4.symm.trans hl2)
      have hiff := tk_iff (i9 := i9) (R := R) (M := M) hs (by omega) hq
      rcases hf2 with ⟨i2, j2, c1, c2, fx, fy, k0, l1, n2, m2, c3, l2, l3, fz, hz, k1, k2⟩ | ⟨i2, j2, c1, c2, fx, fy, k0, l1, n2, m2, c3, l2, l3, fz, ⟨t9, ht9, hno9⟩, k1, k2, k3⟩ | ⟨i2, j2, c1, c2, fx, fy, k0, l1, n2, c3, l2, l3, -⟩ | ⟨i2, j2, c1, c2, fx, fy, k0, l1, l2, -⟩ | ⟨i2, j2, c1, c2, fx, fy, k0, l1, -⟩ | ⟨k0, hno, -⟩
      rotate_left 5
      · exact (hno s u hs hw ex ey).elim
      all_goals
        obtain rfl : s = i2 := (nI_eq (by omega) (by omega)).mp (ex.symm.trans fx)
        obtain rfl : u = j2 := (nI_eq (by omega) (by omega)).mp (ey.symm.trans fy)
      · obtain rfl : l9 = n2 := (nI_eq (by omega) (by omega)).mp (b6.symm.trans l2)
        obtain rfl : i9 = m2 := (nI_eq (by omega) (by omega)).mp (ez.symm.trans fz)
        rcases hcase with ⟨q1, -⟩ | ⟨q1, e0, q2, ⟨s2, q3, q4, e3⟩, e4, e5, e6⟩
        · exact absurd (hiff.mpr (fun t9 h9 => (hz t9 h9).1)) q1
        · exact ⟨by rw [e0, k0], R, M, a, s2, 0, 0, 0, T, ⟨h0, h1, h2, ⟨e3, by omega⟩, ⟨e4, by decide⟩, ⟨e5, e6, by decide⟩, fun k hk => absurd hk (by omega), h7⟩, ⟨g0_, g1_, g2_, ⟨k1, k2, by decide⟩, fun k hk => absurd hk (by omega), g5_, rows_b9 hz, g7_⟩, rows_rel hs (by omega) hq q2 hz, relA_0, hp, rows_999 hz⟩
      · obtain rfl : l9 = n2 := (nI_eq (by omega) (by omega)).mp (b6.symm.trans l2)
        obtain rfl : i9 = m2 := (nI_eq (by omega) (by omega)).mp (ez.symm.trans fz)
        rcases hcase with ⟨q1, e0, e1, e2, e3, e4, e5, e6⟩ | ⟨q1, -⟩
        · refine ⟨by rw [e0, k0], ?_⟩
          rw [e1, e2, e3, e4, e5, e6, k1, k2, k3]
          exact ⟨R, M, a, sp, o, bk, on, T, ⟨h0, h1, h2, ⟨h3.1, h3b⟩, h4, h5, h6, h7⟩, ⟨g0_, g1_, g2_, g3_, g4_, g5_, g6_, g7_⟩, ht, ha, hp, h9⟩
        · exact absurd (hiff.mp q1 t9 ht9) hno9
      · obtain rfl : l9 = n2 := (nI_eq (by omega) (by omega)).mp (b6.symm.trans l2)
        exact (l3 i9 hil ez).elim
      · exact absurd b5 l2
      · exact absurd l1 (nI_nn (by omega) b5)
theorem jx_sheet {t : Nat} {I : Nat → Int32} {A : Nat → Nat → Int32} {Q : Nat → Nat → Int64} {G : Nat → Nat → Nat → Int32} {rI : Nat → Int32} {rA : Nat → Nat → Int32} {R M a sp o bk on T : Nat} {x y z r2 : Int32} {f25 f26 f27 : Nat → Int32} (hc : cIn t R M a sp o bk on T (I 120) (I 121) (I 122) (I 123) (I 144) (I 145) (I 146) (I 151) (A 140) (A 141)) (hr : rIn R M a bk on T (rI 0) (rI 1) (rI 2) (rI 4) (rI 5) (rI 10) (rA 3) (rA 6) (rA 7) (rA 8) (rA 26)) (ht : RelT R M (A 136) (G 0) (rA 3)) (ha : RelA R M o bk on (A 140) (A 141) (A 142) (A 143) (rA 6) (rA 7) (rA 8)) (hp : RelP T (A 150) (rA 9)) (h9 : H999 R (rA 3)) (hf2 : (∃ i j k : Nat, i < 4 ∧ j < 3 ∧ k ≤ 25 ∧ x = nI i ∧ y = nI j ∧ z = nI k ∧ r2 = nI k ∧ f25 = upd (rA 25) i (nI j) ∧ f26 = upd (rA 26) i (nI k) ∧ (∀ t : Nat, t < 25 → f27 (25 * i + t) = nI 0) ∧ (∀ t : Nat, (t < 25 * i ∨ 25 * i + 25 ≤ t) → f27 t = rA 27 t)) ∨ (r2 = -14 ∧ (∃ i j : Nat, i < 4 ∧ j < 3 ∧ x = nI i ∧ y = nI j) ∧ z < 0 ∧ f25 = rA 25 ∧ f26 = rA 26 ∧ f27 = rA 27) ∨ (r2 = -1 ∧ (∀ i j : Nat, i < 4 → j < 3 → x = nI i → y = nI j → z ≤ nI 25 → False) ∧ f25 = rA 25 ∧ f26 = rA 26 ∧ f27 = rA 27)) : JX (t + 1) (I 120) (I 121) (I 122) (I 123) (I 144) (I 145) (I 146) (I 151) (A 140) (A 141) (A 142) (A 143) (A 136) (A 150) (G 0) (rI 0) (rI 1) (rI 2) (rI 4) (rI 5) (rI 10) (rA 3) (rA 6) (rA 7) (rA 8) (rA 9) f26 := by
  obtain ⟨h0, h1, h2, h3, h4, h5, h6, h7⟩ := hc
  obtain ⟨g0_, g1_, g2_, g3_, g4_, g5_, g6_, g7_⟩ := hr
  have h3b : sp ≤ 30 * (t + 1) + 1 := by omega
  rcases hf2 with ⟨i, j, k, -, -, hk, -, -, -, -, -, e1, -⟩ | ⟨-, -, -, -, e1, -⟩ | ⟨-, -, -, e1, -⟩
  · rw [e1]
    exact ⟨R, M, a, sp, o, bk, on, T, ⟨h0, h1, h2, ⟨h3.1, h3b⟩, h4, h5, h6, h7⟩, ⟨g0_, g1_, g2_, g3_, g4_, g5_, g6_, sz_upd hk g7_⟩, ht, ha, hp, h9⟩
  · rw [e1]
    exact ⟨R, M, a, sp, o, bk, on, T, ⟨h0, h1, h2, ⟨h3.1, h3b⟩, h4, h5, h6, h7⟩, ⟨g0_, g1_, g2_, g3_, g4_, g5_, g6_, g7_⟩, ht, ha, hp, h9⟩
  · rw [e1]
    exact ⟨R, M, a, sp, o, bk, on, T, ⟨h0, h1, h2, ⟨h3.1, h3b⟩, h4, h5, h6, h7⟩, ⟨g0_, g1_, g2_, g3_, g4_, g5_, g6_, g7_⟩, ht, ha, hp, h9⟩
theorem jq_sheet {x y z r1 r2 i220 i221 i222 i223 i224 i225 i226 i227 : Int32} {q228 q229 q230 q231 : Nat → Int64} {f25 f26 f27 : Nat → Int32} {I : Nat → Int32} {Q : Nat → Nat → Int64} {rA : Nat → Nat → Int32} (h : RelQ (Q 228) (Q 229) (Q 230) (Q 231) (rA 27)) (hf1 : (∃ s v n : Nat, s < 4 ∧ v < 3 ∧ n ≤ 25 ∧ x = nI s ∧ y = nI v ∧ z = nI n ∧ r1 = nI n ∧ i220 = (if s = 0 then nI v else I 220) ∧ i224 = (if s = 0 then nI n else I 224) ∧ (s = 0 → ∀ t : Nat, t < 25 → q228 t = 0) ∧ (¬ s = 0 → q228 = Q 228) ∧ i221 = (if s = 1 then nI v else I 221) ∧ i225 = (if s = 1 then nI n else I 225) ∧ (s = 1 → ∀ t : Nat, t < 25 → q229 t = 0) ∧ (¬ s = 1 → q229 = Q 229) ∧ i222 = (if s = 2 then nI v else I 222) ∧ i226 = (if s = 2 then nI n else I 226) ∧ (s = 2 → ∀ t : Nat, t < 25 → q230 t = 0) ∧ (¬ s = 2 → q230 = Q 230) ∧ i223 = (if s = 3 then nI v else I 223) ∧ i227 = (if s = 3 then nI n else I 227) ∧ (s = 3 → ∀ t : Nat, t < 25 → q231 t = 0) ∧ (¬ s = 3 → q231 = Q 231)) ∨ (r1 = -14 ∧ (∃ s v : Nat, s < 4 ∧ v < 3 ∧ x = nI s ∧ y = nI v) ∧ z < 0 ∧ i220 = I 220 ∧ i221 = I 221 ∧ i222 = I 222 ∧ i223 = I 223 ∧ i224 = I 224 ∧ i225 = I 225 ∧ i226 = I 226 ∧ i227 = I 227 ∧ q228 = Q 228 ∧ q229 = Q 229 ∧ q230 = Q 230 ∧ q231 = Q 231) ∨ (r1 = -1 ∧ (∀ s v : Nat, s < 4 → v < 3 → x = nI s → y = nI v → z ≤ nI 25 → False) ∧ i220 = I 220 ∧ i221 = I 221 ∧ i222 = I 222 ∧ i223 = I 223 ∧ i224 = I 224 ∧ i225 = I 225 ∧ i226 = I 226 ∧ i227 = I 227 ∧ q228 = Q 228 ∧ q229 = Q 229 ∧ q230 = Q 230 ∧ q231 = Q 231)) (hf2 : (∃ i j k : Nat, i < 4 ∧ j < 3 ∧ k ≤ 25 ∧ x = nI i ∧ y = nI j ∧ z = nI k ∧ r2 = nI k ∧ f25 = upd (rA 25) i (nI j) ∧ f26 = upd (rA 26) i (nI k) ∧ (∀ t : Nat, t < 25 → f27 (25 * i + t) = nI 0) ∧ (∀ t : Nat, (t < 25 * i ∨ 25 * i + 25 ≤ t) → f27 t = rA 27 t)) ∨ (r2 = -14 ∧ (∃ i j : Nat, i < 4 ∧ j < 3 ∧ x = nI i ∧ y = nI j) ∧ z < 0 ∧ f25 = rA 25 ∧ f26 = rA 26 ∧ f27 = rA 27) ∨ (r2 = -1 ∧ (∀ i j : Nat, i < 4 → j < 3 → x = nI i → y = nI j → z ≤ nI 25 → False) ∧ f25 = rA 25 ∧ f26 = rA 26 ∧ f27 = rA 27)) : RelQ q228 q229 q230 q231 f27 := by
  rcases hf1 with ⟨s, v, n, hs, hv, hn, ex, ey, ez, e1, -, -, l0, m0, -, -, l1, m1, -, -, l2, m2, -, -, l3, m3⟩ | ⟨e1, ⟨s, v, hs, hv, ex, ey⟩, hz, -, -, -, -, -, -, -, -, d0, d1, d2, d3⟩ | ⟨e1, hno, -, -, -, -, -, -, -, -, d0, d1, d2, d3⟩ <;> rcases hf2 with ⟨i, j, k, hi, hj, hk, fx, fy, fz, k1, -, -, k4, k5⟩ | ⟨k1, ⟨i, j, hi, hj, fx, fy⟩, hz2, -, -, k2⟩ | ⟨k1, hno2, -, -, k2⟩
  · obtain rfl : s = i := (nI_eq (by omega) (by omega)).mp (ex.symm.trans fx)
    intro t ht
    obtain ⟨a0, a1, a2, a3⟩ := h t ht
    have z : (nI 0).toInt64 = 0 := by decide
    rcases (show s = 0 ∨ s = 1 ∨ s = 2 ∨ s = 3 by omega) with rfl | rfl | rfl | rfl
    · exact ⟨by rw [l0 rfl t ht, k4 t ht, z], by rw [m1 (by decide), k5 _ (by omega)]; exact a1, by rw [m2 (by decide), k5 _ (by omega)]; exact a2, by rw [m3 (by decide), k5 _ (by omega)]; exact a3⟩
    · exact ⟨by rw [m0 (by decide), k5 _ (by omega)]; exact a0, by rw [l1 rfl t ht, k4 t ht, z], by rw [m2 (by decide), k5 _ (by omega)]; exact a2, by rw [m3 (by decide), k5 _ (by omega)]; exact a3⟩
    · exact ⟨by rw [m0 (by decide), k5 _ (by omega)]; exact a0, by rw [m1 (by decide), k5 _ (by omega)]; exact a1, by rw [l2 rfl t ht, k4 t ht, z], by rw [m3 (by decide), k5 _ (by omega)]; exact a3⟩
    · exact ⟨by rw [m0 (by decide), k5 _ (by omega)]; exact a0, by rw [m1 (by decide), k5 _ (by omega)]; exact a1, by rw [m2 (by decide), k5 _ (by omega)]; exact a2, by rw [l3 rfl t ht, k4 t ht, z]⟩
  · rw [ez] at hz2; exact (nI_pos (show n < 2 ^ 31 by omega) hz2).elim
  · exact (hno2 s v hs hv ex ey (le_25 ez hn)).elim
  · rw [fz] at hz; exact (nI_pos (show k < 2 ^ 31 by omega) hz).elim
  · rw [d0, d1, d2, d3, k2]; exact h
  · exact (hno2 s v hs hv ex ey (neg_25 hz)).elim
  · exact (hno i j hi hj fx fy (le_25 fz hk)).elim
  · exact (hno i j hi hj fx fy (neg_25 hz2)).elim
  · rw [d0, d1, d2, d3, k2]; exact h
theorem up64 {f : Nat → Int64} {g : Nat → Int32} {i b t : Nat} {v : Int64} {u : Int32} (hv : v = u.toInt64) (h : f t = (g (b + t)).toInt64) : vp_updL f i v t = (upd g (b + i) u (b + t)).toInt64 := by
  by_cases e : t = i
  · rw [e, pk_uLs, pk_us, hv]
  · rw [pk_uLn e, pk_un (by omega)]
    exact h
theorem jq_item {x y z v r1 r2 : Int32} {q228 q229 q230 q231 : Nat → Int64} {f27 : Nat → Int32} {I : Nat → Int32} {Q : Nat → Nat → Int64} {rA : Nat → Nat → Int32} (hs4 : S4 (I 220) (I 224) (I 221) (I 225) (I 222) (I 226) (I 223) (I 227) (rA 25) (rA 26)) (h : RelQ (Q 228) (Q 229) (Q 230) (Q 231) (rA 27)) (hf1 : (r1 = nI 1 ∧ ∃ s w i ln : Nat, s < 4 ∧ w < 3 ∧ ln ≤ 25 ∧ x = nI s ∧ y = nI w ∧ z = nI i ∧ ¬ I (220 + s) = -1 ∧ I (220 + s) = nI w ∧ I (224 + s) = nI ln ∧ i + 1 ≤ ln ∧ q228 = (if s = 0 then vp_updL (Q 228) i (if I 220 = 0 then v.toInt8.toInt32.toInt64 else v.toInt64) else Q 228) ∧ q229 = (if s = 1 then vp_updL (Q 229) i (if I 221 = 0 then v.toInt8.toInt32.toInt64 else v.toInt64) else Q 229) ∧ q230 = (if s = 2 then vp_updL (Q 230) i (if I 222 = 0 then v.toInt8.toInt32.toInt64 else v.toInt64) else Q 230) ∧ q231 = (if s = 3 then vp_updL (Q 231) i (if I 223 = 0 then v.toInt8.toInt32.toInt64 else v.toInt64) else Q 231)) ∨ (¬ r1 = nI 0 ∧ rfP I x y z 1 r1 ∧ q228 = Q 228 ∧ q229 = Q 229 ∧ q230 = Q 230 ∧ q231 = Q 231)) (hf2 : (∃ i j : Nat, i < 4 ∧ j < 3 ∧ x = nI i ∧ y = nI j ∧ r2 = nI 1 ∧ rA 25 i = nI j ∧ ∃ n k : Nat, n ≤ 25 ∧ rA 26 i = nI n ∧ k < n ∧ z = nI k ∧ f27 = upd (rA 27) (25 * i + k) (if j = 0 then v.toInt8.toInt32 else v)) ∨ (∃ i j : Nat, i < 4 ∧ j < 3 ∧ x = nI i ∧ y = nI j ∧ r2 = -13 ∧ rA 25 i = nI j ∧ ∃ n : Nat, n ≤ 25 ∧ rA 26 i = nI n ∧ ¬ (0 ≤ z.toInt ∧ z.toInt ≤ (n : Int) - 1) ∧ f27 = rA 27) ∨ (∃ i j : Nat, i < 4 ∧ j < 3 ∧ x = nI i ∧ y = nI j ∧ r2 = -12 ∧ 0 ≤ rA 25 i ∧ ¬ rA 25 i = nI j ∧ f27 = rA 27) ∨ (∃ i j : Nat, i < 4 ∧ j < 3 ∧ x = nI i ∧ y = nI j ∧ r2 = -11 ∧ rA 25 i < 0 ∧ f27 = rA 27) ∨ (r2 = -1 ∧ (∀ i j : Nat, i < 4 → j < 3 → x = nI i → y = nI j → False) ∧ f27 = rA 27)) : RelQ q228 q229 q230 q231 f27 := by
  have heq := eq_item hs4 hf1 hf2
  rcases hf1 with ⟨e1, s, w, i, ln, hs, hw, hln, ex, ey, ez, hl1, hl2, hl3, hil, d0, d1, d2, d3⟩ | ⟨hne, hrf, d0, d1, d2, d3⟩
  · rcases hf2 with ⟨i2, j2, c1, c2, fx, fy, k1, k2, n2, k9, c3, k3, c4, fz, k4⟩ | ⟨i2, j2, c1, c2, fx, fy, k1, -⟩ | ⟨i2, j2, c1, c2, fx, fy, k1, -⟩ | ⟨i2, j2, c1, c2, fx, fy, k1, -⟩ | ⟨k1, -⟩
    rotate_left 1
    · rw [e1, k1] at heq; exact absurd heq (by decide)
    · rw [e1, k1] at heq; exact absurd heq (by decide)
    · rw [e1, k1] at heq; exact absurd heq (by decide)
    · rw [e1, k1] at heq; exact absurd heq (by decide)
    · obtain rfl : s = i2 := (nI_eq (by omega) (by omega)).mp (ex.symm.trans fx)
      obtain rfl : w = j2 := (nI_eq (by omega) (by omega)).mp (ey.symm.trans fy)
      obtain rfl : i = k9 := (nI_eq (by omega) (by omega)).mp (ez.symm.trans fz)
      intro t ht
      obtain ⟨a0, a1, a2, a3⟩ := h t ht
      have hval : ∀ l : Int32, l = nI w → (if l = 0 then v.toInt8.toInt32.toInt64 else v.toInt64) = (if w = 0 then v.toInt8.toInt32 else v).toInt64 := fun l hl => by
        by_cases e : w = 0
        · rw [if_pos e, if_pos (by rw [hl, e]; rfl)]
        · have hl0 : ¬ l = 0 := fun q => e ((nI_eq (by omega) (by omega)).mp (show nI w = nI 0 from hl.symm.trans q))
          rw [if_neg e, if_neg hl0]
      rw [k4]
      rcases (show s = 0 ∨ s = 1 ∨ s = 2 ∨ s = 3 by omega) with rfl | rfl | rfl | rfl
      · rw [if_pos rfl] at d0
        rw [if_neg (show ¬ (0 : Nat) = 1 by decide)] at d1
        rw [if_neg (show ¬ (0 : Nat) = 2 by decide)] at d2
        rw [if_neg (show ¬ (0 : Nat) = 3 by decide)] at d3
        rw [d0, d1, d2, d3]
        exact ⟨up64 (hval _ hl2) a0, (by rw [pk_un (by omega)]; exact a1), (by rw [pk_un (by omega)]; exact a2), (by rw [pk_un (by omega)]; exact a3)⟩
      · rw [if_neg (show ¬ (1 : Nat) = 0 by decide)] at d0
        rw [if_pos rfl] at d1
        rw [if_neg (show ¬ (1 : Nat) = 2 by decide)] at d2
        rw [if_neg (show ¬ (1 : Nat) = 3 by decide)] at d3
        rw [d0, d1, d2, d3]
        exact ⟨(by rw [pk_un (by omega)]; exact a0), up64 (hval _ hl2) a1, (by rw [pk_un (by omega)]; exact a2), (by rw [pk_un (by omega)]; exact a3)⟩
      · rw [if_neg (show ¬ (2 : Nat) = 0 by decide)] at d0
        rw [if_neg (show ¬ (2 : Nat) = 1 by decide)] at d1
        rw [if_pos rfl] at d2
        rw [if_neg (show ¬ (2 : Nat) = 3 by decide)] at d3
        rw [d0, d1, d2, d3]
        exact ⟨(by rw [pk_un (by omega)]; exact a0), (by rw [pk_un (by omega)]; exact a1), up64 (hval _ hl2) a2, (by rw [pk_un (by omega)]; exact a3)⟩
      · rw [if_neg (show ¬ (3 : Nat) = 0 by decide)] at d0
        rw [if_neg (show ¬ (3 : Nat) = 1 by decide)] at d1
        rw [if_neg (show ¬ (3 : Nat) = 2 by decide)] at d2
        rw [if_pos rfl] at d3
        rw [d0, d1, d2, d3]
        exact ⟨(by rw [pk_un (by omega)]; exact a0), (by rw [pk_un (by omega)]; exact a1), (by rw [pk_un (by omega)]; exact a2), up64 (hval _ hl2) a3⟩
  · have same : f27 = rA 27 := by
      rcases hf2 with ⟨i2, j2, c1, c2, fx, fy, k1, -⟩ | ⟨i2, j2, c1, c2, fx, fy, k1, k2, n2, c3, k3, k4, k5⟩ | ⟨i2, j2, c1, c2, fx, fy, k1, k2, k3, k4⟩ | ⟨i2, j2, c1, c2, fx, fy, k1, k2, k3⟩ | ⟨k1, hno, k2⟩
      · rcases rf_rows hs4 hne hrf with ⟨q, -⟩ | ⟨s, v9, -, -, -, -, ⟨q, -⟩ | ⟨q, -⟩ | ⟨q, -⟩⟩
        all_goals
          rw [q, k1] at heq
          exact absurd heq (by decide)
      · exact k5
      · exact k4
      · exact k3
      · exact k2
    rw [d0, d1, d2, d3, same]
    exact h
theorem eq_told {x y r1 r2 : Int32} {R M : Nat} {A rA : Nat → Nat → Int32} {G : Nat → Nat → Nat → Int32} (hR : R ≤ 5) (hM : M ≤ 4) (ht : RelT R M (A 136) (G 0) (rA 3)) (hf1 : (∃ i j : Nat, i < R ∧ j ≤ M ∧ x = nI i ∧ y = nI j ∧ r1 = atF (A 136) (G 0) M i j) ∨ (r1 = -10001 ∧ ∀ i j : Nat, i < R → j ≤ M → x = nI i → y = nI j → False)) (hf2 : (∃ i j : Nat, i < R ∧ j ≤ M ∧ x = nI i ∧ y = nI j ∧ r2 = rA 3 (plc M i j)) ∨ (r2 = -10001 ∧ ∀ i j : Nat, i < R → j ≤ M → x = nI i → y = nI j → False)) : r1 = r2 := by
  rcases hf1 with ⟨i, j, hi, hj, ex, ey, e1⟩ | ⟨e1, hn⟩ <;> rcases hf2 with ⟨i2, j2, hi2, hj2, fx, fy, k1⟩ | ⟨k1, hm⟩
  · obtain rfl : i = i2 := (nI_eq (by omega) (by omega)).mp (ex.symm.trans fx)
    obtain rfl : j = j2 := (nI_eq (by omega) (by omega)).mp (ey.symm.trans fy)
    rw [e1, k1, ht i j hi hj]
  · exact (hm i j hi hj ex ey).elim
  · exact (hn i2 j2 hi2 hj2 fx fy).elim
  · rw [e1, k1]
theorem mul0 (x : Int32) : x * nI 0 = nI 0 := by
  rw [Int32.mul_comm]
  apply Int32.toInt_inj.mp
  rw [Int32.toInt_mul, show (nI 0).toInt = 0 by decide, Int.zero_mul]
  decide
theorem prod_dot {R M i j : Nat} {he t co tr : Nat → Int32} {g : Nat → Nat → Int32} (hR1 : 1 ≤ R) (hR : R ≤ 5) (hM : M ≤ 4) (hi : i < M) (hj : j < M) (h : RelT R M he g t) (hl : laid t R M co tr) : prodF g i j R = dotF co i j := by
  have c : ∀ k r : Nat, k < M → r < 5 → co (5 * k + r) = if r < R then g r k else nI 0 := fun k r hk hr => by
    rw [hl.1 (5 * k + r) (by omega), show (5 * k + r) / 5 = k by omega, show (5 * k + r) % 5 = r by omega]
    unfold colF
    by_cases e : r < R
    · rw [if_pos ⟨hk, e⟩, if_pos e]
      have q := h r k e (by omega)
      unfold atF plc at q
      rw [if_neg (by omega), if_neg (by omega)] at q
      exact q.symm
    · rw [if_neg (fun q => e q.2), if_neg e]
  have z : ∀ x : Int32, x + nI 0 = x := fun x => Int32.add_zero x
  unfold dotF
  rw [c i 0 hi (by decide), c j 0 hj (by decide), c i 1 hi (by decide), c j 1 hj (by decide), c i 2 hi (by decide), c j 2 hj (by decide), c i 3 hi (by decide), c j 3 hj (by decide), c i 4 hi (by decide), c j 4 hj (by decide)]
  rcases (show R = 1 ∨ R = 2 ∨ R = 3 ∨ R = 4 ∨ R = 5 by omega) with rfl | rfl | rfl | rfl | rfl <;> simp only [prodF, Nat.lt_irrefl, if_true, if_false, mul0, z, Nat.reduceLT]
theorem eq_gram {x y r1 r2 : Int32} {R M : Nat} {A rA : Nat → Nat → Int32} {f17 f18 : Nat → Int32} {G : Nat → Nat → Nat → Int32} (hR1 : 1 ≤ R) (hR : R ≤ 5) (hM : M ≤ 4) (ht : RelT R M (A 136) (G 0) (rA 3)) (hf1 : (∃ i j : Nat, i < M ∧ j < M ∧ x = nI i ∧ y = nI j ∧ r1 = prodF (G 0) i j R) ∨ (r1 = -10001 ∧ ∀ i j : Nat, i < M → j < M → x = nI i → y = nI j → False)) (hf2 : (∃ i j : Nat, i < M ∧ j < M ∧ x = nI i ∧ y = nI j ∧ laid (rA 3) R M f17 f18 ∧ r2 = dotF f17 i j) ∨ (r2 = -10001 ∧ (∀ i j : Nat, i < M → j < M → x = nI i → y = nI j → False) ∧ f17 = rA 17 ∧ f18 = rA 18)) : r1 = r2 := by
  rcases hf1 with ⟨i, j, hi, hj, ex, ey, e1⟩ | ⟨e1, hn⟩ <;> rcases hf2 with ⟨i2, j2, hi2, hj2, fx, fy, hl, k1⟩ | ⟨k1, hm, -⟩
  · obtain rfl : i = i2 := (nI_eq (by omega) (by omega)).mp (ex.symm.trans fx)
    obtain rfl : j = j2 := (nI_eq (by omega) (by omega)).mp (ey.symm.trans fy)
    rw [e1, k1, prod_dot hR1 hR hM hi hj ht hl]
  · exact (hm i j hi hj ex ey).elim
  · exact (hn i2 j2 hi2 hj2 fx fy).elim
  · rw [e1, k1]
