theorem splR (x : Int32) (lo hi : Nat) (h : hi < 2147483648) : (∃ i : Nat, lo ≤ i ∧ i ≤ hi ∧ x = nI i) ∨ ¬ ((lo : Int) ≤ x.toInt ∧ x.toInt ≤ (hi : Int)) := by
  by_cases hc : (lo : Int) ≤ x.toInt ∧ x.toInt ≤ (hi : Int)
  · refine Or.inl ⟨x.toInt.toNat, by omega, by omega, ?_⟩
    apply Int32.toInt_inj.mp
    rw [nI_toInt (by omega)]
    omega
  · exact Or.inr hc
def cIn (t R M a sp o bk on T : Nat) (i120 i121 i122 i123 i144 i145 i146 i151 : Int32) (a140 a141 : Nat → Int32) : Prop :=
  (i120 = nI R ∧ 1 ≤ R ∧ R ≤ 5) ∧ (i121 = nI M ∧ 1 ≤ M ∧ M ≤ 4) ∧ (i122 = nI a ∧ (a = 2 ∨ a = 4)) ∧ (i123 = nI sp ∧ sp ≤ 30 * t + 1) ∧ (i144 = nI o ∧ o < 40) ∧ (i145 = nI bk ∧ i146 = nI on ∧ bk + on ≤ 40) ∧ (∀ k : Nat, k < bk + on → ∃ i j : Nat, i < 5 ∧ j ≤ M ∧ a140 ((o + k) % 40) = nI i ∧ a141 ((o + k) % 40) = nI j) ∧ (i151 = nI T ∧ T ≤ 90)
def CJ (t a T : Nat) (i120 i121 i122 i123 i144 i145 i146 i151 : Int32) (a140 a141 : Nat → Int32) : Prop := ∃ R M sp o bk on : Nat, cIn t R M a sp o bk on T i120 i121 i122 i123 i144 i145 i146 i151 a140 a141
def rIn (R M a d e T : Nat) (i0 i1 i2 i4 i5 i10 : Int32) (a3 a6 a7 a8 a26 : Nat → Int32) : Prop :=
  (i0 = nI R ∧ 1 ≤ R ∧ R ≤ 5) ∧ (i1 = nI M ∧ 1 ≤ M ∧ M ≤ 4) ∧ (i2 = nI a ∧ (a = 2 ∨ a = 4)) ∧ (i4 = nI d ∧ i5 = nI e ∧ d + e ≤ 40) ∧ (∀ k : Nat, k < d + e → ∃ q : Nat, q < 25 ∧ a6 k = nI q ∧ (q % 5 < 4 → b9 (a7 k) ∧ b9 (a8 k))) ∧ (i10 = nI T ∧ T ≤ 90) ∧ tb9 a3 R M ∧ ∀ i : Nat, i < 4 → ∃ n : Nat, n ≤ 25 ∧ a26 i = nI n
def RJ (a T : Nat) (i0 i1 i2 i4 i5 i10 : Int32) (a3 a6 a7 a8 a26 : Nat → Int32) : Prop := ∃ R M d e : Nat, rIn R M a d e T i0 i1 i2 i4 i5 i10 a3 a6 a7 a8 a26
def sI1 (l n l2 n2 : Int32) : Prop := ∃ ln : Nat, ln ≤ 25 ∧ n = nI ln ∧ ((l = -1 ∧ l2 = -1) ∨ ∃ v : Nat, v < 3 ∧ l = nI v ∧ l2 = nI v ∧ n2 = nI ln)
def S4 (l0 n0 l1 n1 l2 n2 l3 n3 : Int32) (b25 b26 : Nat → Int32) : Prop := sI1 l0 n0 (b25 0) (b26 0) ∧ sI1 l1 n1 (b25 1) (b26 1) ∧ sI1 l2 n2 (b25 2) (b26 2) ∧ sI1 l3 n3 (b25 3) (b26 3)
theorem S4_at {I : Nat → Int32} {b25 b26 : Nat → Int32} (h : S4 (I 220) (I 224) (I 221) (I 225) (I 222) (I 226) (I 223) (I 227) b25 b26) : ∀ k : Nat, k < 4 → sI1 (I (220 + k)) (I (224 + k)) (b25 k) (b26 k) := fun k hk => by
  rcases (show k = 0 ∨ k = 1 ∨ k = 2 ∨ k = 3 by omega) with rfl | rfl | rfl | rfl
  · exact h.1
  · exact h.2.1
  · exact h.2.2.1
  · exact h.2.2.2
theorem S4_ln {I : Nat → Int32} {b25 b26 : Nat → Int32} (h : S4 (I 220) (I 224) (I 221) (I 225) (I 222) (I 226) (I 223) (I 227) b25 b26) : ∀ k : Nat, k < 4 → ∃ ln : Nat, ln ≤ 25 ∧ I (224 + k) = nI ln := fun k hk => by
  obtain ⟨ln, h1, h2, -⟩ := S4_at h k hk
  exact ⟨ln, h1, h2⟩
theorem cIn.up {t R M a sp o bk on T : Nat} {I : Nat → Int32} {A : Nat → Nat → Int32} {Q : Nat → Nat → Int64} {G : Nat → Nat → Nat → Int32} (h : cIn t R M a sp o bk on T (I 120) (I 121) (I 122) (I 123) (I 144) (I 145) (I 146) (I 151) (A 140) (A 141)) : CJ (t + 1) a T (I 120) (I 121) (I 122) (I 123) (I 144) (I 145) (I 146) (I 151) (A 140) (A 141) := by
  obtain ⟨h0, h1, h2, h3, h4, h5, h6, h7⟩ := h
  exact ⟨R, M, sp, o, bk, on, h0, h1, h2, ⟨h3.1, by omega⟩, h4, h5, h6, h7⟩
theorem rIn.j {R M a d e T : Nat} {rI : Nat → Int32} {rA : Nat → Nat → Int32} (h : rIn R M a d e T (rI 0) (rI 1) (rI 2) (rI 4) (rI 5) (rI 10) (rA 3) (rA 6) (rA 7) (rA 8) (rA 26)) : RJ a T (rI 0) (rI 1) (rI 2) (rI 4) (rI 5) (rI 10) (rA 3) (rA 6) (rA 7) (rA 8) (rA 26) := ⟨R, M, d, e, h⟩
theorem neg1_nI {v : Nat} (h : v < 256) : ¬ (-1 : Int32) = nI v := fun e => eq45 e h rfl
theorem cj_table {t R M a sp o bk on T : Nat} {I : Nat → Int32} {A : Nat → Nat → Int32} {Q : Nat → Nat → Int64} {G : Nat → Nat → Nat → Int32} {x y r1 i120 i121 i123 i144 i145 i146 : Int32} {a136 : Nat → Int32} {g0 : Nat → Nat → Int32} (h : cIn t R M a sp o bk on T (I 120) (I 121) (I 122) (I 123) (I 144) (I 145) (I 146) (I 151) (A 140) (A 141)) (hf : (r1 = nI 1 ∧ ∃ i j : Nat, 1 ≤ i ∧ i ≤ 5 ∧ 1 ≤ j ∧ j ≤ 4 ∧ x = nI i ∧ y = nI j ∧ i120 = nI i ∧ i121 = nI j ∧ i123 = nI (sp + 1) ∧ i144 = nI 0 ∧ i145 = nI 0 ∧ i146 = nI 0 ∧ (∀ q t : Nat, q < 5 → t < 4 → g0 q t = nI 0) ∧ ∀ t : Nat, t < 5 → a136 t = nI 0) ∨ (r1 = -1 ∧ (∀ i j : Nat, 1 ≤ i → i ≤ 5 → 1 ≤ j → j ≤ 4 → x = nI i → y = nI j → False) ∧ i120 = I 120 ∧ i121 = I 121 ∧ i123 = I 123 ∧ i144 = I 144 ∧ i145 = I 145 ∧ i146 = I 146 ∧ g0 = G 0 ∧ a136 = A 136)) : CJ (t + 1) a T i120 i121 (I 122) i123 i144 i145 i146 (I 151) (A 140) (A 141) := by
  obtain ⟨h0, h1, h2, h3, h4, h5, h6, h7⟩ := h
  rcases hf with ⟨-, i, j, a1, a2, a3, a4, -, -, e1, e2, e3, e4, e5, e6, -⟩ | ⟨-, -, e1, e2, e3, e4, e5, e6, -⟩
  · exact ⟨i, j, sp + 1, 0, 0, 0, ⟨e1, a1, a2⟩, ⟨e2, a3, a4⟩, h2, ⟨e3, by omega⟩, ⟨e4, by decide⟩, ⟨e5, e6, by decide⟩, fun k hk => absurd hk (by omega), h7⟩
  · rw [e1, e2, e3, e4, e5, e6]
    exact ⟨R, M, sp, o, bk, on, h0, h1, h2, ⟨h3.1, by omega⟩, h4, h5, h6, h7⟩
theorem ring_take {o bk on M i j o2 b2 : Nat} {a140 a141 : Nat → Int32} (ho : o < 40) (hb : bk + on ≤ 40) (hi : i < 5) (hj : j ≤ M) (h : ∀ k : Nat, k < bk + on → ∃ i j : Nat, i < 5 ∧ j ≤ M ∧ a140 ((o + k) % 40) = nI i ∧ a141 ((o + k) % 40) = nI j) (hc : (bk < 40 ∧ o2 = o ∧ b2 = bk) ∨ (bk = 40 ∧ o2 = (o + 1) % 40 ∧ b2 = 39)) :
    ∀ k : Nat, k < b2 + 1 + 0 → ∃ i9 j9 : Nat, i9 < 5 ∧ j9 ≤ M ∧ upd a140 ((o2 + b2) % 40) (nI i) ((o2 + k) % 40) = nI i9 ∧ upd a141 ((o2 + b2) % 40) (nI j) ((o2 + k) % 40) = nI j9 := fun k hk => by
  by_cases e : k = b2
  · subst e
    exact ⟨i, j, hi, hj, pk_us, pk_us⟩
  · have hne : (o2 + k) % 40 ≠ (o2 + b2) % 40 := by omega
    rw [pk_un hne, pk_un hne]
    rcases hc with ⟨c1, c2, c3⟩ | ⟨c1, c2, c3⟩
    · subst c2
      exact h k (by omega)
    · have e2 : (o2 + k) % 40 = (o + (k + 1)) % 40 := by omega
      rw [e2]
      exact h (k + 1) (by omega)
theorem cj_set {t R M a sp o bk on T : Nat} {I : Nat → Int32} {A : Nat → Nat → Int32} {Q : Nat → Nat → Int64} {G : Nat → Nat → Nat → Int32} {x y v r1 x123 x144 x145 x146 : Int32} {f136 f140 f141 f142 f143 : Nat → Int32} {g0 : Nat → Nat → Int32} (h : cIn t R M a sp o bk on T (I 120) (I 121) (I 122) (I 123) (I 144) (I 145) (I 146) (I 151) (A 140) (A 141)) (hf : (∃ i j : Nat, i < R ∧ j < M ∧ x = nI i ∧ y = nI j ∧ (-9 ≤ v.toInt ∧ v.toInt ≤ 9) ∧ r1 = atF (A 136) (G 0) M i j ∧ x123 = nI (sp + 1) ∧ putP M i j v (A 136) (G 0) f136 g0 ∧ ∃ o2 b2 : Nat, ((bk < 40 ∧ o2 = o ∧ b2 = bk) ∨ (bk = 40 ∧ o2 = (o + 1) % 40 ∧ b2 = 39)) ∧ x144 = nI o2 ∧ x145 = nI (b2 + 1) ∧ x146 = nI 0 ∧ f140 = upd (A 140) ((o2 + b2) % 40) (nI i) ∧ f141 = upd (A 141) ((o2 + b2) % 40) (nI j) ∧ f142 = upd (A 142) ((o2 + b2) % 40) (atF (A 136) (G 0) M i j) ∧ f143 = upd (A 143) ((o2 + b2) % 40) v) ∨ (r1 = -101 ∧ (∀ i j : Nat, i < R → j < M → x = nI i → y = nI j → (-9 ≤ v.toInt ∧ v.toInt ≤ 9) → False) ∧ x123 = I 123 ∧ f136 = A 136 ∧ g0 = G 0 ∧ x144 = I 144 ∧ x145 = I 145 ∧ x146 = I 146 ∧ f140 = A 140 ∧ f141 = A 141 ∧ f142 = A 142 ∧ f143 = A 143)) : CJ (t + 1) a T (I 120) (I 121) (I 122) x123 x144 x145 x146 (I 151) f140 f141 := by
  obtain ⟨h0, h1, h2, h3, h4, h5, h6, h7⟩ := h
  rcases hf with ⟨i, j, hi, hj, -, -, -, -, e1, -, o2, b2, hc, e2, e3, e4, e5, e6, -⟩ | ⟨-, -, e1, -, -, e2, e3, e4, e5, e6, -⟩
  · rw [e5, e6]
    exact ⟨R, M, sp + 1, o2, b2 + 1, 0, h0, h1, h2, ⟨e1, by omega⟩, ⟨e2, by omega⟩, ⟨e3, e4, by omega⟩, ring_take h4.2 h5.2.2 (by omega) (by omega) h6 hc, h7⟩
  · rw [e1, e2, e3, e4, e5, e6]
    exact ⟨R, M, sp, o, bk, on, h0, h1, h2, ⟨h3.1, by omega⟩, h4, h5, h6, h7⟩
theorem cj_hear {t R M a sp o bk on T : Nat} {I : Nat → Int32} {A : Nat → Nat → Int32} {Q : Nat → Nat → Int64} {G : Nat → Nat → Nat → Int32} {x v r1 x123 x144 x145 x146 : Int32} {f136 f140 f141 f142 f143 : Nat → Int32} {g0 : Nat → Nat → Int32} (h : cIn t R M a sp o bk on T (I 120) (I 121) (I 122) (I 123) (I 144) (I 145) (I 146) (I 151) (A 140) (A 141)) (hf : (∃ i : Nat, i < R ∧ x = nI i ∧ (-999 ≤ v.toInt ∧ v.toInt ≤ 999) ∧ r1 = atF (A 136) (G 0) M i M ∧ x123 = nI (sp + 1) ∧ putP M i M v (A 136) (G 0) f136 g0 ∧ ∃ o2 b2 : Nat, ((bk < 40 ∧ o2 = o ∧ b2 = bk) ∨ (bk = 40 ∧ o2 = (o + 1) % 40 ∧ b2 = 39)) ∧ x144 = nI o2 ∧ x145 = nI (b2 + 1) ∧ x146 = nI 0 ∧ f140 = upd (A 140) ((o2 + b2) % 40) (nI i) ∧ f141 = upd (A 141) ((o2 + b2) % 40) (nI M) ∧ f142 = upd (A 142) ((o2 + b2) % 40) (atF (A 136) (G 0) M i M) ∧ f143 = upd (A 143) ((o2 + b2) % 40) v) ∨ (r1 = -10001 ∧ (∀ i : Nat, i < R → x = nI i → (-999 ≤ v.toInt ∧ v.toInt ≤ 999) → False) ∧ x123 = I 123 ∧ f136 = A 136 ∧ g0 = G 0 ∧ x144 = I 144 ∧ x145 = I 145 ∧ x146 = I 146 ∧ f140 = A 140 ∧ f141 = A 141 ∧ f142 = A 142 ∧ f143 = A 143)) : CJ (t + 1) a T (I 120) (I 121) (I 122) x123 x144 x145 x146 (I 151) f140 f141 := by
  obtain ⟨h0, h1, h2, h3, h4, h5, h6, h7⟩ := h
  rcases hf with ⟨i, hi, -, -, -, e1, -, o2, b2, hc, e2, e3, e4, e5, e6, -⟩ | ⟨-, -, e1, -, -, e2, e3, e4, e5, e6, -⟩
  · rw [e5, e6]
    exact ⟨R, M, sp + 1, o2, b2 + 1, 0, h0, h1, h2, ⟨e1, by omega⟩, ⟨e2, by omega⟩, ⟨e3, e4, by omega⟩, ring_take h4.2 h5.2.2 (by omega) (by omega) h6 hc, h7⟩
  · rw [e1, e2, e3, e4, e5, e6]
    exact ⟨R, M, sp, o, bk, on, h0, h1, h2, ⟨h3.1, by omega⟩, h4, h5, h6, h7⟩
theorem cj_undo {t R M a sp o bk on T : Nat} {I : Nat → Int32} {A : Nat → Nat → Int32} {Q : Nat → Nat → Int64} {G : Nat → Nat → Nat → Int32} {r1 x123 x145 x146 : Int32} {f136 : Nat → Int32} {g0 : Nat → Nat → Int32} (h : cIn t R M a sp o bk on T (I 120) (I 121) (I 122) (I 123) (I 144) (I 145) (I 146) (I 151) (A 140) (A 141)) (hf : (0 < bk ∧ r1 = nI (bk - 1) ∧ x145 = nI (bk - 1) ∧ x146 = nI (on + 1) ∧ x123 = nI (sp + 1) ∧ ∃ i j : Nat, i < 5 ∧ j ≤ M ∧ A 140 ((o + (bk - 1)) % 40) = nI i ∧ A 141 ((o + (bk - 1)) % 40) = nI j ∧ putP M i j (A 142 ((o + (bk - 1)) % 40)) (A 136) (G 0) f136 g0) ∨ (bk = 0 ∧ r1 = -2 ∧ x123 = I 123 ∧ f136 = A 136 ∧ g0 = G 0 ∧ x145 = I 145 ∧ x146 = I 146)) : CJ (t + 1) a T (I 120) (I 121) (I 122) x123 (I 144) x145 x146 (I 151) (A 140) (A 141) := by
  obtain ⟨h0, h1, h2, h3, h4, h5, h6, h7⟩ := h
  rcases hf with ⟨hb, -, e1, e2, e3, -⟩ | ⟨-, -, e3, -, -, e1, e2⟩
  · exact ⟨R, M, sp + 1, o, bk - 1, on + 1, h0, h1, h2, ⟨e3, by omega⟩, h4, ⟨e1, e2, by omega⟩, fun k hk => h6 k (by omega), h7⟩
  · rw [e1, e2, e3]
    exact ⟨R, M, sp, o, bk, on, h0, h1, h2, ⟨h3.1, by omega⟩, h4, h5, h6, h7⟩
theorem cj_redo {t R M a sp o bk on T : Nat} {I : Nat → Int32} {A : Nat → Nat → Int32} {Q : Nat → Nat → Int64} {G : Nat → Nat → Nat → Int32} {r1 x123 x145 x146 : Int32} {f136 : Nat → Int32} {g0 : Nat → Nat → Int32} (h : cIn t R M a sp o bk on T (I 120) (I 121) (I 122) (I 123) (I 144) (I 145) (I 146) (I 151) (A 140) (A 141)) (hf : (0 < on ∧ r1 = nI (on - 1) ∧ x145 = nI (bk + 1) ∧ x146 = nI (on - 1) ∧ x123 = nI (sp + 1) ∧ ∃ i j : Nat, i < 5 ∧ j ≤ M ∧ A 140 ((o + (bk)) % 40) = nI i ∧ A 141 ((o + (bk)) % 40) = nI j ∧ putP M i j (A 143 ((o + (bk)) % 40)) (A 136) (G 0) f136 g0) ∨ (on = 0 ∧ r1 = -2 ∧ x123 = I 123 ∧ f136 = A 136 ∧ g0 = G 0 ∧ x145 = I 145 ∧ x146 = I 146)) : CJ (t + 1) a T (I 120) (I 121) (I 122) x123 (I 144) x145 x146 (I 151) (A 140) (A 141) := by
  obtain ⟨h0, h1, h2, h3, h4, h5, h6, h7⟩ := h
  rcases hf with ⟨hb, -, e1, e2, e3, -⟩ | ⟨-, -, e3, -, -, e1, e2⟩
  · exact ⟨R, M, sp + 1, o, bk + 1, on - 1, h0, h1, h2, ⟨e3, by omega⟩, h4, ⟨e1, e2, by omega⟩, fun k hk => h6 k (by omega), h7⟩
  · rw [e1, e2, e3]
    exact ⟨R, M, sp, o, bk, on, h0, h1, h2, ⟨h3.1, by omega⟩, h4, h5, h6, h7⟩
theorem cj_rows {t R M a sp o bk on T : Nat} {I : Nat → Int32} {A : Nat → Nat → Int32} {Q : Nat → Nat → Int64} {G : Nat → Nat → Nat → Int32} {x y z r1 i123 i144 i145 i146 : Int32} {a136 : Nat → Int32} {g0 : Nat → Nat → Int32} (h : cIn t R M a sp o bk on T (I 120) (I 121) (I 122) (I 123) (I 144) (I 145) (I 146) (I 151) (A 140) (A 141)) (hf : (¬ r1 = nI 0 ∧ rfP I x y z (R * (M + 1)) r1 ∧ a136 = A 136 ∧ g0 = G 0 ∧ i123 = I 123 ∧ i144 = I 144 ∧ i145 = I 145 ∧ i146 = I 146) ∨ (∃ s w i ln : Nat, s < 4 ∧ w < 3 ∧ ln ≤ 25 ∧ x = nI s ∧ y = nI w ∧ z = nI i ∧ ¬ I (220 + s) = -1 ∧ I (220 + s) = nI w ∧ I (224 + s) = nI ln ∧ i + R * (M + 1) ≤ ln ∧ ((¬ tkI (Q (228 + s)) i M R 0 ∧ r1 = -2 ∧ a136 = A 136 ∧ g0 = G 0 ∧ i123 = I 123 ∧ i144 = I 144 ∧ i145 = I 145 ∧ i146 = I 146) ∨ (tkI (Q (228 + s)) i M R 0 ∧ r1 = nI R ∧ cpI (Q (228 + s)) i M R 0 a136 g0 ∧ (∃ s2 : Nat, sp < s2 ∧ s2 ≤ sp + 25 ∧ i123 = nI s2) ∧ i144 = nI 0 ∧ i145 = nI 0 ∧ i146 = nI 0)))) : CJ (t + 1) a T (I 120) (I 121) (I 122) i123 i144 i145 i146 (I 151) (A 140) (A 141) := by
  obtain ⟨h0, h1, h2, h3, h4, h5, h6, h7⟩ := h
  rcases hf with ⟨-, -, -, -, e3, e4, e5, e6⟩ | ⟨s, w, i, ln, -, -, -, -, -, -, -, -, -, -, ⟨-, -, -, -, e3, e4, e5, e6⟩ | ⟨-, -, -, ⟨s2, b1, b2, e3⟩, e4, e5, e6⟩⟩
  · rw [e3, e4, e5, e6]
    exact ⟨R, M, sp, o, bk, on, h0, h1, h2, ⟨h3.1, by omega⟩, h4, h5, h6, h7⟩
  · rw [e3, e4, e5, e6]
    exact ⟨R, M, sp, o, bk, on, h0, h1, h2, ⟨h3.1, by omega⟩, h4, h5, h6, h7⟩
  · exact ⟨R, M, s2, 0, 0, 0, h0, h1, h2, ⟨e3, by omega⟩, ⟨e4, by decide⟩, ⟨e5, e6, by decide⟩, fun k hk => absurd hk (by omega), h7⟩
/-! the reference -/
theorem tb9_0 {f : Nat → Int32} {R M : Nat} (hR : R ≤ 5) (hM : M ≤ 4) (h : ∀ q : Nat, q < 25 → b9 (f q)) : tb9 f R M := fun i j hi hj => h _ (by omega)
theorem rj_table {R M a d e T : Nat} {rI : Nat → Int32} {rA : Nat → Nat → Int32} {x y r2 x0 x1 x4 x5 : Int32} {f : Nat → Int32} (h : rIn R M a d e T (rI 0) (rI 1) (rI 2) (rI 4) (rI 5) (rI 10) (rA 3) (rA 6) (rA 7) (rA 8) (rA 26)) (hf : (r2 = nI 1 ∧ ∃ i j : Nat, 1 ≤ i ∧ i ≤ 5 ∧ 1 ≤ j ∧ j ≤ 4 ∧ x = nI i ∧ y = nI j ∧ x0 = nI i ∧ x1 = nI j ∧ x4 = nI 0 ∧ x5 = nI 0 ∧ ∀ t : Nat, t < 25 → f t = nI 0) ∨ (r2 = -1 ∧ (∀ i j : Nat, 1 ≤ i → i ≤ 5 → 1 ≤ j → j ≤ 4 → x = nI i → y = nI j → False) ∧ x0 = rI 0 ∧ x1 = rI 1 ∧ x4 = rI 4 ∧ x5 = rI 5 ∧ f = rA 3)) : RJ a T x0 x1 (rI 2) x4 x5 (rI 10) f (rA 6) (rA 7) (rA 8) (rA 26) := by
  obtain ⟨h0, h1, h2, h3, h4, h5, h6, h7⟩ := h
  rcases hf with ⟨-, i, j, a1, a2, a3, a4, -, -, e1, e2, e3, e4, hz⟩ | ⟨-, -, e1, e2, e3, e4, e5⟩
  · exact ⟨i, j, 0, 0, ⟨e1, a1, a2⟩, ⟨e2, a3, a4⟩, h2, ⟨e3, e4, by decide⟩, fun k hk => absurd hk (by omega), h5, tb9_0 a2 a4 (b9_0 hz), h7⟩
  · rw [e1, e2, e3, e4, e5]
    exact ⟨R, M, d, e, h0, h1, h2, h3, h4, h5, h6, h7⟩
theorem plc_mod {M i j : Nat} (hM : M ≤ 4) (hj : j ≤ M) : plc M i j % 5 < 4 → j < M ∧ plc M i j = 5 * i + j := by
  unfold plc
  split <;> omega
theorem tb9_upd {f : Nat → Int32} {R M q : Nat} {v : Int32} (hM : M ≤ 4) (h : tb9 f R M) (hv : q % 5 < 4 → b9 v) : tb9 (upd f q v) R M := fun i j hi hj => by
  by_cases g : 5 * i + j = q
  · rw [g, pk_us]
    exact hv (by omega)
  · rw [pk_un g]
    exact h i j hi hj
theorem ring_act {d e dd q : Nat} {v w : Int32} {a6 a7 a8 f6 f7 f8 : Nat → Int32} (hd : d + e ≤ 40) (hdd : dd = d ∨ (d = 40 ∧ dd = 39)) (hq : q < 25) (hv : q % 5 < 4 → b9 w ∧ b9 v) (h : ∀ k : Nat, k < d + e → ∃ q : Nat, q < 25 ∧ a6 k = nI q ∧ (q % 5 < 4 → b9 (a7 k) ∧ b9 (a8 k))) (ha : actRows d q v w a6 a7 a8 f6 f7 f8 dd) : ∀ k : Nat, k < dd + 1 + 0 → ∃ q : Nat, q < 25 ∧ f6 k = nI q ∧ (q % 5 < 4 → b9 (f7 k) ∧ b9 (f8 k)) := fun k hk => by
  obtain ⟨h1, h2, h3, h4⟩ := ha
  by_cases g : k = dd
  · rw [g, h2, h3, h4]
    exact ⟨q, hq, rfl, hv⟩
  · obtain ⟨g1, g2, g3⟩ := h1 k (by omega)
    rw [g1, g2, g3]
    exact h (k + (d - dd)) (by omega)
theorem rj_set {R M a d e T : Nat} {rI : Nat → Int32} {rA : Nat → Nat → Int32} {x y v r2 x4 x5 : Int32} {f3 f6 f7 f8 : Nat → Int32} (h : rIn R M a d e T (rI 0) (rI 1) (rI 2) (rI 4) (rI 5) (rI 10) (rA 3) (rA 6) (rA 7) (rA 8) (rA 26)) (hf : (∃ i j : Nat, i < R ∧ j < M ∧ x = nI i ∧ y = nI j ∧ (-9 ≤ v.toInt ∧ v.toInt ≤ 9) ∧ r2 = rA 3 (plc M i j) ∧ ∃ dd : Nat, dd ≤ 39 ∧ (dd = d ∨ (d = 40 ∧ dd = 39)) ∧ x4 = nI (dd + 1) ∧ x5 = nI 0 ∧ f3 = upd (rA 3) (plc M i j) v ∧ actRows d (plc M i j) v (rA 3 (plc M i j)) (rA 6) (rA 7) (rA 8) f6 f7 f8 dd) ∨ (r2 = -101 ∧ (∀ i j : Nat, i < R → j < M → x = nI i → y = nI j → (-9 ≤ v.toInt ∧ v.toInt ≤ 9) → False) ∧ x4 = rI 4 ∧ x5 = rI 5 ∧ f3 = rA 3 ∧ f6 = rA 6 ∧ f7 = rA 7 ∧ f8 = rA 8)) : RJ a T (rI 0) (rI 1) (rI 2) x4 x5 (rI 10) f3 f6 f7 f8 (rA 26) := by
  obtain ⟨h0, h1, h2, h3, h4, h5, h6, h7⟩ := h
  rcases hf with ⟨i, j, hi, hj, -, -, hv, -, dd, hd1, hd2, e1, e2, e3, ha⟩ | ⟨-, -, e1, e2, e3, e4, e5, e6⟩
  · have hp : plc M i j < 25 := plc_lt (by omega) (by omega) h1.2.2
    have hw : plc M i j % 5 < 4 → b9 (rA 3 (plc M i j)) ∧ b9 v := fun g => by
      obtain ⟨g1, g2⟩ := plc_mod h1.2.2 (by omega) g
      refine ⟨?_, hv⟩
      rw [g2]
      exact h6 i j hi g1
    rw [e3]
    exact ⟨R, M, dd + 1, 0, h0, h1, h2, ⟨e1, e2, by omega⟩, ring_act h3.2.2 hd2 hp hw h4 ha, h5, tb9_upd h1.2.2 h6 (fun g => (hw g).2), h7⟩
  · rw [e1, e2, e3, e4, e5, e6]
    exact ⟨R, M, d, e, h0, h1, h2, h3, h4, h5, h6, h7⟩
theorem rj_hear {R M a d e T : Nat} {rI : Nat → Int32} {rA : Nat → Nat → Int32} {x v r2 x4 x5 : Int32} {f3 f6 f7 f8 : Nat → Int32} (h : rIn R M a d e T (rI 0) (rI 1) (rI 2) (rI 4) (rI 5) (rI 10) (rA 3) (rA 6) (rA 7) (rA 8) (rA 26)) (hf : (∃ i : Nat, i < R ∧ x = nI i ∧ (-999 ≤ v.toInt ∧ v.toInt ≤ 999) ∧ r2 = rA 3 (plc M i M) ∧ ∃ dd : Nat, dd ≤ 39 ∧ (dd = d ∨ (d = 40 ∧ dd = 39)) ∧ x4 = nI (dd + 1) ∧ x5 = nI 0 ∧ f3 = upd (rA 3) (plc M i M) v ∧ actRows d (plc M i M) v (rA 3 (plc M i M)) (rA 6) (rA 7) (rA 8) f6 f7 f8 dd) ∨ (r2 = -10001 ∧ (∀ i : Nat, i < R → x = nI i → (-999 ≤ v.toInt ∧ v.toInt ≤ 999) → False) ∧ x4 = rI 4 ∧ x5 = rI 5 ∧ f3 = rA 3 ∧ f6 = rA 6 ∧ f7 = rA 7 ∧ f8 = rA 8)) : RJ a T (rI 0) (rI 1) (rI 2) x4 x5 (rI 10) f3 f6 f7 f8 (rA 26) := by
  obtain ⟨h0, h1, h2, h3, h4, h5, h6, h7⟩ := h
  rcases hf with ⟨i, hi, -, hv, -, dd, hd1, hd2, e1, e2, e3, ha⟩ | ⟨-, -, e1, e2, e3, e4, e5, e6⟩
  · have hp : plc M i M < 25 := plc_lt (by omega) (by omega) h1.2.2
    have hw : plc M i M % 5 < 4 → b9 (rA 3 (plc M i M)) ∧ b9 v := fun g => by
      obtain ⟨g1, g2⟩ := plc_mod h1.2.2 (Nat.le_refl M) g
      exact absurd g1 (Nat.lt_irrefl M)
    rw [e3]
    exact ⟨R, M, dd + 1, 0, h0, h1, h2, ⟨e1, e2, by omega⟩, ring_act h3.2.2 hd2 hp hw h4 ha, h5, tb9_upd h1.2.2 h6 (fun g => (hw g).2), h7⟩
  · rw [e1, e2, e3, e4, e5, e6]
    exact ⟨R, M, d, e, h0, h1, h2, h3, h4, h5, h6, h7⟩
theorem rj_undo {R M a d e T : Nat} {rI : Nat → Int32} {rA : Nat → Nat → Int32} {r2 x4 x5 : Int32} {f3 : Nat → Int32} (h : rIn R M a d e T (rI 0) (rI 1) (rI 2) (rI 4) (rI 5) (rI 10) (rA 3) (rA 6) (rA 7) (rA 8) (rA 26)) (hf : (d = 0 ∧ r2 = -2 ∧ x4 = rI 4 ∧ x5 = rI 5 ∧ f3 = rA 3) ∨ (0 < d ∧ r2 = nI (d - 1) ∧ x4 = nI (d - 1) ∧ x5 = nI (e + 1) ∧ ∃ q : Nat, q < 25 ∧ rA 6 (d - 1) = nI q ∧ f3 = upd (rA 3) q (rA 7 (d - 1)))) : RJ a T (rI 0) (rI 1) (rI 2) x4 x5 (rI 10) f3 (rA 6) (rA 7) (rA 8) (rA 26) := by
  obtain ⟨h0, h1, h2, h3, h4, h5, h6, h7⟩ := h
  rcases hf with ⟨-, -, e1, e2, e3⟩ | ⟨hd, -, e1, e2, q, hq, e4, e3⟩
  · rw [e1, e2, e3]
    exact ⟨R, M, d, e, h0, h1, h2, h3, h4, h5, h6, h7⟩
  · obtain ⟨q2, hq2, e5, hb⟩ := h4 (d - 1) (by omega)
    have e6 : q2 = q := (nI_eq (by omega) (by omega)).mp (e5.symm.trans e4)
    subst e6
    rw [e3]
    exact ⟨R, M, d - 1, e + 1, h0, h1, h2, ⟨e1, e2, by omega⟩, fun k hk => h4 k (by omega), h5, tb9_upd h1.2.2 h6 (fun g => (hb g).1), h7⟩
theorem rj_redo {R M a d e T : Nat} {rI : Nat → Int32} {rA : Nat → Nat → Int32} {r2 x4 x5 : Int32} {f3 : Nat → Int32} (h : rIn R M a d e T (rI 0) (rI 1) (rI 2) (rI 4) (rI 5) (rI 10) (rA 3) (rA 6) (rA 7) (rA 8) (rA 26)) (hf : (e = 0 ∧ r2 = -2 ∧ x4 = rI 4 ∧ x5 = rI 5 ∧ f3 = rA 3) ∨ (0 < e ∧ r2 = nI (e - 1) ∧ x4 = nI (d + 1) ∧ x5 = nI (e - 1) ∧ ∃ q : Nat, q < 25 ∧ rA 6 d = nI q ∧ f3 = upd (rA 3) q (rA 8 d))) : RJ a T (rI 0) (rI 1) (rI 2) x4 x5 (rI 10) f3 (rA 6) (rA 7) (rA 8) (rA 26) := by
  obtain ⟨h0, h1, h2, h3, h4, h5, h6, h7⟩ := h
  rcases hf with ⟨-, -, e1, e2, e3⟩ | ⟨hd, -, e1, e2, q, hq, e4, e3⟩
  · rw [e1, e2, e3]
    exact ⟨R, M, d, e, h0, h1, h2, h3, h4, h5, h6, h7⟩
  · obtain ⟨q2, hq2, e5, hb⟩ := h4 d (by omega)
    have e6 : q2 = q := (nI_eq (by omega) (by omega)).mp (e5.symm.trans e4)
    subst e6
    rw [e3]
    exact ⟨R, M, d + 1, e - 1, h0, h1, h2, ⟨e1, e2, by omega⟩, fun k hk => h4 k (by omega), h5, tb9_upd h1.2.2 h6 (fun g => (hb g).2), h7⟩
theorem rows_b9 {R M k9 : Nat} {f f27 : Nat → Int32} (hf : ∀ t : Nat, t < R * (M + 1) → okv M t (f27 (k9 + t)) ∧ f (plc M (t / (M + 1)) (t % (M + 1))) = f27 (k9 + t)) : tb9 f R M := fun i j hi hj => by
  have h1 := ix_lt (R := R) (M := M) (n := i) (k := j) hi (by omega)
  have e1 : (i * (M + 1) + j) / (M + 1) = i := by
    rw [Nat.mul_comm, Nat.mul_add_div (by omega), Nat.div_eq_of_lt (by omega), Nat.add_zero]
  have e2 : (i * (M + 1) + j) % (M + 1) = j := by
    rw [Nat.mul_comm, Nat.mul_add_mod, Nat.mod_eq_of_lt (by omega)]
  obtain ⟨g1, g2⟩ := hf _ h1
  rw [e1, e2] at g2
  unfold okv at g1
  rw [e2, if_neg (by omega)] at g1
  unfold plc at g2
  rw [if_neg (by omega)] at g2
  rw [g2]
  exact g1
theorem rj_rows {R M a d e T : Nat} {rI : Nat → Int32} {rA : Nat → Nat → Int32} {x y z r2 x4 x5 : Int32} {f3 : Nat → Int32} (h : rIn R M a d e T (rI 0) (rI 1) (rI 2) (rI 4) (rI 5) (rI 10) (rA 3) (rA 6) (rA 7) (rA 8) (rA 26)) (hf : (∃ i j : Nat, i < 4 ∧ j < 3 ∧ x = nI i ∧ y = nI j ∧ r2 = nI R ∧ rA 25 i = nI j ∧ ∃ n k : Nat, n ≤ 25 ∧ rA 26 i = nI n ∧ k + R * (M + 1) ≤ n ∧ z = nI k ∧ (∀ t : Nat, t < R * (M + 1) → okv M t (rA 27 (25 * i + k + t)) ∧ f3 (plc M (t / (M + 1)) (t % (M + 1))) = rA 27 (25 * i + k + t)) ∧ x4 = nI 0 ∧ x5 = nI 0) ∨ (∃ i j : Nat, i < 4 ∧ j < 3 ∧ x = nI i ∧ y = nI j ∧ r2 = -2 ∧ rA 25 i = nI j ∧ ∃ n k : Nat, n ≤ 25 ∧ rA 26 i = nI n ∧ k + R * (M + 1) ≤ n ∧ z = nI k ∧ (∃ t : Nat, t < R * (M + 1) ∧ ¬ okv M t (rA 27 (25 * i + k + t))) ∧ x4 = rI 4 ∧ x5 = rI 5 ∧ f3 = rA 3) ∨ (∃ i j : Nat, i < 4 ∧ j < 3 ∧ x = nI i ∧ y = nI j ∧ r2 = -13 ∧ rA 25 i = nI j ∧ ∃ n : Nat, n ≤ 25 ∧ rA 26 i = nI n ∧ (∀ k : Nat, k + R * (M + 1) ≤ n → z = nI k → False) ∧ x4 = rI 4 ∧ x5 = rI 5 ∧ f3 = rA 3) ∨ (∃ i j : Nat, i < 4 ∧ j < 3 ∧ x = nI i ∧ y = nI j ∧ r2 = -12 ∧ 0 ≤ rA 25 i ∧ ¬ rA 25 i = nI j ∧ x4 = rI 4 ∧ x5 = rI 5 ∧ f3 = rA 3) ∨ (∃ i j : Nat, i < 4 ∧ j < 3 ∧ x = nI i ∧ y = nI j ∧ r2 = -11 ∧ rA 25 i < 0 ∧ x4 = rI 4 ∧ x5 = rI 5 ∧ f3 = rA 3) ∨ (r2 = -1 ∧ (∀ i j : Nat, i < 4 → j < 3 → x = nI i → y = nI j → False) ∧ x4 = rI 4 ∧ x5 = rI 5 ∧ f3 = rA 3)) : RJ a T (rI 0) (rI 1) (rI 2) x4 x5 (rI 10) f3 (rA 6) (rA 7) (rA 8) (rA 26) := by
  obtain ⟨h0, h1, h2, h3, h4, h5, h6, h7⟩ := h
  rcases hf with ⟨i, j, -, -, -, -, -, -, n, k, -, -, -, -, hz, e1, e2⟩ | ⟨i, j, -, -, -, -, -, -, n, k, -, -, -, -, -, e1, e2, e3⟩ | ⟨i, j, -, -, -, -, -, -, n, -, -, -, e1, e2, e3⟩ | ⟨i, j, -, -, -, -, -, -, -, e1, e2, e3⟩ | ⟨i, j, -, -, -, -, -, -, e1, e2, e3⟩ | ⟨-, -, e1, e2, e3⟩
  · exact ⟨R, M, 0, 0, h0, h1, h2, ⟨e1, e2, by decide⟩, fun k hk => absurd hk (by omega), h5, rows_b9 hz, h7⟩
  all_goals
    rw [e1, e2, e3]
    exact ⟨R, M, d, e, h0, h1, h2, h3, h4, h5, h6, h7⟩
theorem sz_upd {f : Nat → Int32} {i n : Nat} (hn : n ≤ 25) (h : ∀ i : Nat, i < 4 → ∃ n : Nat, n ≤ 25 ∧ f i = nI n) : ∀ k : Nat, k < 4 → ∃ m : Nat, m ≤ 25 ∧ upd f i (nI n) k = nI m := fun k hk => by
  by_cases g : k = i
  · rw [g, pk_us]
    exact ⟨n, hn, rfl⟩
  · rw [pk_un g]
    exact h k hk
theorem rj_sheet {R M a d e T : Nat} {rI : Nat → Int32} {rA : Nat → Nat → Int32} {x y z r2 : Int32} {f25 f26 f27 : Nat → Int32} (h : rIn R M a d e T (rI 0) (rI 1) (rI 2) (rI 4) (rI 5) (rI 10) (rA 3) (rA 6) (rA 7) (rA 8) (rA 26)) (hf : (∃ i j k : Nat, i < 4 ∧ j < 3 ∧ k ≤ 25 ∧ x = nI i ∧ y = nI j ∧ z = nI k ∧ r2 = nI k ∧ f25 = upd (rA 25) i (nI j) ∧ f26 = upd (rA 26) i (nI k) ∧ (∀ t : Nat, t < 25 → f27 (25 * i + t) = nI 0) ∧ (∀ t : Nat, (t < 25 * i ∨ 25 * i + 25 ≤ t) → f27 t = rA 27 t)) ∨ (r2 = -14 ∧ (∃ i j : Nat, i < 4 ∧ j < 3 ∧ x = nI i ∧ y = nI j) ∧ z < 0 ∧ f25 = rA 25 ∧ f26 = rA 26 ∧ f27 = rA 27) ∨ (r2 = -1 ∧ (∀ i j : Nat, i < 4 → j < 3 → x = nI i → y = nI j → z ≤ nI 25 → False) ∧ f25 = rA 25 ∧ f26 = rA 26 ∧ f27 = rA 27)) : RJ a T (rI 0) (rI 1) (rI 2) (rI 4) (rI 5) (rI 10) (rA 3) (rA 6) (rA 7) (rA 8) f26 := by
  obtain ⟨h0, h1, h2, h3, h4, h5, h6, h7⟩ := h
  rcases hf with ⟨i, j, k, -, -, hk, -, -, -, -, -, e1, -⟩ | ⟨-, -, -, -, e1, -⟩ | ⟨-, -, -, e1, -⟩
  · rw [e1]
    exact ⟨R, M, d, e, h0, h1, h2, h3, h4, h5, h6, sz_upd hk h7⟩
  · rw [e1]
    exact ⟨R, M, d, e, h0, h1, h2, h3, h4, h5, h6, h7⟩
  · rw [e1]
    exact ⟨R, M, d, e, h0, h1, h2, h3, h4, h5, h6, h7⟩
/-! both sides -/
theorem j_letters {t R M a sp o bk on T : Nat} {I : Nat → Int32} {A : Nat → Nat → Int32} {Q : Nat → Nat → Int64} {G : Nat → Nat → Nat → Int32} {R9 M9 d e : Nat} {rI : Nat → Int32} {rA : Nat → Nat → Int32} {x r1 r2 x122 x123 x144 x145 x146 x2 x4 x5 : Int32} (h : cIn t R M a sp o bk on T (I 120) (I 121) (I 122) (I 123) (I 144) (I 145) (I 146) (I 151) (A 140) (A 141)) (hr : rIn R9 M9 a d e T (rI 0) (rI 1) (rI 2) (rI 4) (rI 5) (rI 10) (rA 3) (rA 6) (rA 7) (rA 8) (rA 26)) (hf1 : (r1 = I 122 ∧ (x = nI 2 ∨ x = nI 4) ∧ x122 = x ∧ x123 = nI (sp + 1) ∧ x144 = nI 0 ∧ x145 = nI 0 ∧ x146 = nI 0) ∨ (r1 = -1 ∧ ¬ x = nI 2 ∧ ¬ x = nI 4 ∧ x122 = I 122 ∧ x123 = I 123 ∧ x144 = I 144 ∧ x145 = I 145 ∧ x146 = I 146)) (hf2 : (r2 = rI 2 ∧ (x = nI 2 ∨ x = nI 4) ∧ x2 = x ∧ x4 = nI 0 ∧ x5 = nI 0) ∨ (r2 = -1 ∧ ¬ x = nI 2 ∧ ¬ x = nI 4 ∧ x2 = rI 2 ∧ x4 = rI 4 ∧ x5 = rI 5)) : r1 = r2 ∧ ∃ a2 : Nat, CJ (t + 1) a2 T (I 120) (I 121) x122 x123 x144 x145 x146 (I 151) (A 140) (A 141) ∧ RJ a2 T (rI 0) (rI 1) x2 x4 x5 (rI 10) (rA 3) (rA 6) (rA 7) (rA 8) (rA 26) := by
  obtain ⟨h0, h1, h2, h3, h4, h5, h6, h7⟩ := h
  obtain ⟨g0, g1, g2, g3, g4, g5, g6, g7⟩ := hr
  rcases hf1 with ⟨e1, hx, e2, e3, e4, e5, e6⟩ | ⟨e1, n1, n2, e2, e3, e4, e5, e6⟩ <;> rcases hf2 with ⟨k1, hx2, k2, k4, k5⟩ | ⟨k1, m1, m2, k2, k4, k5⟩
  · refine ⟨by rw [e1, k1, h2.1, g2.1], ?_⟩
    rcases hx with hx | hx
    · exact ⟨2, ⟨R, M, sp + 1, 0, 0, 0, h0, h1, ⟨by rw [e2, hx], Or.inl rfl⟩, ⟨e3, by omega⟩, ⟨e4, by decide⟩, ⟨e5, e6, by decide⟩, fun k hk => absurd hk (by omega), h7⟩, ⟨R9, M9, 0, 0, g0, g1, ⟨by rw [k2, hx], Or.inl rfl⟩, ⟨k4, k5, by decide⟩, fun k hk => absurd hk (by omega), g5, g6, g7⟩⟩
    · exact ⟨4, ⟨R, M, sp + 1, 0, 0, 0, h0, h1, ⟨by rw [e2, hx], Or.inr rfl⟩, ⟨e3, by omega⟩, ⟨e4, by decide⟩, ⟨e5, e6, by decide⟩, fun k hk => absurd hk (by omega), h7⟩, ⟨R9, M9, 0, 0, g0, g1, ⟨by rw [k2, hx], Or.inr rfl⟩, ⟨k4, k5, by decide⟩, fun k hk => absurd hk (by omega), g5, g6, g7⟩⟩
  · exact (hx.elim m1 m2).elim
  · exact (hx2.elim n1 n2).elim
  · refine ⟨by rw [e1, k1], a, ?_, ?_⟩
    · rw [e2, e3, e4, e5, e6]
      exact ⟨R, M, sp, o, bk, on, h0, h1, h2, ⟨h3.1, by omega⟩, h4, h5, h6, h7⟩
    · rw [k2, k4, k5]
      exact ⟨R9, M9, d, e, g0, g1, g2, g3, g4, g5, g6, g7⟩
theorem j_type {t R M a sp o bk on T : Nat} {I : Nat → Int32} {A : Nat → Nat → Int32} {Q : Nat → Nat → Int64} {G : Nat → Nat → Nat → Int32} {R9 M9 d e : Nat} {rI : Nat → Int32} {rA : Nat → Nat → Int32} {w : Int64} {x r1 r2 i151 x10 : Int32} {a150 f9 : Nat → Int32} (h : cIn t R M a sp o bk on T (I 120) (I 121) (I 122) (I 123) (I 144) (I 145) (I 146) (I 151) (A 140) (A 141)) (hr : rIn R9 M9 a d e T (rI 0) (rI 1) (rI 2) (rI 4) (rI 5) (rI 10) (rA 3) (rA 6) (rA 7) (rA 8) (rA 26)) (hf1 : (∃ n : Nat, 1 ≤ n ∧ n ≤ 8 ∧ x = nI n ∧ r1 = nI (T + n) ∧ (∀ t : Nat, t < n → okB w t) ∧ T + n ≤ 90 ∧ i151 = nI (T + n) ∧ (∀ q : Nat, q < T → a150 q = A 150 q) ∧ ∀ i : Nat, i < n → a150 (T + (n - 1 - i)) = byteC w i) ∨ (∃ n : Nat, 1 ≤ n ∧ n ≤ 8 ∧ x = nI n ∧ r1 = -3 ∧ (∀ t : Nat, t < n → okB w t) ∧ 90 < T + n ∧ i151 = I 151 ∧ a150 = A 150) ∨ (r1 = -1 ∧ (∀ n : Nat, 1 ≤ n → n ≤ 8 → x = nI n → (∀ t : Nat, t < n → okB w t) → False) ∧ i151 = I 151 ∧ a150 = A 150)) (hf2 : (∃ n : Nat, 1 ≤ n ∧ n ≤ 8 ∧ x = nI n ∧ r2 = nI (T + n) ∧ (∀ t : Nat, t < n → okB w t) ∧ T + n ≤ 90 ∧ x10 = nI (T + n) ∧ (∀ q : Nat, q < T → f9 q = rA 9 q) ∧ ∀ i : Nat, i < n → f9 (T + (n - 1 - i)) = (byteL w i).toInt32) ∨ (∃ n : Nat, 1 ≤ n ∧ n ≤ 8 ∧ x = nI n ∧ r2 = -3 ∧ (∀ t : Nat, t < n → okB w t) ∧ 90 < T + n ∧ x10 = rI 10 ∧ f9 = rA 9) ∨ (r2 = -1 ∧ (∀ n : Nat, 1 ≤ n → n ≤ 8 → x = nI n → (∀ t : Nat, t < n → okB w t) → False) ∧ x10 = rI 10 ∧ f9 = rA 9)) : r1 = r2 ∧ ∃ T2 : Nat, CJ (t + 1) a T2 (I 120) (I 121) (I 122) (I 123) (I 144) (I 145) (I 146) i151 (A 140) (A 141) ∧ RJ a T2 (rI 0) (rI 1) (rI 2) (rI 4) (rI 5) x10 (rA 3) (rA 6) (rA 7) (rA 8) (rA 26) := by
  obtain ⟨h0, h1, h2, h3, h4, h5, h6, h7⟩ := h
  obtain ⟨g0, g1, g2, g3, g4, g5, g6, g7⟩ := hr
  have h3b : sp ≤ 30 * (t + 1) + 1 := by omega
  rcases hf1 with ⟨n, a1, a2, ex, e1, hk, hl, e2, -⟩ | ⟨n, a1, a2, ex, e1, hk, hl, e2, -⟩ | ⟨e1, hn, e2, -⟩ <;> rcases hf2 with ⟨n', b1, b2, ey, k1, hk2, hl2, k2, -⟩ | ⟨n', b1, b2, ey, k1, hk2, hl2, k2, -⟩ | ⟨k1, hn2, k2, -⟩
  · have e9 : n = n' := (nI_eq (by omega) (by omega)).mp (ex.symm.trans ey)
    subst e9
    exact ⟨by rw [e1, k1], T + n, ⟨R, M, sp, o, bk, on, h0, h1, h2, ⟨h3.1, h3b⟩, h4, h5, h6, ⟨e2, hl⟩⟩, ⟨R9, M9, d, e, g0, g1, g2, g3, g4, ⟨k2, hl⟩, g6, g7⟩⟩
  · have e9 : n = n' := (nI_eq (by omega) (by omega)).mp (ex.symm.trans ey)
    omega
  · exact (hn2 n a1 a2 ex hk).elim
  · have e9 : n = n' := (nI_eq (by omega) (by omega)).mp (ex.symm.trans ey)
    omega
  · rw [e2, k2]
    exact ⟨by rw [e1, k1], T, ⟨R, M, sp, o, bk, on, h0, h1, h2, ⟨h3.1, h3b⟩, h4, h5, h6, h7⟩, ⟨R9, M9, d, e, g0, g1, g2, g3, g4, g5, g6, g7⟩⟩
  · exact (hn2 n a1 a2 ex hk).elim
  · exact (hn n' b1 b2 ey hk2).elim
  · exact (hn n' b1 b2 ey hk2).elim
  · rw [e2, k2]
    exact ⟨by rw [e1, k1], T, ⟨R, M, sp, o, bk, on, h0, h1, h2, ⟨h3.1, h3b⟩, h4, h5, h6, h7⟩, ⟨R9, M9, d, e, g0, g1, g2, g3, g4, g5, g6, g7⟩⟩
theorem eq_table {x y r1 r2 : Int32} {sp : Nat} {I : Nat → Int32} {A rA : Nat → Nat → Int32} {G : Nat → Nat → Nat → Int32} {rI : Nat → Int32} {i120 i121 i123 i144 i145 i146 x0 x1 x4 x5 : Int32} {a136 f : Nat → Int32} {g0 : Nat → Nat → Int32} (hf1 : (r1 = nI 1 ∧ ∃ i j : Nat, 1 ≤ i ∧ i ≤ 5 ∧ 1 ≤ j ∧ j ≤ 4 ∧ x = nI i ∧ y = nI j ∧ i120 = nI i ∧ i121 = nI j ∧ i123 = nI (sp + 1) ∧ i144 = nI 0 ∧ i145 = nI 0 ∧ i146 = nI 0 ∧ (∀ q t : Nat, q < 5 → t < 4 → g0 q t = nI 0) ∧ ∀ t : Nat, t < 5 → a136 t = nI 0) ∨ (r1 = -1 ∧ (∀ i j : Nat, 1 ≤ i → i ≤ 5 → 1 ≤ j → j ≤ 4 → x = nI i → y = nI j → False) ∧ i120 = I 120 ∧ i121 = I 121 ∧ i123 = I 123 ∧ i144 = I 144 ∧ i145 = I 145 ∧ i146 = I 146 ∧ g0 = G 0 ∧ a136 = A 136)) (hf2 : (r2 = nI 1 ∧ ∃ i j : Nat, 1 ≤ i ∧ i ≤ 5 ∧ 1 ≤ j ∧ j ≤ 4 ∧ x = nI i ∧ y = nI j ∧ x0 = nI i ∧ x1 = nI j ∧ x4 = nI 0 ∧ x5 = nI 0 ∧ ∀ t : Nat, t < 25 → f t = nI 0) ∨ (r2 = -1 ∧ (∀ i j : Nat, 1 ≤ i → i ≤ 5 → 1 ≤ j → j ≤ 4 → x = nI i → y = nI j → False) ∧ x0 = rI 0 ∧ x1 = rI 1 ∧ x4 = rI 4 ∧ x5 = rI 5 ∧ f = rA 3)) : r1 = r2 := by
  rcases hf1 with ⟨e, i, j, a1, a2, a3, a4, ex, ey, -⟩ | ⟨e, hn, -⟩ <;> rcases hf2 with ⟨k, i', j', b1, b2, b3, b4, fx, fy, -⟩ | ⟨k, hm, -⟩
  · rw [e, k]
  · exact (hm i j a1 a2 a3 a4 ex ey).elim
  · exact (hn i' j' b1 b2 b3 b4 fx fy).elim
  · rw [e, k]
theorem le_25 {z : Int32} {n : Nat} (h : z = nI n) (hn : n ≤ 25) : z ≤ nI 25 := by
  rw [h, Int32.le_iff_toInt_le, nI_toInt (by omega), nI_toInt (by omega)]
  omega
theorem neg_25 {z : Int32} (h : z < 0) : z ≤ nI 25 := by
  rw [Int32.lt_iff_toInt_lt] at h
  rw [Int32.le_iff_toInt_le, nI_toInt (by omega)]
  have : (0 : Int32).toInt = 0 := by decide
  omega
theorem sI1_same {l n l2 n2 : Int32} (h : sI1 l n l2 n2) : sI1 l n l2 n2 := h
theorem j_sheet {x y z r1 r2 i220 i221 i222 i223 i224 i225 i226 i227 : Int32} {q228 q229 q230 q231 : Nat → Int64} {f25 f26 f27 : Nat → Int32} {I : Nat → Int32} {Q : Nat → Nat → Int64} {rA : Nat → Nat → Int32} (h : S4 (I 220) (I 224) (I 221) (I 225) (I 222) (I 226) (I 223) (I 227) (rA 25) (rA 26)) (hf1 : (∃ s v n : Nat, s < 4 ∧ v < 3 ∧ n ≤ 25 ∧ x = nI s ∧ y = nI v ∧ z = nI n ∧ r1 = nI n ∧ i220 = (if s = 0 then nI v else I 220) ∧ i224 = (if s = 0 then nI n else I 224) ∧ (s = 0 → ∀ t : Nat, t < 25 → q228 t = 0) ∧ (¬ s = 0 → q228 = Q 228) ∧ i221 = (if s = 1 then nI v else I 221) ∧ i225 = (if s = 1 then nI n else I 225) ∧ (s = 1 → ∀ t : Nat, t < 25 → q229 t = 0) ∧ (¬ s = 1 → q229 = Q 229) ∧ i222 = (if s = 2 then nI v else I 222) ∧ i226 = (if s = 2 then nI n else I 226) ∧ (s = 2 → ∀ t : Nat, t < 25 → q230 t = 0) ∧ (¬ s = 2 → q230 = Q 230) ∧ i223 = (if s = 3 then nI v else I 223) ∧ i227 = (if s = 3 then nI n else I 227) ∧ (s = 3 → ∀ t : Nat, t < 25 → q231 t = 0) ∧ (¬ s = 3 → q231 = Q 231)) ∨ (r1 = -14 ∧ (∃ s v : Nat, s < 4 ∧ v < 3 ∧ x = nI s ∧ y = nI v) ∧ z < 0 ∧ i220 = I 220 ∧ i221 = I 221 ∧ i222 = I 222 ∧ i223 = I 223 ∧ i224 = I 224 ∧ i225 = I 225 ∧ i226 = I 226 ∧ i227 = I 227 ∧ q228 = Q 228 ∧ q229 = Q 229 ∧ q230 = Q 230 ∧ q231 = Q 231) ∨ (r1 = -1 ∧ (∀ s v : Nat, s < 4 → v < 3 → x = nI s → y = nI v → z ≤ nI 25 → False) ∧ i220 = I 220 ∧ i221 = I 221 ∧ i222 = I 222 ∧ i223 = I 223 ∧ i224 = I 224 ∧ i225 = I 225 ∧ i226 = I 226 ∧ i227 = I 227 ∧ q228 = Q 228 ∧ q229 = Q 229 ∧ q230 = Q 230 ∧ q231 = Q 231)) (hf2 : (∃ i j k : Nat, i < 4 ∧ j < 3 ∧ k ≤ 25 ∧ x = nI i ∧ y = nI j ∧ z = nI k ∧ r2 = nI k ∧ f25 = upd (rA 25) i (nI j) ∧ f26 = upd (rA 26) i (nI k) ∧ (∀ t : Nat, t < 25 → f27 (25 * i + t) = nI 0) ∧ (∀ t : Nat, (t < 25 * i ∨ 25 * i + 25 ≤ t) → f27 t = rA 27 t)) ∨ (r2 = -14 ∧ (∃ i j : Nat, i < 4 ∧ j < 3 ∧ x = nI i ∧ y = nI j) ∧ z < 0 ∧ f25 = rA 25 ∧ f26 = rA 26 ∧ f27 = rA 27) ∨ (r2 = -1 ∧ (∀ i j : Nat, i < 4 → j < 3 → x = nI i → y = nI j → z ≤ nI 25 → False) ∧ f25 = rA 25 ∧ f26 = rA 26 ∧ f27 = rA 27)) : r1 = r2 ∧ S4 i220 i224 i221 i225 i222 i226 i223 i227 f25 f26 := by
  rcases hf1 with ⟨s, v, n, hs, hv, hn, ex, ey, ez, e1, hx⟩ | ⟨e1, ⟨s, v, hs, hv, ex, ey⟩, hz, d0, d1, d2, d3, d4, d5, d6, d7, -⟩ | ⟨e1, hno, d0, d1, d2, d3, d4, d5, d6, d7, -⟩ <;> rcases hf2 with ⟨i, j, k, hi, hj, hk, fx, fy, fz, k1, k2, k3, -⟩ | ⟨k1, ⟨i, j, hi, hj, fx, fy⟩, hz2, k2, k3, -⟩ | ⟨k1, hno2, k2, k3, -⟩
  · have q1 : s = i := (nI_eq (by omega) (by omega)).mp (ex.symm.trans fx)
    have q2 : v = j := (nI_eq (by omega) (by omega)).mp (ey.symm.trans fy)
    have q3 : n = k := (nI_eq (by omega) (by omega)).mp (ez.symm.trans fz)
    subst q1 q2 q3
    refine ⟨by rw [e1, k1], ?_⟩
    rw [k2, k3]
    obtain ⟨s0, s1, s2, s3⟩ := h
    obtain ⟨l0, m0, -, -, l1, m1, -, -, l2, m2, -, -, l3, m3, -, -⟩ := hx
    rcases (show s = 0 ∨ s = 1 ∨ s = 2 ∨ s = 3 by omega) with rfl | rfl | rfl | rfl
    · refine ⟨?_, ?_, ?_, ?_⟩
      · rw [l0, m0, if_pos rfl, if_pos rfl, pk_us, pk_us]; exact ⟨n, hn, rfl, Or.inr ⟨v, hv, rfl, rfl, rfl⟩⟩
      · rw [l1, m1, if_neg (by decide), if_neg (by decide), pk_un (by decide), pk_un (by decide)]; exact s1
      · rw [l2, m2, if_neg (by decide), if_neg (by decide), pk_un (by decide), pk_un (by decide)]; exact s2
      · rw [l3, m3, if_neg (by decide), if_neg (by decide), pk_un (by decide), pk_un (by decide)]; exact s3
    · refine ⟨?_, ?_, ?_, ?_⟩
      · rw [l0, m0, if_neg (by decide), if_neg (by decide), pk_un (by decide), pk_un (by decide)]; exact s0
      · rw [l1, m1, if_pos rfl, if_pos rfl, pk_us, pk_us]; exact ⟨n, hn, rfl, Or.inr ⟨v, hv, rfl, rfl, rfl⟩⟩
      · rw [l2, m2, if_neg (by decide), if_neg (by decide), pk_un (by decide), pk_un (by decide)]; exact s2
      · rw [l3, m3, if_neg (by decide), if_neg (by decide), pk_un (by decide), pk_un (by decide)]; exact s3
    · refine ⟨?_, ?_, ?_, ?_⟩
      · rw [l0, m0, if_neg (by decide), if_neg (by decide), pk_un (by decide), pk_un (by decide)]; exact s0
      · rw [l1, m1, if_neg (by decide), if_neg (by decide), pk_un (by decide), pk_un (by decide)]; exact s1
      · rw [l2, m2, if_pos rfl, if_pos rfl, pk_us, pk_us]; exact ⟨n, hn, rfl, Or.inr ⟨v, hv, rfl, rfl, rfl⟩⟩
      · rw [l3, m3, if_neg (by decide), if_neg (by decide), pk_un (by decide), pk_un (by decide)]; exact s3
    · refine ⟨?_, ?_, ?_, ?_⟩
      · rw [l0, m0, if_neg (by decide), if_neg (by decide), pk_un (by decide), pk_un (by decide)]; exact s0
      · rw [l1, m1, if_neg (by decide), if_neg (by decide), pk_un (by decide), pk_un (by decide)]; exact s1
      · rw [l2, m2, if_neg (by decide), if_neg (by decide), pk_un (by decide), pk_un (by decide)]; exact s2
      · rw [l3, m3, if_pos rfl, if_pos rfl, pk_us, pk_us]; exact ⟨n, hn, rfl, Or.inr ⟨v, hv, rfl, rfl, rfl⟩⟩
  · rw [ez] at hz2; exact (nI_pos (show n < 2 ^ 31 by omega) hz2).elim
  · exact (hno2 s v hs hv ex ey (le_25 ez hn)).elim
  · rw [fz] at hz; exact (nI_pos (show k < 2 ^ 31 by omega) hz).elim
  · refine ⟨by rw [e1, k1], ?_⟩
    rw [d0, d1, d2, d3, d4, d5, d6, d7, k2, k3]; exact h
  · exact (hno2 s v hs hv ex ey (neg_25 hz)).elim
  · exact (hno i j hi hj fx fy (le_25 fz hk)).elim
  · exact (hno i j hi hj fx fy (neg_25 hz2)).elim
  · refine ⟨by rw [e1, k1], ?_⟩
    rw [d0, d1, d2, d3, d4, d5, d6, d7, k2, k3]; exact h
theorem neg_ge {x : Int32} (h : x = -1) : ¬ 0 ≤ x := by rw [h]; decide
theorem nI_nn {v : Nat} {x : Int32} (hv : v < 256) (h : x = nI v) : ¬ x < 0 := by rw [h]; exact nI_pos (show v < 2 ^ 31 by omega)
theorem j_drop {x r1 r2 i220 i221 i222 i223 i224 i225 i226 i227 : Int32} {f25 : Nat → Int32} {I : Nat → Int32} {rA : Nat → Nat → Int32} (h : S4 (I 220) (I 224) (I 221) (I 225) (I 222) (I 226) (I 223) (I 227) (rA 25) (rA 26)) (hf1 : (r1 = -1 ∧ (∀ s : Nat, s < 4 → x ≠ nI s) ∧ i220 = I 220 ∧ i221 = I 221 ∧ i222 = I 222 ∧ i223 = I 223 ∧ i224 = I 224 ∧ i225 = I 225 ∧ i226 = I 226 ∧ i227 = I 227) ∨ ∃ s : Nat, s < 4 ∧ x = nI s ∧ ((I (220 + s) = -1 ∧ r1 = -11 ∧ i220 = I 220 ∧ i221 = I 221 ∧ i222 = I 222 ∧ i223 = I 223 ∧ i224 = I 224 ∧ i225 = I 225 ∧ i226 = I 226 ∧ i227 = I 227) ∨ (¬ I (220 + s) = -1 ∧ r1 = I (224 + s) ∧ i220 = (if s = 0 then -1 else I 220) ∧ i224 = (if s = 0 then nI 0 else I 224) ∧ i221 = (if s = 1 then -1 else I 221) ∧ i225 = (if s = 1 then nI 0 else I 225) ∧ i222 = (if s = 2 then -1 else I 222) ∧ i226 = (if s = 2 then nI 0 else I 226) ∧ i223 = (if s = 3 then -1 else I 223) ∧ i227 = (if s = 3 then nI 0 else I 227)))) (hf2 : (∃ i : Nat, i < 4 ∧ x = nI i ∧ r2 = rA 26 i ∧ 0 ≤ rA 25 i ∧ f25 = upd (rA 25) i (-1)) ∨ (∃ i : Nat, i < 4 ∧ x = nI i ∧ r2 = -11 ∧ rA 25 i < 0 ∧ f25 = rA 25) ∨ (r2 = -1 ∧ (∀ i : Nat, i < 4 → x ≠ nI i) ∧ f25 = rA 25)) : r1 = r2 ∧ S4 i220 i224 i221 i225 i222 i226 i223 i227 f25 (rA 26) := by
  rcases hf1 with ⟨e1, hno, d0, d1, d2, d3, d4, d5, d6, d7⟩ | ⟨s, hs, ex, ⟨hl, e1, d0, d1, d2, d3, d4, d5, d6, d7⟩ | ⟨hl, e1, l0, m0, l1, m1, l2, m2, l3, m3⟩⟩ <;> rcases hf2 with ⟨i, hi, fx, k1, hp, k2⟩ | ⟨i, hi, fx, k1, hp, k2⟩ | ⟨k1, hno2, k2⟩
  · exact (hno i hi fx).elim
  · exact (hno i hi fx).elim
  · refine ⟨by rw [e1, k1], ?_⟩
    rw [d0, d1, d2, d3, d4, d5, d6, d7, k2]; exact h
  · have q1 : s = i := (nI_eq (by omega) (by omega)).mp (ex.symm.trans fx)
    subst q1
    obtain ⟨ln, b1, b2, ⟨b3, b4⟩ | ⟨v, b3, b4, b5, b6⟩⟩ := S4_at h s hs
    · exact absurd hp (neg_ge b4)
    · exact absurd (hl.symm.trans b4) (neg1_nI (by omega))
  · refine ⟨by rw [e1, k1], ?_⟩
    rw [d0, d1, d2, d3, d4, d5, d6, d7, k2]; exact h
  · exact (hno2 s hs ex).elim
  · have q1 : s = i := (nI_eq (by omega) (by omega)).mp (ex.symm.trans fx)
    subst q1
    obtain ⟨ln, b1, b2, ⟨b3, b4⟩ | ⟨v, b3, b4, b5, b6⟩⟩ := S4_at h s hs
    · exact absurd b3 hl
    · refine ⟨by rw [e1, k1, b2, b6], ?_⟩
      rw [k2]
      obtain ⟨s0, s1, s2, s3⟩ := h
      rcases (show s = 0 ∨ s = 1 ∨ s = 2 ∨ s = 3 by omega) with rfl | rfl | rfl | rfl
      · refine ⟨?_, ?_, ?_, ?_⟩
        · rw [l0, m0, if_pos rfl, if_pos rfl, pk_us]; exact ⟨0, by decide, rfl, Or.inl ⟨rfl, rfl⟩⟩
        · rw [l1, m1, if_neg (by decide), if_neg (by decide), pk_un (by decide)]; exact s1
        · rw [l2, m2, if_neg (by decide), if_neg (by decide), pk_un (by decide)]; exact s2
        · rw [l3, m3, if_neg (by decide), if_neg (by decide), pk_un (by decide)]; exact s3
      · refine ⟨?_, ?_, ?_, ?_⟩
        · rw [l0, m0, if_neg (by decide), if_neg (by decide), pk_un (by decide)]; exact s0
        · rw [l1, m1, if_pos rfl, if_pos rfl, pk_us]; exact ⟨0, by decide, rfl, Or.inl ⟨rfl, rfl⟩⟩
        · rw [l2, m2, if_neg (by decide), if_neg (by decide), pk_un (by decide)]; exact s2
        · rw [l3, m3, if_neg (by decide), if_neg (by decide), pk_un (by decide)]; exact s3
      · refine ⟨?_, ?_, ?_, ?_⟩
        · rw [l0, m0, if_neg (by decide), if_neg (by decide), pk_un (by decide)]; exact s0
        · rw [l1, m1, if_neg (by decide), if_neg (by decide), pk_un (by decide)]; exact s1
        · rw [l2, m2, if_pos rfl, if_pos rfl, pk_us]; exact ⟨0, by decide, rfl, Or.inl ⟨rfl, rfl⟩⟩
        · rw [l3, m3, if_neg (by decide), if_neg (by decide), pk_un (by decide)]; exact s3
      · refine ⟨?_, ?_, ?_, ?_⟩
        · rw [l0, m0, if_neg (by decide), if_neg (by decide), pk_un (by decide)]; exact s0
        · rw [l1, m1, if_neg (by decide), if_neg (by decide), pk_un (by decide)]; exact s1
        · rw [l2, m2, if_neg (by decide), if_neg (by decide), pk_un (by decide)]; exact s2
        · rw [l3, m3, if_pos rfl, if_pos rfl, pk_us]; exact ⟨0, by decide, rfl, Or.inl ⟨rfl, rfl⟩⟩
  · have q1 : s = i := (nI_eq (by omega) (by omega)).mp (ex.symm.trans fx)
    subst q1
    obtain ⟨ln, b1, b2, ⟨b3, b4⟩ | ⟨v, b3, b4, b5, b6⟩⟩ := S4_at h s hs
    · exact absurd b3 hl
    · exact absurd hp (nI_nn (by omega) b5)
  · exact (hno2 s hs ex).elim
theorem eq_item {x y z v r1 r2 : Int32} {q228 q229 q230 q231 : Nat → Int64} {f27 : Nat → Int32} {I : Nat → Int32} {Q : Nat → Nat → Int64} {rA : Nat → Nat → Int32} (h : S4 (I 220) (I 224) (I 221) (I 225) (I 222) (I 226) (I 223) (I 227) (rA 25) (rA 26)) (hf1 : (r1 = nI 1 ∧ ∃ s w i ln : Nat, s < 4 ∧ w < 3 ∧ ln ≤ 25 ∧ x = nI s ∧ y = nI w ∧ z = nI i ∧ ¬ I (220 + s) = -1 ∧ I (220 + s) = nI w ∧ I (224 + s) = nI ln ∧ i + 1 ≤ ln ∧ q228 = (if s = 0 then vp_updL (Q 228) i (if I 220 = 0 then v.toInt8.toInt32.toInt64 else v.toInt64) else Q 228) ∧ q229 = (if s = 1 then vp_updL (Q 229) i (if I 221 = 0 then v.toInt8.toInt32.toInt64 else v.toInt64) else Q 229) ∧ q230 = (if s = 2 then vp_updL (Q 230) i (if I 222 = 0 then v.toInt8.toInt32.toInt64 else v.toInt64) else Q 230) ∧ q231 = (if s = 3 then vp_updL (Q 231) i (if I 223 = 0 then v.toInt8.toInt32.toInt64 else v.toInt64) else Q 231)) ∨ (¬ r1 = nI 0 ∧ rfP I x y z 1 r1 ∧ q228 = Q 228 ∧ q229 = Q 229 ∧ q230 = Q 230 ∧ q231 = Q 231)) (hf2 : (∃ i j : Nat, i < 4 ∧ j < 3 ∧ x = nI i ∧ y = nI j ∧ r2 = nI 1 ∧ rA 25 i = nI j ∧ ∃ n k : Nat, n ≤ 25 ∧ rA 26 i = nI n ∧ k < n ∧ z = nI k ∧ f27 = upd (rA 27) (25 * i + k) (if j = 0 then v.toInt8.toInt32 else v)) ∨ (∃ i j : Nat, i < 4 ∧ j < 3 ∧ x = nI i ∧ y = nI j ∧ r2 = -13 ∧ rA 25 i = nI j ∧ ∃ n : Nat, n ≤ 25 ∧ rA 26 i = nI n ∧ ¬ (0 ≤ z.toInt ∧ z.toInt ≤ (n : Int) - 1) ∧ f27 = rA 27) ∨ (∃ i j : Nat, i < 4 ∧ j < 3 ∧ x = nI i ∧ y = nI j ∧ r2 = -12 ∧ 0 ≤ rA 25 i ∧ ¬ rA 25 i = nI j ∧ f27 = rA 27) ∨ (∃ i j : Nat, i < 4 ∧ j < 3 ∧ x = nI i ∧ y = nI j ∧ r2 = -11 ∧ rA 25 i < 0 ∧ f27 = rA 27) ∨ (r2 = -1 ∧ (∀ i j : Nat, i < 4 → j < 3 → x = nI i → y = nI j → False) ∧ f27 = rA 27)) : r1 = r2 := by
  rcases hf1 with ⟨e1, s, w, i, ln, hs, hw, hln, ex, ey, ez, hl1, hl2, hl3, hil, -⟩ | ⟨hne, hrf, -⟩
  · obtain ⟨l9, b1, b2, ⟨b3, b4⟩ | ⟨u, b3, b4, b5, b6⟩⟩ := S4_at h s hs
    · exact absurd b3 hl1
    · have q0 : l9 = ln := (nI_eq (by omega) (by omega)).mp (b2.symm.trans hl3)
      have q9 : u = w := (nI_eq (by omega) (by omega)).mp (b4.symm.trans hl2)
      subst q0 q9
      rcases hf2 with ⟨i2, j2, c1, c2, fx, fy, k1, -⟩ | ⟨i2, j2, c1, c2, fx, fy, k1, k2, n2, c3, k3, k4, -⟩ | ⟨i2, j2, c1, c2, fx, fy, k1, k2, k3, -⟩ | ⟨i2, j2, c1, c2, fx, fy, k1, k2, -⟩ | ⟨k1, hno, -⟩
      · rw [e1, k1]
      · have q1 : s = i2 := (nI_eq (by omega) (by omega)).mp (ex.symm.trans fx)
        subst q1
        have q2 : l9 = n2 := (nI_eq (by omega) (by omega)).mp (b6.symm.trans k3)
        exact absurd (by rw [ez, nI_toInt (by omega)]; omega) k4
      · have q1 : s = i2 := (nI_eq (by omega) (by omega)).mp (ex.symm.trans fx)
        have q2 : u = j2 := (nI_eq (by omega) (by omega)).mp (ey.symm.trans fy)
        subst q1 q2
        exact absurd b5 k3
      · have q1 : s = i2 := (nI_eq (by omega) (by omega)).mp (ex.symm.trans fx)
        subst q1
        exact absurd k2 (nI_nn (by omega) b5)
      · exact (hno s u hs hw ex ey).elim
  · rcases hrf with ⟨e1, hno⟩ | ⟨s, w, hs, hw, ex, ey, hc⟩
    · rcases hf2 with ⟨i2, j2, c1, c2, fx, fy, -⟩ | ⟨i2, j2, c1, c2, fx, fy, -⟩ | ⟨i2, j2, c1, c2, fx, fy, -⟩ | ⟨i2, j2, c1, c2, fx, fy, -⟩ | ⟨k1, -⟩
      · exact (hno i2 j2 c1 c2 fx fy).elim
      · exact (hno i2 j2 c1 c2 fx fy).elim
      · exact (hno i2 j2 c1 c2 fx fy).elim
      · exact (hno i2 j2 c1 c2 fx fy).elim
      · rw [e1, k1]
    · obtain ⟨l9, b1, b2, hb⟩ := S4_at h s hs
      rcases hf2 with ⟨i2, j2, c1, c2, fx, fy, k1, k2, n2, k9, c3, k3, c4, fz, -⟩ | ⟨i2, j2, c1, c2, fx, fy, k1, k2, n2, c3, k3, k4, -⟩ | ⟨i2, j2, c1, c2, fx, fy, k1, k2, k3, -⟩ | ⟨i2, j2, c1, c2, fx, fy, k1, k2, -⟩ | ⟨k1, hno, -⟩
      · have q1 : s = i2 := (nI_eq (by omega) (by omega)).mp (ex.symm.trans fx)
        have q2 : w = j2 := (nI_eq (by omega) (by omega)).mp (ey.symm.trans fy)
        subst q1 q2
        rcases hb with ⟨b3, b4⟩ | ⟨u, b3, b4, b5, b6⟩
        · exact absurd (b4.symm.trans k2) (neg1_nI (by omega))
        · have q3 : l9 = n2 := (nI_eq (by omega) (by omega)).mp (b6.symm.trans k3)
          have q4 : u = w := (nI_eq (by omega) (by omega)).mp (b5.symm.trans k2)
          subst q3 q4
          rcases hc with ⟨d1, -⟩ | ⟨-, d2, -⟩ | ⟨-, -, ⟨-, d3⟩ | ⟨d3, -⟩⟩
          · exact absurd (d1.symm.trans b4) (neg1_nI (by omega))
          · exact absurd b4 d2
          · exact (d3 k9 l9 b1 fz b2 (by omega)).elim
          · exact absurd d3 hne
      · have q1 : s = i2 := (nI_eq (by omega) (by omega)).mp (ex.symm.trans fx)
        have q2 : w = j2 := (nI_eq (by omega) (by omega)).mp (ey.symm.trans fy)
        subst q1 q2
        rcases hb with ⟨b3, b4⟩ | ⟨u, b3, b4, b5, b6⟩
        · exact absurd (b4.symm.trans k2) (neg1_nI (by omega))
        · have q4 : u = w := (nI_eq (by omega) (by omega)).mp (b5.symm.trans k2)
          subst q4
          rcases hc with ⟨d1, -⟩ | ⟨-, d2, -⟩ | ⟨-, -, ⟨d3, -⟩ | ⟨d3, -⟩⟩
          · exact absurd (d1.symm.trans b4) (neg1_nI (by omega))
          · exact absurd b4 d2
          · rw [d3, k1]
          · exact absurd d3 hne
      · have q1 : s = i2 := (nI_eq (by omega) (by omega)).mp (ex.symm.trans fx)
        have q2 : w = j2 := (nI_eq (by omega) (by omega)).mp (ey.symm.trans fy)
        subst q1 q2
        rcases hb with ⟨b3, b4⟩ | ⟨u, b3, b4, b5, b6⟩
        · exact absurd k2 (neg_ge b4)
        · rcases hc with ⟨d1, -⟩ | ⟨-, -, d2⟩ | ⟨-, d2, -⟩
          · exact absurd (d1.symm.trans b4) (neg1_nI (by omega))
          · rw [d2, k1]
          · exact absurd (b5.trans (b4.symm.trans d2)) k3
      · have q1 : s = i2 := (nI_eq (by omega) (by omega)).mp (ex.symm.trans fx)
        subst q1
        rcases hb with ⟨b3, b4⟩ | ⟨u, b3, b4, b5, b6⟩
        · rcases hc with ⟨-, d1⟩ | ⟨d1, -⟩ | ⟨d1, -⟩
          · rw [d1, k1]
          · exact absurd b3 d1
          · exact absurd b3 d1
        · exact absurd k2 (nI_nn (by omega) b5)
      · exact (hno s w hs hw ex ey).elim
