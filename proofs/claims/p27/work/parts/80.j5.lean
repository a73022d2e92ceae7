def CWd (i123 k : Int32) (P : Prop) : Prop := 0 ≤ k.toInt ∧ k.toInt ≤ i123.toInt ∧ (k = i123 → P)
def PO (i120 i121 i122 : Int32) (a170 a136 : Nat → Int32) (g0 : Nat → Nat → Int32) : Prop := ∀ R M a : Nat, i120 = nI R → R ≤ 5 → i121 = nI M → M ≤ 4 → i122 = nI a → (a = 2 ∨ a = 4) → ∀ t : Nat, t < a ^ M → a170 t = offC a136 g0 a M t R
def PL (i120 i121 i212 : Int32) (g0 g2 g3 : Nat → Nat → Int32) : Prop := ∀ R M : Nat, i120 = nI R → R ≤ 5 → i121 = nI M → M ≤ 4 → ∃ n : Nat, i212 = nI n ∧ n ≤ 2000 ∧ Ln R M g0 n g2 g3 ∧ (n = 2000 ∨ NoSt R M g2)
def PB (i120 i121 i122 : Int32) (a171 a136 : Nat → Int32) (g0 : Nat → Nat → Int32) : Prop := ∀ R M a : Nat, i120 = nI R → R ≤ 5 → i121 = nI M → M ≤ 4 → i122 = nI a → (a = 2 ∨ a = 4) → ∃ be : Nat → Nat, (∀ q : Nat, q < a ^ M → a171 q = nI (be q)) ∧ Blk (fun t => offC a136 g0 a M t R) be 0 (a ^ M)
def CC (i120 i121 i122 i123 i173 i174 i212 i213 : Int32) (a136 a170 a171 : Nat → Int32) (g0 g2 g3 : Nat → Nat → Int32) : Prop := CWd i123 i173 (PO i120 i121 i122 a170 a136 g0) ∧ CWd i123 i213 (PL i120 i121 i212 g0 g2 g3) ∧ CWd i123 i174 (PB i120 i121 i122 a171 a136 g0)
theorem cw_new {i j k : Int32} {P P2 : Prop} {sp s2 : Nat} (h : CWd i k P) (e : i = nI sp) (e2 : j = nI s2) (hs : sp < s2) (hs2 : s2 < 2147483648) : CWd j k P2 := by
  obtain ⟨h1, h2, -⟩ := h
  rw [e, nI_toInt (by omega)] at h2
  refine ⟨h1, by rw [e2, nI_toInt hs2]; omega, fun q => ?_⟩
  rw [q, e2, nI_toInt hs2] at h2
  omega
theorem cc_new {i120 i121 i122 i123 i173 i174 i212 i213 j120 j121 j122 j123 : Int32} {a136 a170 a171 b136 : Nat → Int32} {g0 g2 g3 h0 : Nat → Nat → Int32} {sp s2 : Nat} (h : CC i120 i121 i122 i123 i173 i174 i212 i213 a136 a170 a171 g0 g2 g3) (e : i123 = nI sp) (e2 : j123 = nI s2) (hs : sp < s2) (hs2 : s2 < 2147483648) : CC j120 j121 j122 j123 i173 i174 i212 i213 b136 a170 a171 h0 g2 g3 :=
  ⟨cw_new h.1 e e2 hs hs2, cw_new h.2.1 e e2 hs hs2, cw_new h.2.2 e e2 hs hs2⟩
theorem cc_table {I : Nat → Int32} {A : Nat → Nat → Int32} {Q : Nat → Nat → Int64} {G : Nat → Nat → Nat → Int32} {sp : Nat} {x y r1 i120 i121 i123 i144 i145 i146 : Int32} {a136 : Nat → Int32} {g0 : Nat → Nat → Int32} (h : CC (I 120) (I 121) (I 122) (I 123) (I 173) (I 174) (I 212) (I 213) (A 136) (A 170) (A 171) (G 0) (G 2) (G 3)) (e : I 123 = nI sp) (hs : sp < 999999000) (hf : (r1 = nI 1 ∧ ∃ i j : Nat, 1 ≤ i ∧ i ≤ 5 ∧ 1 ≤ j ∧ j ≤ 4 ∧ x = nI i ∧ y = nI j ∧ i120 = nI i ∧ i121 = nI j ∧ i123 = nI (sp + 1) ∧ i144 = nI 0 ∧ i145 = nI 0 ∧ i146 = nI 0 ∧ (∀ q t : Nat, q < 5 → t < 4 → g0 q t = nI 0) ∧ ∀ t : Nat, t < 5 → a136 t = nI 0) ∨ (r1 = -1 ∧ (∀ i j : Nat, 1 ≤ i → i ≤ 5 → 1 ≤ j → j ≤ 4 → x = nI i → y = nI j → False) ∧ i120 = I 120 ∧ i121 = I 121 ∧ i123 = I 123 ∧ i144 = I 144 ∧ i145 = I 145 ∧ i146 = I 146 ∧ g0 = G 0 ∧ a136 = A 136)) : CC i120 i121 (I 122) i123 (I 173) (I 174) (I 212) (I 213) a136 (A 170) (A 171) g0 (G 2) (G 3) := by
  rcases hf with ⟨-, i, j, -, -, -, -, -, -, -, -, e3, -⟩ | ⟨-, -, e1, e2, e3, -, -, -, e7, e8⟩
  · exact cc_new h e e3 (by omega) (by omega)
  · rw [e1, e2, e3, e7, e8]
    exact h
theorem cc_letters {I : Nat → Int32} {A : Nat → Nat → Int32} {Q : Nat → Nat → Int64} {G : Nat → Nat → Nat → Int32} {sp : Nat} {x r1 x122 x123 x144 x145 x146 : Int32} (h : CC (I 120) (I 121) (I 122) (I 123) (I 173) (I 174) (I 212) (I 213) (A 136) (A 170) (A 171) (G 0) (G 2) (G 3)) (e : I 123 = nI sp) (hs : sp < 999999000) (hf : (r1 = I 122 ∧ (x = nI 2 ∨ x = nI 4) ∧ x122 = x ∧ x123 = nI (sp + 1) ∧ x144 = nI 0 ∧ x145 = nI 0 ∧ x146 = nI 0) ∨ (r1 = -1 ∧ ¬ x = nI 2 ∧ ¬ x = nI 4 ∧ x122 = I 122 ∧ x123 = I 123 ∧ x144 = I 144 ∧ x145 = I 145 ∧ x146 = I 146)) : CC (I 120) (I 121) x122 x123 (I 173) (I 174) (I 212) (I 213) (A 136) (A 170) (A 171) (G 0) (G 2) (G 3) := by
  rcases hf with ⟨-, -, -, e3, -⟩ | ⟨-, -, -, e2, e3, -⟩
  · exact cc_new h e e3 (by omega) (by omega)
  · rw [e2, e3]
    exact h
theorem cc_set {I : Nat → Int32} {A : Nat → Nat → Int32} {Q : Nat → Nat → Int64} {G : Nat → Nat → Nat → Int32} {sp : Nat} {M o bk R : Nat} {x y v r1 x123 x144 x145 x146 : Int32} {f136 f140 f141 f142 f143 : Nat → Int32} {g0 : Nat → Nat → Int32} (h : CC (I 120) (I 121) (I 122) (I 123) (I 173) (I 174) (I 212) (I 213) (A 136) (A 170) (A 171) (G 0) (G 2) (G 3)) (e : I 123 = nI sp) (hs : sp < 999999000) (hf : (∃ i j : Nat, i < R ∧ j < M ∧ x = nI i ∧ y = nI j ∧ (-9 ≤ v.toInt ∧ v.toInt ≤ 9) ∧ r1 = atF (A 136) (G 0) M i j ∧ x123 = nI (sp + 1) ∧ putP M i j v (A 136) (G 0) f136 g0 ∧ ∃ o2 b2 : Nat, ((bk < 40 ∧ o2 = o ∧ b2 = bk) ∨ (bk = 40 ∧ o2 = (o + 1) % 40 ∧ b2 = 39)) ∧ x144 = nI o2 ∧ x145 = nI (b2 + 1) ∧ x146 = nI 0 ∧ f140 = upd (A 140) ((o2 + b2) % 40) (nI i) ∧ f141 = upd (A 141) ((o2 + b2) % 40) (nI j) ∧ f142 = upd (A 142) ((o2 + b2) % 40) (atF (A 136) (G 0) M i j) ∧ f143 = upd (A 143) ((o2 + b2) % 40) v) ∨ (r1 = -101 ∧ (∀ i j : Nat, i < R → j < M → x = nI i → y = nI j → (-9 ≤ v.toInt ∧ v.toInt ≤ 9) → False) ∧ x123 = I 123 ∧ f136 = A 136 ∧ g0 = G 0 ∧ x144 = I 144 ∧ x145 = I 145 ∧ x146 = I 146 ∧ f140 = A 140 ∧ f141 = A 141 ∧ f142 = A 142 ∧ f143 = A 143)) : CC (I 120) (I 121) (I 122) x123 (I 173) (I 174) (I 212) (I 213) f136 (A 170) (A 171) g0 (G 2) (G 3) := by
  rcases hf with ⟨i, j, -, -, -, -, -, -, e3, -⟩ | ⟨-, -, e3, e1, e2, -⟩
  · exact cc_new h e e3 (by omega) (by omega)
  · rw [e1, e2, e3]
    exact h
theorem cc_hear {I : Nat → Int32} {A : Nat → Nat → Int32} {Q : Nat → Nat → Int64} {G : Nat → Nat → Nat → Int32} {sp : Nat} {M o bk R : Nat} {x v r1 x123 x144 x145 x146 : Int32} {f136 f140 f141 f142 f143 : Nat → Int32} {g0 : Nat → Nat → Int32} (h : CC (I 120) (I 121) (I 122) (I 123) (I 173) (I 174) (I 212) (I 213) (A 136) (A 170) (A 171) (G 0) (G 2) (G 3)) (e : I 123 = nI sp) (hs : sp < 999999000) (hf : (∃ i : Nat, i < R ∧ x = nI i ∧ (-999 ≤ v.toInt ∧ v.toInt ≤ 999) ∧ r1 = atF (A 136) (G 0) M i M ∧ x123 = nI (sp + 1) ∧ putP M i M v (A 136) (G 0) f136 g0 ∧ ∃ o2 b2 : Nat, ((bk < 40 ∧ o2 = o ∧ b2 = bk) ∨ (bk = 40 ∧ o2 = (o + 1) % 40 ∧ b2 = 39)) ∧ x144 = nI o2 ∧ x145 = nI (b2 + 1) ∧ x146 = nI 0 ∧ f140 = upd (A 140) ((o2 + b2) % 40) (nI i) ∧ f141 = upd (A 141) ((o2 + b2) % 40) (nI M) ∧ f142 = upd (A 142) ((o2 + b2) % 40) (atF (A 136) (G 0) M i M) ∧ f143 = upd (A 143) ((o2 + b2) % 40) v) ∨ (r1 = -10001 ∧ (∀ i : Nat, i < R → x = nI i → (-999 ≤ v.toInt ∧ v.toInt ≤ 999) → False) ∧ x123 = I 123 ∧ f136 = A 136 ∧ g0 = G 0 ∧ x144 = I 144 ∧ x145 = I 145 ∧ x146 = I 146 ∧ f140 = A 140 ∧ f141 = A 141 ∧ f142 = A 142 ∧ f143 = A 143)) : CC (I 120) (I 121) (I 122) x123 (I 173) (I 174) (I 212) (I 213) f136 (A 170) (A 171) g0 (G 2) (G 3) := by
  rcases hf with ⟨i, -, -, -, -, e3, -⟩ | ⟨-, -, e3, e1, e2, -⟩
  · exact cc_new h e e3 (by omega) (by omega)
  · rw [e1, e2, e3]
    exact h
theorem cc_undo {I : Nat → Int32} {A : Nat → Nat → Int32} {Q : Nat → Nat → Int64} {G : Nat → Nat → Nat → Int32} {sp : Nat} {M o bk on : Nat} {r1 x123 x145 x146 : Int32} {f136 : Nat → Int32} {g0 : Nat → Nat → Int32} (h : CC (I 120) (I 121) (I 122) (I 123) (I 173) (I 174) (I 212) (I 213) (A 136) (A 170) (A 171) (G 0) (G 2) (G 3)) (e : I 123 = nI sp) (hs : sp < 999999000) (hf : (0 < bk ∧ r1 = nI (bk - 1) ∧ x145 = nI (bk - 1) ∧ x146 = nI (on + 1) ∧ x123 = nI (sp + 1) ∧ ∃ i j : Nat, i < 5 ∧ j ≤ M ∧ A 140 ((o + (bk - 1)) % 40) = nI i ∧ A 141 ((o + (bk - 1)) % 40) = nI j ∧ putP M i j (A 142 ((o + (bk - 1)) % 40)) (A 136) (G 0) f136 g0) ∨ (bk = 0 ∧ r1 = -2 ∧ x123 = I 123 ∧ f136 = A 136 ∧ g0 = G 0 ∧ x145 = I 145 ∧ x146 = I 146)) : CC (I 120) (I 121) (I 122) x123 (I 173) (I 174) (I 212) (I 213) f136 (A 170) (A 171) g0 (G 2) (G 3) := by
  rcases hf with ⟨-, -, -, -, e3, -⟩ | ⟨-, -, e3, e1, e2, -⟩
  · exact cc_new h e e3 (by omega) (by omega)
  · rw [e1, e2, e3]
    exact h
theorem cc_redo {I : Nat → Int32} {A : Nat → Nat → Int32} {Q : Nat → Nat → Int64} {G : Nat → Nat → Nat → Int32} {sp : Nat} {M o bk on : Nat} {r1 x123 x145 x146 : Int32} {f136 : Nat → Int32} {g0 : Nat → Nat → Int32} (h : CC (I 120) (I 121) (I 122) (I 123) (I 173) (I 174) (I 212) (I 213) (A 136) (A 170) (A 171) (G 0) (G 2) (G 3)) (e : I 123 = nI sp) (hs : sp < 999999000) (hf : (0 < on ∧ r1 = nI (on - 1) ∧ x145 = nI (bk + 1) ∧ x146 = nI (on - 1) ∧ x123 = nI (sp + 1) ∧ ∃ i j : Nat, i < 5 ∧ j ≤ M ∧ A 140 ((o + (bk)) % 40) = nI i ∧ A 141 ((o + (bk)) % 40) = nI j ∧ putP M i j (A 143 ((o + (bk)) % 40)) (A 136) (G 0) f136 g0) ∨ (on = 0 ∧ r1 = -2 ∧ x123 = I 123 ∧ f136 = A 136 ∧ g0 = G 0 ∧ x145 = I 145 ∧ x146 = I 146)) : CC (I 120) (I 121) (I 122) x123 (I 173) (I 174) (I 212) (I 213) f136 (A 170) (A 171) g0 (G 2) (G 3) := by
  rcases hf with ⟨-, -, -, -, e3, -⟩ | ⟨-, -, e3, e1, e2, -⟩
  · exact cc_new h e e3 (by omega) (by omega)
  · rw [e1, e2, e3]
    exact h
theorem cc_read {I : Nat → Int32} {A : Nat → Nat → Int32} {Q : Nat → Nat → Int64} {G : Nat → Nat → Nat → Int32} {sp : Nat} {T : Nat} {r1 i120 i121 i123 i144 i145 i146 i151 : Int32} {a136 : Nat → Int32} {g0 : Nat → Nat → Int32} (h : CC (I 120) (I 121) (I 122) (I 123) (I 173) (I 174) (I 212) (I 213) (A 136) (A 170) (A 171) (G 0) (G 2) (G 3)) (e : I 123 = nI sp) (hs : sp < 999999000) (hf : i151 = nI 0 ∧ ((∃ (h7 w7 s2 : Nat) (V : Nat → Nat → Int32), 1 ≤ h7 ∧ h7 ≤ 5 ∧ 1 ≤ w7 ∧ w7 ≤ 4 ∧ sp < s2 ∧ s2 ≤ sp + 25 ∧ r1 = nI h7 ∧ i120 = nI h7 ∧ i121 = nI w7 ∧ i123 = nI s2 ∧ i144 = nI 0 ∧ i145 = nI 0 ∧ i146 = nI 0 ∧ pR (A 150) T 20 0 0 0 0 (nI 0) h7 w7 V ∧ (∀ i j : Nat, i < h7 → j < w7 → g0 i j = V i j) ∧ ∀ t : Nat, t < 5 → a136 t = nI 0) ∨ (∃ (q : Nat) (V : Nat → Nat → Int32), q ≤ T ∧ r1 = -20 - nI q ∧ pR (A 150) T 20 0 0 0 0 (-20 - nI q) 0 0 V ∧ i120 = I 120 ∧ i121 = I 121 ∧ i123 = I 123 ∧ i144 = I 144 ∧ i145 = I 145 ∧ i146 = I 146 ∧ a136 = A 136 ∧ g0 = G 0))) : CC i120 i121 (I 122) i123 (I 173) (I 174) (I 212) (I 213) a136 (A 170) (A 171) g0 (G 2) (G 3) := by
  obtain ⟨-, ⟨h8, w8, s2, V, -, -, -, -, b5, b6, -, -, -, e3, -⟩ | ⟨q1, V, -, -, -, e1, e2, e3, -, -, -, e7, e8⟩⟩ := hf
  · exact cc_new h e e3 b5 (by omega)
  · rw [e1, e2, e3, e7, e8]
    exact h

theorem cc_rows {I : Nat → Int32} {A : Nat → Nat → Int32} {Q : Nat → Nat → Int64} {G : Nat → Nat → Nat → Int32} {sp : Nat} {R M : Nat} {x y z r1 i123 i144 i145 i146 : Int32} {a136 : Nat → Int32} {g0 : Nat → Nat → Int32} (h : CC (I 120) (I 121) (I 122) (I 123) (I 173) (I 174) (I 212) (I 213) (A 136) (A 170) (A 171) (G 0) (G 2) (G 3)) (e : I 123 = nI sp) (hs : sp < 999999000) (hf : (¬ r1 = nI 0 ∧ rfP I x y z (R * (M + 1)) r1 ∧ a136 = A 136 ∧ g0 = G 0 ∧ i123 = I 123 ∧ i144 = I 144 ∧ i145 = I 145 ∧ i146 = I 146) ∨ (∃ s w i ln : Nat, s < 4 ∧ w < 3 ∧ ln ≤ 25 ∧ x = nI s ∧ y = nI w ∧ z = nI i ∧ ¬ I (220 + s) = -1 ∧ I (220 + s) = nI w ∧ I (224 + s) = nI ln ∧ i + R * (M + 1) ≤ ln ∧ ((¬ tkI (Q (228 + s)) i M R 0 ∧ r1 = -2 ∧ a136 = A 136 ∧ g0 = G 0 ∧ i123 = I 123 ∧ i144 = I 144 ∧ i145 = I 145 ∧ i146 = I 146) ∨ (tkI (Q (228 + s)) i M R 0 ∧ r1 = nI R ∧ cpI (Q (228 + s)) i M R 0 a136 g0 ∧ (∃ s2 : Nat, sp < s2 ∧ s2 ≤ sp + 25 ∧ i123 = nI s2) ∧ i144 = nI 0 ∧ i145 = nI 0 ∧ i146 = nI 0)))) : CC (I 120) (I 121) (I 122) i123 (I 173) (I 174) (I 212) (I 213) a136 (A 170) (A 171) g0 (G 2) (G 3) := by
  rcases hf with ⟨-, -, e1, e2, e3, -⟩ | ⟨s, w, i, ln, -, -, -, -, -, -, -, -, -, -, ⟨-, -, e1, e2, e3, -⟩ | ⟨-, -, -, ⟨s2, b1, b2, e3⟩, -⟩⟩
  · rw [e1, e2, e3]
    exact h
  · rw [e1, e2, e3]
    exact h
  · exact cc_new h e e3 b1 (by omega)
theorem cc_w {I : Nat → Int32} {A : Nat → Nat → Int32} {Q : Nat → Nat → Int64} {G : Nat → Nat → Nat → Int32} {sp : Nat} {R M a : Nat} {i173 : Int32} {a170 : Nat → Int32} (h : CC (I 120) (I 121) (I 122) (I 123) (I 173) (I 174) (I 212) (I 213) (A 136) (A 170) (A 171) (G 0) (G 2) (G 3)) (e : I 123 = nI sp) (hs : sp < 999999000) (hR : I 120 = nI R) (hR5 : R ≤ 5) (hM : I 121 = nI M) (hM4 : M ≤ 4) (ha : I 122 = nI a) (ha2 : a = 2 ∨ a = 4) (hf : (I 173 = I 123 ∧ a170 = A 170 ∧ i173 = I 173) ∨ (¬ I 173 = I 123 ∧ i173 = I 123 ∧ ∀ t : Nat, t < a ^ M → a170 t = offC (A 136) (G 0) a M t R)) : CC (I 120) (I 121) (I 122) (I 123) i173 (I 174) (I 212) (I 213) (A 136) a170 (A 171) (G 0) (G 2) (G 3) ∧ ∀ t : Nat, t < a ^ M → a170 t = offC (A 136) (G 0) a M t R := by
  rcases hf with ⟨e1, e2, e3⟩ | ⟨e1, e2, e3⟩
  · rw [e2, e3]
    exact ⟨h, h.1.2.2 e1 R M a hR hR5 hM hM4 ha ha2⟩
  · refine ⟨⟨?_, h.2⟩, e3⟩
    rw [e2]
    refine ⟨by rw [e, nI_toInt (by omega)]; omega, Int.le_refl _, fun _ R2 M2 a2 f1 f2 f3 f4 f5 f6 => ?_⟩
    obtain rfl : R = R2 := (nI_eq (by omega) (by omega)).mp (hR.symm.trans f1)
    obtain rfl : M = M2 := (nI_eq (by omega) (by omega)).mp (hM.symm.trans f3)
    obtain rfl : a = a2 := (nI_eq (by omega) (by omega)).mp (ha.symm.trans f5)
    exact e3
theorem cc_l {I : Nat → Int32} {A : Nat → Nat → Int32} {Q : Nat → Nat → Int64} {G : Nat → Nat → Nat → Int32} {sp : Nat} {R M : Nat} {i212 i213 : Int32} {g2 g3 : Nat → Nat → Int32} (h : CC (I 120) (I 121) (I 122) (I 123) (I 173) (I 174) (I 212) (I 213) (A 136) (A 170) (A 171) (G 0) (G 2) (G 3)) (e : I 123 = nI sp) (hs : sp < 999999000) (hR : I 120 = nI R) (hR5 : R ≤ 5) (hM : I 121 = nI M) (hM4 : M ≤ 4) (hf : (I 213 = I 123 ∧ i212 = I 212 ∧ i213 = I 213 ∧ g2 = G 2 ∧ g3 = G 3) ∨ (¬ I 213 = I 123 ∧ i213 = I 123 ∧ ∃ n : Nat, i212 = nI n ∧ n ≤ 2000 ∧ Ln R M (G 0) n g2 g3 ∧ (n = 2000 ∨ NoSt R M g2))) : CC (I 120) (I 121) (I 122) (I 123) (I 173) (I 174) i212 i213 (A 136) (A 170) (A 171) (G 0) g2 g3 ∧ ∃ n : Nat, i212 = nI n ∧ n ≤ 2000 ∧ Ln R M (G 0) n g2 g3 ∧ (n = 2000 ∨ NoSt R M g2) := by
  rcases hf with ⟨e1, e2, e3, e4, e5⟩ | ⟨e1, e2, e3⟩
  · rw [e2, e3, e4, e5]
    exact ⟨h, h.2.1.2.2 e1 R M hR hR5 hM hM4⟩
  · refine ⟨⟨h.1, ?_, h.2.2⟩, e3⟩
    rw [e2]
    refine ⟨by rw [e, nI_toInt (by omega)]; omega, Int.le_refl _, fun _ R2 M2 f1 f2 f3 f4 => ?_⟩
    obtain rfl : R = R2 := (nI_eq (by omega) (by omega)).mp (hR.symm.trans f1)
    obtain rfl : M = M2 := (nI_eq (by omega) (by omega)).mp (hM.symm.trans f3)
    exact e3
theorem blk_o {o o2 : Nat → Int32} {be : Nat → Nat} {W : Nat} (h : ∀ t : Nat, t < W → o t = o2 t) (g : Blk o be 0 W) : Blk o2 be 0 W := by
  refine ⟨?_, g.2⟩
  have hm : ∀ u : Nat, u ∈ segL be 0 W → u < W := fun u hu => by
    have := (g.2.mem_iff).mp hu
    rw [List.mem_range'_1] at this
    omega
  refine List.Pairwise.imp_of_mem (fun {u v} hu hv q => ?_) g.1
  rw [leK_iff] at q ⊢
  rw [← h u (hm u hu), ← h v (hm v hv)]
  exact q
theorem cc_b {I : Nat → Int32} {A : Nat → Nat → Int32} {Q : Nat → Nat → Int64} {G : Nat → Nat → Nat → Int32} {sp : Nat} {R M a : Nat} {i173 i174 : Int32} {a170 a171 : Nat → Int32} (h : CC (I 120) (I 121) (I 122) (I 123) (I 173) (I 174) (I 212) (I 213) (A 136) (A 170) (A 171) (G 0) (G 2) (G 3)) (e : I 123 = nI sp) (hs : sp < 999999000) (hR : I 120 = nI R) (hR5 : R ≤ 5) (hM : I 121 = nI M) (hM4 : M ≤ 4) (ha : I 122 = nI a) (ha2 : a = 2 ∨ a = 4) (hf : (I 173 = I 123 ∧ a170 = A 170 ∧ i173 = I 173) ∨ (¬ I 173 = I 123 ∧ i173 = I 123 ∧ ∀ t : Nat, t < a ^ M → a170 t = offC (A 136) (G 0) a M t R)) (hf2 : (I 174 = I 123 ∧ i174 = I 174 ∧ a171 = A 171) ∨ (¬ I 174 = I 123 ∧ i174 = I 123 ∧ ∃ be : Nat → Nat, (∀ q : Nat, q < a ^ M → a171 q = nI (be q)) ∧ Blk a170 be 0 (a ^ M))) : CC (I 120) (I 121) (I 122) (I 123) i173 i174 (I 212) (I 213) (A 136) a170 a171 (G 0) (G 2) (G 3) ∧ ∃ be : Nat → Nat, (∀ q : Nat, q < a ^ M → a171 q = nI (be q)) ∧ Blk (fun t => offC (A 136) (G 0) a M t R) be 0 (a ^ M) := by
  obtain ⟨⟨w1, w2, w3⟩, w4⟩ := cc_w (Q := Q) h e hs hR hR5 hM hM4 ha ha2 hf
  rcases hf2 with ⟨e1, e2, e3⟩ | ⟨e1, e2, be, e3, e4⟩
  · rw [e2, e3]
    exact ⟨⟨w1, w2, w3⟩, h.2.2.2.2 e1 R M a hR hR5 hM hM4 ha ha2⟩
  · have e5 := blk_o w4 e4
    refine ⟨⟨w1, w2, ?_⟩, be, e3, e5⟩
    rw [e2]
    refine ⟨by rw [e, nI_toInt (by omega)]; omega, Int.le_refl _, fun _ R2 M2 a2 f1 f2 f3 f4 f5 f6 => ?_⟩
    obtain rfl : R = R2 := (nI_eq (by omega) (by omega)).mp (hR.symm.trans f1)
    obtain rfl : M = M2 := (nI_eq (by omega) (by omega)).mp (hM.symm.trans f3)
    obtain rfl : a = a2 := (nI_eq (by omega) (by omega)).mp (ha.symm.trans f5)
    exact ⟨be, e3, e5⟩
/-! LED: both sides -/
theorem prod_z {R M i j : Nat} {C : Nat → Nat → Int32} (hz : ∀ r c : Nat, R ≤ r → c < M → C r c = nI 0) (hi : i < M) (hj : j < M) : ∀ n : Nat, prodF C i j (R + n) = prodF C i j R
  | 0 => rfl
  | n + 1 => by
    rw [← Nat.add_assoc, prodF, prod_z hz hi hj n, hz (R + n) i (by omega) hi, zmul]
    exact Int32.add_zero _
theorem qF_5 {R M i j : Nat} {C : Nat → Nat → Int32} (hR : R ≤ 5) (hz : ∀ r c : Nat, R ≤ r → c < M → C r c = nI 0) (hi : i < M) (hj : j < M) : qF C 5 i j = qF C R i j := by
  unfold qF
  have e1 := prod_z hz hi hj (5 - R)
  have e2 := prod_z hz hj hj (5 - R)
  rw [show R + (5 - R) = 5 by omega] at e1 e2
  rw [e1, e2]
theorem ln_5 {R M : Nat} {C0 : Nat → Nat → Int32} (hR : R ≤ 5) (h0 : ∀ r c : Nat, R ≤ r → r < 5 → c < M → C0 r c = nI 0) : ∀ (n : Nat) (C T : Nat → Nat → Int32), Ln 5 M C0 n C T → ∃ D : Nat → Nat → Int32, (∀ r c : Nat, r < 5 → c < M → D r c = C r c) ∧ (∀ r c : Nat, R ≤ r → c < M → D r c = nI 0) ∧ Ln R M C0 n D T
  | 0, C, T, f => ⟨fun r c => if r < R then C r c else nI 0, fun r c hr hc => by
      by_cases e : r < R
      · simp only [if_pos e]
      · simp only [if_neg e]
        rw [f.1 r c hr hc, h0 r c (by omega) hr hc], fun r c hr _ => by
      simp only [if_neg (show ¬ r < R by omega)], fun r c hr hc => by
      simp only [if_pos hr]
      exact f.1 r c (by omega) hc, f.2⟩
  | n + 1, C, T, f => by
    obtain ⟨Cp, Tp, i, j, f1, f2, f3, f4⟩ := f
    obtain ⟨Dp, d1, d2, d3⟩ := ln_5 hR h0 n Cp Tp f1
    have hq : ∀ a b : Nat, a < M → b < M → qF Cp 5 a b = qF Dp R a b := fun a b ha hb => by
      rw [← qF_5 hR d2 ha hb]
      exact qF_c (fun r c hr hc => (d1 r c hr hc).symm) ha hb
    refine ⟨shC Dp (qF Dp R i j) i j, fun r c hr hc => ?_, fun r c hr hc => ?_, Dp, Tp, i, j, d3, ⟨f2.1, f2.2.1, f2.2.2.1, by rw [← hq i j f2.1 f2.2.1]; exact f2.2.2.2.1, fun a b ha hb hab hl => by rw [← hq a b ha hb]; exact f2.2.2.2.2 a b ha hb hab hl⟩, fun r c hr hc => rfl, fun k c hk hc => by rw [← hq i j f2.1 f2.2.1]; exact f4 k c hk hc⟩
    · rw [f3 r c hr hc, hq i j f2.1 f2.2.1]
      unfold shC
      rw [d1 r i hr f2.1, d1 r j hr f2.2.1, d1 r c hr hc]
    · unfold shC
      split
      · rw [d2 r i hr f2.1, d2 r j hr f2.2.1, mul0]
        decide
      · exact d2 r c hr hc
theorem col_rel {R M : Nat} {he t : Nat → Int32} {g : Nat → Nat → Int32} (h : RelT R M he g t) : ∀ r c : Nat, r < R → c < M → g r c = (fun r c => colF t R M c r) r c := fun r c hr hc => by
  show g r c = colF t R M c r
  unfold colF
  rw [if_pos ⟨hc, hr⟩, rel_c h hr hc]
/-- LED is the same on both sides -/
theorem led_eq {R M n m : Nat} {he t b17 b18 : Nat → Int32} {g g2 g3 : Nat → Nat → Int32} (hR : R ≤ 5) (hM : M ≤ 4) (h : RelT R M he g t) (hn : n ≤ 2000) (hl : Ln R M g n g2 g3) (he9 : n = 2000 ∨ NoSt R M g2) (hm : m ≤ 1620) (hl2 : Ln 5 M (fun r c => colF t R M c r) m (fC b17) (fT b18)) (hno : NoSt 5 M (fC b17)) : n = m ∧ (∀ r c : Nat, r < R → c < M → g2 r c = b17 (5 * c + r)) ∧ ∀ k c : Nat, k < M → c < M → g3 k c = b18 (4 * k + c) := by
  obtain ⟨D, d1, d2, d3⟩ := ln_5 hR (fun r c hr hr5 hc => by
    show colF t R M c r = nI 0
    unfold colF
    rw [if_neg (fun q => by omega)]) m _ _ hl2
  have hno2 : NoSt R M D := fun a b ha hb hab => by
    rw [← qF_5 hR d2 ha hb, qF_c d1 ha hb]
    exact hno a b ha hb hab
  have hrel := col_rel h
  have le1 := ln_le (fun r c hr hc => (hrel r c hr hc).symm) d3 hno2 n g2 g3 hl
  have e : n = m := by
    rcases he9 with q | q
    · omega
    · have le2 := ln_le hrel hl q m D (fT b18) d3
      omega
  subst e
  obtain ⟨u1, u2⟩ := ln_u hrel n g2 g3 D (fT b18) hl d3
  exact ⟨rfl, fun r c hr hc => by rw [u1 r c hr hc, d1 r c (by omega) hc]; rfl, fun k c hk hc => u2 k c hk hc⟩
theorem eq_led {r1 r2 i212 : Int32} {R M : Nat} {A rA : Nat → Nat → Int32} {b17 b18 : Nat → Int32} {G : Nat → Nat → Nat → Int32} {g2 g3 : Nat → Nat → Int32} (hR : R ≤ 5) (hM : M ≤ 4) (ht : RelT R M (A 136) (G 0) (rA 3)) (e1 : r1 = i212) (hc : ∃ n : Nat, i212 = nI n ∧ n ≤ 2000 ∧ Ln R M (G 0) n g2 g3 ∧ (n = 2000 ∨ NoSt R M g2)) (hf2 : ∃ n : Nat, r2 = nI n ∧ n ≤ 1620 ∧ Ln 5 M (fun r2 c => colF (rA 3) R M c r2) n (fC b17) (fT b18) ∧ NoSt 5 M (fC b17) ∧ short b17) : r1 = r2 := by
  obtain ⟨n, e2, hn, hl, he9⟩ := hc
  obtain ⟨m, k1, hm, hl2, hno, -⟩ := hf2
  obtain ⟨rfl, -⟩ := led_eq hR hM ht hn hl he9 hm hl2 hno
  rw [e1, e2, k1]
theorem eq_ledAt {x y z r1 r2 i212 i213 : Int32} {R M : Nat} {I : Nat → Int32} {A rA : Nat → Nat → Int32} {b17 b18 : Nat → Int32} {G : Nat → Nat → Nat → Int32} {g2 g3 : Nat → Nat → Int32} (hR : R ≤ 5) (hM : M ≤ 4) (ht : RelT R M (A 136) (G 0) (rA 3)) (hc : ((I 213 = I 123 ∧ i212 = I 212 ∧ i213 = I 213 ∧ g2 = G 2 ∧ g3 = G 3) ∨ (¬ I 213 = I 123 ∧ i213 = I 123 ∧ ∃ n : Nat, i212 = nI n ∧ n ≤ 2000 ∧ Ln R M (G 0) n g2 g3 ∧ (n = 2000 ∨ NoSt R M g2))) → ∃ n : Nat, i212 = nI n ∧ n ≤ 2000 ∧ Ln R M (G 0) n g2 g3 ∧ (n = 2000 ∨ NoSt R M g2)) (hf1 : (∃ i j : Nat, i < M ∧ z = nI i ∧ y = nI j ∧ ((x = nI 0 ∧ j < R ∧ r1 = g2 j i) ∨ (x = nI 1 ∧ j < M ∧ r1 = g3 j i)) ∧ ((I 213 = I 123 ∧ i212 = I 212 ∧ i213 = I 213 ∧ g2 = G 2 ∧ g3 = G 3) ∨ (¬ I 213 = I 123 ∧ i213 = I 123 ∧ ∃ n : Nat, i212 = nI n ∧ n ≤ 2000 ∧ Ln R M (G 0) n g2 g3 ∧ (n = 2000 ∨ NoSt R M g2)))) ∨ (r1 = -1000001 ∧ (∀ i j : Nat, i < M → ((x = nI 0 ∧ j < R ∧ y = nI j ∧ z = nI i) ∨ (x = nI 1 ∧ j < M ∧ y = nI j ∧ z = nI i)) → False) ∧ i212 = I 212 ∧ i213 = I 213 ∧ g2 = G 2 ∧ g3 = G 3)) (hf2 : (∃ i j : Nat, i < M ∧ z = nI i ∧ y = nI j ∧ ((x = nI 0 ∧ j < R ∧ r2 = b17 (5 * i + j)) ∨ (x = nI 1 ∧ j < M ∧ r2 = b18 (4 * j + i))) ∧ (∃ n : Nat, n ≤ 1620 ∧ Ln 5 M (fun r2 c => colF (rA 3) R M c r2) n (fC b17) (fT b18) ∧ NoSt 5 M (fC b17))) ∨ (r2 = -1000001 ∧ b17 = rA 17 ∧ b18 = rA 18 ∧ ∀ i j : Nat, i < M → ((x = nI 0 ∧ j < R ∧ y = nI j ∧ z = nI i) ∨ (x = nI 1 ∧ j < M ∧ y = nI j ∧ z = nI i)) → False)) : r1 = r2 := by
  rcases hf1 with ⟨i, j, hi, ez, ey, hw, hlc⟩ | ⟨e1, hn, -⟩ <;> rcases hf2 with ⟨i2, j2, hi2, fz, fy, hw2, m, hm, hl2, hno⟩ | ⟨k1, -, -, hn2⟩
  · obtain ⟨n, -, hn9, hl, he9⟩ := hc hlc
    obtain ⟨-, u1, u2⟩ := led_eq hR hM ht hn9 hl he9 hm hl2 hno
    obtain rfl : i = i2 := (nI_eq (by omega) (by omega)).mp (ez.symm.trans fz)
    rcases hw with ⟨a1, a2, a3⟩ | ⟨a1, a2, a3⟩ <;> rcases hw2 with ⟨b1, b2, b3⟩ | ⟨b1, b2, b3⟩
    · obtain rfl : j = j2 := (nI_eq (by omega) (by omega)).mp (ey.symm.trans fy)
      rw [a3, b3, u1 j i a2 hi]
    · exact absurd (a1.symm.trans b1) (by decide)
    · exact absurd (a1.symm.trans b1) (by decide)
    · obtain rfl : j = j2 := (nI_eq (by omega) (by omega)).mp (ey.symm.trans fy)
      rw [a3, b3, u2 j i a2 hi]
  · exact (hn2 i j hi (hw.elim (fun q => Or.inl ⟨q.1, q.2.1, ey, ez⟩) (fun q => Or.inr ⟨q.1, q.2.1, ey, ez⟩))).elim
  · exact (hn i2 j2 hi2 (hw2.elim (fun q => Or.inl ⟨q.1, q.2.1, fy, fz⟩) (fun q => Or.inr ⟨q.1, q.2.1, fy, fz⟩))).elim
  · rw [e1, k1]
