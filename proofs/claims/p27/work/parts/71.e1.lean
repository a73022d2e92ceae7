/-! ===== a table as a text: one relation for both sides ===== -/
def isC (t : Nat → Int32) (T j k : Nat) : Prop := j < T ∧ t j = nI k
def nmOk (t : Nat → Int32) (T p p3 : Nat) (v : Int32) : Prop := ∃ (j1 j2 : Nat) (ng : Bool), IsSkip t T p j1 ∧ (ng = true ↔ isC t T j1 45) ∧ IsSkip t T (if ng then j1 + 1 else j1) j2 ∧ (j2 < T ∧ IsDig (t j2)) ∧ IsDigs t T j2 p3 ∧ digV t j2 (p3 - j2) ≤ nI 9 ∧ v = if ng then -digV t j2 (p3 - j2) else digV t j2 (p3 - j2)
def nmBad (t : Nat → Int32) (T p q : Nat) : Prop := ∃ (j1 : Nat) (ng : Bool), IsSkip t T p j1 ∧ (ng = true ↔ isC t T j1 45) ∧ IsSkip t T (if ng then j1 + 1 else j1) q ∧ (¬ (q < T ∧ IsDig (t q)) ∨ ∃ j3 : Nat, IsDigs t T q j3 ∧ ¬ digV t q (j3 - q) ≤ nI 9)
/-- the sign behind r numbers of row h, at the place j -/
def pM (t : Nat → Int32) (T : Nat) (K : Nat → Nat → Nat → Nat → Prop) (h w r j : Nat) (res : Int32) (H W : Nat) : Prop :=
  ((¬ j < T ∧ (h = 0 ∨ r = w)) ∧ res = nI 0 ∧ H = h + 1 ∧ W = r) ∨ ((isC t T j 44 ∧ r < (if h = 0 then 4 else w)) ∧ K h w r (j + 1)) ∨ ((isC t T j 59 ∧ (h = 0 ∨ r = w) ∧ h < 4) ∧ K (h + 1) r 0 (j + 1)) ∨
  (¬ (¬ j < T ∧ (h = 0 ∨ r = w)) ∧ ¬ (isC t T j 44 ∧ r < (if h = 0 then 4 else w)) ∧ ¬ (isC t T j 59 ∧ (h = 0 ∨ r = w) ∧ h < 4) ∧ res = -20 - nI j)
/-- from the place p on, in row h (of w numbers, but for the first row) with r numbers read: the answer, how many rows, of how many numbers, the numbers -/
def pR (t : Nat → Int32) (T : Nat) : Nat → Nat → Nat → Nat → Nat → Int32 → Nat → Nat → (Nat → Nat → Int32) → Prop
  | 0, _, _, _, _, _, _, _, _ => False
  | f + 1, h, w, r, p, res, H, W, V => (∃ q : Nat, nmBad t T p q ∧ res = -20 - nI q) ∨ ∃ (p3 : Nat) (v : Int32) (j : Nat), nmOk t T p p3 v ∧ V h r = v ∧ IsSkip t T p3 j ∧ pM t T (fun h w r p => pR t T f h w r p res H W V) h w (r + 1) j res H W
theorem sk_u {t : Nat → Int32} {T a j k : Nat} (h : IsSkip t T a j) (g : IsSkip t T a k) : j = k := by
  obtain ⟨h1, h2, h3, h4⟩ := h
  obtain ⟨g1, g2, g3, g4⟩ := g
  rcases Nat.lt_trichotomy j k with q | q | q
  · exact absurd (g3 j h1 q) (h4 (by omega))
  · exact q
  · exact absurd (h3 k g1 q) (g4 (by omega))
theorem dg_u {t : Nat → Int32} {T a j k : Nat} (h : IsDigs t T a j) (g : IsDigs t T a k) : j = k := by
  obtain ⟨h1, h2, h3, h4⟩ := h
  obtain ⟨g1, g2, g3, g4⟩ := g
  rcases Nat.lt_trichotomy j k with q | q | q
  · exact absurd (g3 j h1 q) (h4 (by omega))
  · exact q
  · exact absurd (h3 k g1 q) (g4 (by omega))
theorem ng_u {a b : Bool} {P : Prop} (h : a = true ↔ P) (g : b = true ↔ P) : a = b := by
  cases a <;> cases b
  · rfl
  · exact h.mpr (g.mp rfl)
  · exact (g.mpr (h.mp rfl)).symm
  · rfl
theorem bad_u {t : Nat → Int32} {T p q k : Nat} (h : nmBad t T p q) (g : nmBad t T p k) : q = k := by
  obtain ⟨j1, ng, h1, h2, h3, -⟩ := h
  obtain ⟨k1, mg, g1, g2, g3, -⟩ := g
  have e1 := sk_u h1 g1
  subst e1
  have e2 := ng_u h2 g2
  subst e2
  exact sk_u h3 g3
theorem ok_bad {t : Nat → Int32} {T p p3 q : Nat} {v : Int32} (h : nmOk t T p p3 v) (g : nmBad t T p q) : False := by
  obtain ⟨j1, j2, ng, h1, h2, h3, h4, h5, h6, -⟩ := h
  obtain ⟨k1, mg, g1, g2, g3, g4⟩ := g
  have e1 := sk_u h1 g1
  subst e1
  have e2 := ng_u h2 g2
  subst e2
  have e3 := sk_u h3 g3
  subst e3
  rcases g4 with g4 | ⟨j3, g5, g6⟩
  · exact g4 h4
  · have e4 := dg_u h5 g5
    subst e4
    exact g6 h6
theorem ok_u {t : Nat → Int32} {T p p3 q3 : Nat} {v u : Int32} (h : nmOk t T p p3 v) (g : nmOk t T p q3 u) : p3 = q3 ∧ v = u := by
  obtain ⟨j1, j2, ng, h1, h2, h3, h4, h5, h6, h7⟩ := h
  obtain ⟨k1, k2, mg, g1, g2, g3, g4, g5, g6, g7⟩ := g
  have e1 := sk_u h1 g1
  subst e1
  have e2 := ng_u h2 g2
  subst e2
  have e3 := sk_u h3 g3
  subst e3
  have e4 := dg_u h5 g5
  subst e4
  exact ⟨rfl, h7.trans g7.symm⟩
theorem f20_inj {a b : Nat} (ha : a ≤ 90) (hb : b ≤ 90) (h : (-20 : Int32) - nI a = -20 - nI b) : a = b := by
  have h1 := congrArg Int32.toInt h
  rw [Int32.toInt_sub, Int32.toInt_sub, nI_toInt (by omega), nI_toInt (by omega), show (-20 : Int32).toInt = -20 by decide, Int.bmod_eq_of_le (by omega) (by omega), Int.bmod_eq_of_le (by omega) (by omega)] at h1
  omega
theorem c44_59 {t : Nat → Int32} {T j : Nat} (h : isC t T j 44) (g : isC t T j 59) : False := absurd (h.2.symm.trans g.2) (by decide)
theorem bad_le {t : Nat → Int32} {T p q : Nat} (h : nmBad t T p q) : q ≤ T := by
  obtain ⟨j1, ng, h1, h2, h3, -⟩ := h
  exact h3.2.1
theorem pR_W {t : Nat → Int32} {T : Nat} (hT : T ≤ 90) : ∀ (f h w r p : Nat) (H W : Nat) (V : Nat → Nat → Int32), pR t T f h w r p (nI 0) H W V → 0 < h → W = w
  | 0, _, _, _, _, _, _, _, g, _ => g.elim
  | f + 1, h, w, r, p, H, W, V, g, h0 => by
    rcases g with ⟨q, g1, g2⟩ | ⟨p3, v, j, -, -, gj, ⟨g1, -, -, g2⟩ | ⟨g1, g2⟩ | ⟨g1, g2⟩ | ⟨-, -, -, g2⟩⟩
    · exact absurd g2.symm (fault_ne0 (Nat.le_trans (bad_le g1) hT))
    · rw [g2]
      omega
    · exact pR_W hT f h w (r + 1) (j + 1) H W V g2 h0
    · have := pR_W hT f (h + 1) (r + 1) 0 (j + 1) H W V g2 (by omega)
      omega
    · exact absurd g2.symm (fault_ne0 (Nat.le_trans gj.2.1 hT))
theorem pR_u {t : Nat → Int32} {T : Nat} (hT : T ≤ 90) : ∀ (f f2 h w r p : Nat) (res res2 : Int32) (H W H2 W2 : Nat) (V V2 : Nat → Nat → Int32), pR t T f h w r p res H W V → pR t T f2 h w r p res2 H2 W2 V2 → res = res2 ∧ (res = nI 0 → H = H2 ∧ W = W2 ∧ ∀ i j : Nat, (h < i ∨ (i = h ∧ r ≤ j)) → i < H → j < W → V i j = V2 i j)
  | 0, _, _, _, _, _, _, _, _, _, _, _, _, _, g, _ => g.elim
  | f + 1, 0, _, _, _, _, _, _, _, _, _, _, _, _, _, k => k.elim
  | f + 1, f2 + 1, h, w, r, p, res, res2, H, W, H2, W2, V, V2, g, k => by
    rcases g with ⟨q, g1, g2⟩ | ⟨p3, v, j, go, gv, gj, gm⟩
    · rcases k with ⟨q2, k1, k2⟩ | ⟨q3, u, j2, ko, kv, kj, km⟩
      · have e := bad_u g1 k1
        subst e
        exact ⟨g2.trans k2.symm, fun e0 => absurd (g2.symm.trans e0) (fault_ne0 (Nat.le_trans (bad_le g1) hT))⟩
      · exact (ok_bad ko g1).elim
    · rcases k with ⟨q2, k1, k2⟩ | ⟨q3, u, j2, ko, kv, kj, km⟩
      · exact (ok_bad go k1).elim
      · obtain ⟨e1, e2⟩ := ok_u go ko
        subst e1 e2
        have e3 := sk_u gj kj
        subst e3
        have hj := gj.2.1
        rcases gm with ⟨a1, a2, a3, a4⟩ | ⟨a1, a2⟩ | ⟨a1, a2⟩ | ⟨a1, a2, a3, a4⟩ <;> rcases km with ⟨b1, b2, b3, b4⟩ | ⟨b1, b2⟩ | ⟨b1, b2⟩ | ⟨b1, b2, b3, b4⟩
        · refine ⟨a2.trans b2.symm, fun _ => ⟨by omega, by omega, fun i j9 hij hi hj9 => ?_⟩⟩
          have e4 : i = h := by omega
          have e5 : j9 = r := by omega
          rw [e4, e5, gv, kv]
        · exact absurd b1.1.1 a1.1
        · exact absurd b1.1.1 a1.1
        · exact absurd a1 b1
        · exact absurd a1.1.1 b1.1
        · obtain ⟨c1, c2⟩ := pR_u hT f f2 h w (r + 1) (j + 1) res res2 H W H2 W2 V V2 a2 b2
          refine ⟨c1, fun e0 => ⟨(c2 e0).1, (c2 e0).2.1, fun i j9 hij hi hj9 => ?_⟩⟩
          by_cases e4 : i = h ∧ j9 = r
          · rw [e4.1, e4.2, gv, kv]
          · exact (c2 e0).2.2 i j9 (by omega) hi hj9
        · exact (c44_59 a1.1 b1.1).elim
        · exact absurd a1 b2
        · exact absurd a1.1.1 b1.1
        · exact (c44_59 b1.1 a1.1).elim
        · obtain ⟨c1, c2⟩ := pR_u hT f f2 (h + 1) (r + 1) 0 (j + 1) res res2 H W H2 W2 V V2 a2 b2
          refine ⟨c1, fun e0 => ⟨(c2 e0).1, (c2 e0).2.1, fun i j9 hij hi hj9 => ?_⟩⟩
          have hw : W = r + 1 := pR_W hT f (h + 1) (r + 1) 0 (j + 1) H W V (e0 ▸ a2) (by omega)
          by_cases e4 : i = h
          · have e5 : j9 = r := by omega
            rw [e4, e5, gv, kv]
          · exact (c2 e0).2.2 i j9 (by omega) hi hj9
        · exact absurd a1 b3
        · exact absurd b1 a1
        · exact absurd b1 a2
        · exact absurd b1 a3
        · exact ⟨a4.trans b4.symm, fun e0 => absurd (a4.symm.trans e0) (fault_ne0 (by omega))⟩
theorem sk_id {t : Nat → Int32} {T a j : Nat} (h : IsSkip t T a j) : IsSkip t T j j := ⟨Nat.le_refl j, h.2.1, fun u h1 h2 => absurd h2 (by omega), h.2.2.2⟩
