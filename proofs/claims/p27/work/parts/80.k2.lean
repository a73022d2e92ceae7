/-- a set of columns with column 0 as the highest bit -/
def mirN : Nat → Nat → Nat
  | 1, x => x % 2
  | 2, x => 2 * (x % 2) + x / 2 % 2
  | 3, x => 4 * (x % 2) + 2 * (x / 2 % 2) + x / 4 % 2
  | _, x => 8 * (x % 2) + 4 * (x / 2 % 2) + 2 * (x / 4 % 2) + x / 8 % 2
def szN : Nat → Nat → Nat
  | 1, x => x % 2
  | 2, x => x % 2 + x / 2 % 2
  | 3, x => x % 2 + x / 2 % 2 + x / 4 % 2
  | _, x => x % 2 + x / 2 % 2 + x / 4 % 2 + x / 8 % 2
theorem mir_F {M x : Nat} (hM1 : 1 ≤ M) (hM : M ≤ 4) (hx : x < 2 ^ M) : mirF (nI x) M = nI (mirN M x) := by
  have k : ∀ M : Nat, M < 5 → 1 ≤ M → ∀ x : Nat, x < 2 ^ M → mirF (nI x) M = nI (mirN M x) := by decide +kernel
  exact k M (by omega) hM1 x hx
theorem mir_mir {M x : Nat} (hM1 : 1 ≤ M) (hM : M ≤ 4) (hx : x < 2 ^ M) : mirN M (mirN M x) = x ∧ mirN M x < 2 ^ M ∧ (1 ≤ x → 1 ≤ mirN M x) := by
  have k : ∀ M : Nat, M < 5 → 1 ≤ M → ∀ x : Nat, x < 2 ^ M → mirN M (mirN M x) = x ∧ mirN M x < 2 ^ M ∧ (1 ≤ x → 1 ≤ mirN M x) := by decide +kernel
  exact k M (by omega) hM1 x hx
theorem bc_sz {M x : Nat} (hM1 : 1 ≤ M) (hM : M ≤ 4) (hx : x < 2 ^ M) : bcF (nI x) = nI (szN M x) ∧ cntF (nI x) M = nI (szN M x) ∧ szN M x ≤ 4 := by
  have k : ∀ M : Nat, M < 5 → 1 ≤ M → ∀ x : Nat, x < 2 ^ M → bcF (nI x) = nI (szN M x) ∧ cntF (nI x) M = nI (szN M x) ∧ szN M x ≤ 4 := by decide +kernel
  exact k M (by omega) hM1 x hx
theorem bt_at {x c : Nat} (hx : x < 16) (hc : c < 4) : bt1 (nI x) c = nI (x / 2 ^ c % 2) := by
  have k : ∀ x : Nat, x < 16 → ∀ c : Nat, c < 4 → bt1 (nI x) c = nI (x / 2 ^ c % 2) := by decide +kernel
  exact k x hx c hc
theorem bt_eq {x y c : Nat} (hx : x < 16) (hy : y < 16) (hc : c < 4) : bt1 (nI x) c = bt1 (nI y) c ↔ x / 2 ^ c % 2 = y / 2 ^ c % 2 := by
  rw [bt_at hx hc, bt_at hy hc]
  constructor
  · intro e
    exact (nI_eq (by omega) (by omega)).mp e
  · intro e
    rw [e]
theorem bt_1 {x c : Nat} (hx : x < 16) (hc : c < 4) : bt1 (nI x) c = nI 1 ↔ x / 2 ^ c % 2 = 1 := by
  rw [bt_at hx hc]
  constructor
  · intro e
    exact (nI_eq (by omega) (by omega)).mp e
  · intro e
    rw [e]
def ahB (M x y : Nat) : Bool := (List.range M).any fun c => (List.range c).all (fun t => x / 2 ^ t % 2 == y / 2 ^ t % 2) && ((x / 2 ^ c % 2 != y / 2 ^ c % 2) && (x / 2 ^ c % 2 == 1))
theorem ahB_k : ∀ M : Nat, M < 5 → 1 ≤ M → ∀ x : Nat, x < 2 ^ M → ∀ y : Nat, y < 2 ^ M → (ahB M x y = true ↔ mirN M y < mirN M x) := by decide +kernel
theorem ah_iff {M x y : Nat} (hM1 : 1 ≤ M) (hM : M ≤ 4) (hx : x < 2 ^ M) (hy : y < 2 ^ M) : aheadP (nI x) (nI y) M ↔ mirN M y < mirN M x := by
  have hp16 : 2 ^ M ≤ 16 := Nat.pow_le_pow_right (by decide) hM
  have e : aheadP (nI x) (nI y) M ↔ ∃ c : Nat, c < M ∧ (∀ t : Nat, t < c → x / 2 ^ t % 2 = y / 2 ^ t % 2) ∧ ¬ x / 2 ^ c % 2 = y / 2 ^ c % 2 ∧ x / 2 ^ c % 2 = 1 := by
    unfold aheadP
    constructor
    · rintro ⟨c, h1, h2, h3, h4⟩
      exact ⟨c, h1, fun t ht => (bt_eq (by omega) (by omega) (by omega)).mp (h2 t ht), fun q => h3 ((bt_eq (by omega) (by omega) (by omega)).mpr q), (bt_1 (by omega) (by omega)).mp h4⟩
    · rintro ⟨c, h1, h2, h3, h4⟩
      exact ⟨c, h1, fun t ht => (bt_eq (by omega) (by omega) (by omega)).mpr (h2 t ht), fun q => h3 ((bt_eq (by omega) (by omega) (by omega)).mp q), (bt_1 (by omega) (by omega)).mpr h4⟩
  rw [e, ← ahB_k M (by omega) hM1 x hx y hy]
  unfold ahB
  simp only [List.any_eq_true, List.mem_range, Bool.and_eq_true, List.all_eq_true, beq_iff_eq, bne_iff_ne, ne_eq]
/-- the best of some sets -/
def Bst (w : Nat → Int) (M j : Nat) (S : Nat → Prop) (b : Nat) (z : Int) : Prop := (b = 0 ∧ z = -1 ∧ ∀ y : Nat, S y → szN M y = j → False) ∨ (S b ∧ szN M b = j ∧ z = w b ∧ ∀ y : Nat, S y → szN M y = j → w y < w b ∨ (w y = w b ∧ mirN M y ≤ mirN M b))
theorem bst_one {w : Nat → Int} {M j : Nat} {S : Nat → Prop} {b1 b2 : Nat} {z1 z2 : Int} (hM1 : 1 ≤ M) (hM : M ≤ 4) (hS : ∀ y : Nat, S y → y < 2 ^ M) (h1 : Bst w M j S b1 z1) (h2 : Bst w M j S b2 z2) : b1 = b2 := by
  rcases h1 with ⟨a1, a2, a3⟩ | ⟨a1, a2, a3, a4⟩ <;> rcases h2 with ⟨c1, c2, c3⟩ | ⟨c1, c2, c3, c4⟩
  · rw [a1, c1]
  · exact (a3 b2 c1 c2).elim
  · exact (c3 b1 a1 a2).elim
  · have p := a4 b2 c1 c2
    have q := c4 b1 a1 a2
    have e : mirN M b1 = mirN M b2 := by omega
    have m1 := (mir_mir hM1 hM (hS b1 a1)).1
    have m2 := (mir_mir hM1 hM (hS b2 c1)).1
    rw [← m1, ← m2, e]
/-- one set more -/
theorem bst_no {w : Nat → Int} {M j x : Nat} {S S2 : Nat → Prop} {b : Nat} {z : Int} (hS : ∀ y : Nat, S2 y → S y ∨ y = x) (hS2 : ∀ y : Nat, S y → S2 y) (hx : szN M x = j → ¬ (b = 0 ∧ z = -1) ∧ (z = w b → w x < w b ∨ (w x = w b ∧ mirN M x ≤ mirN M b))) (h : Bst w M j S b z) : Bst w M j S2 b z := by
  rcases h with ⟨a1, a2, a3⟩ | ⟨a1, a2, a3, a4⟩
  · refine Or.inl ⟨a1, a2, fun y hy hs => ?_⟩
    rcases hS y hy with q | q
    · exact a3 y q hs
    · rw [q] at hs
      exact (hx hs).1 ⟨a1, a2⟩
  · refine Or.inr ⟨hS2 b a1, a2, a3, fun y hy hs => ?_⟩
    rcases hS y hy with q | q
    · exact a4 y q hs
    · rw [q] at hs ⊢
      exact (hx hs).2 a3
theorem bst_yes {w : Nat → Int} {M j x : Nat} {S S2 : Nat → Prop} {b : Nat} {z : Int} (hS : ∀ y : Nat, S2 y → S y ∨ y = x) (hx2 : S2 x) (hs : szN M x = j) (hx : z = w b → w b < w x ∨ (w x = w b ∧ mirN M b ≤ mirN M x)) (h : Bst w M j S b z) : Bst w M j S2 x (w x) := by
  refine Or.inr ⟨hx2, hs, rfl, fun y hy hs2 => ?_⟩
  rcases hS y hy with q | q
  · rcases h with ⟨a1, a2, a3⟩ | ⟨a1, a2, a3, a4⟩
    · exact (a3 y q hs2).elim
    · have p := a4 y q hs2
      have r := hx a3
      omega
  · rw [q]
    exact Or.inr ⟨rfl, Nat.le_refl _⟩
/-- the class's walk -/
theorem ch_cls {w : Int32 → Int64} {M j : Nat} (hM1 : 1 ≤ M) (hM : M ≤ 4) (hj : j ≤ 4) (hw : ∀ y : Int32, 0 ≤ (w y).toInt) : ∀ n : Nat, n ≤ 2 ^ M - 1 → ∃ b : Nat, b < 2 ^ M ∧ (chCF w M (nI j) (2 ^ M - 1) n).1 = nI b ∧ Bst (fun y => (w (nI y)).toInt) M j (fun y => y < 2 ^ M ∧ 2 ^ M - 1 - n < mirN M y) b (chCF w M (nI j) (2 ^ M - 1) n).2.toInt
  | 0, _ => by
    have hp2 : 1 ≤ 2 ^ M := Nat.one_le_two_pow
    refine ⟨0, by omega, rfl, Or.inl ⟨rfl, (by decide : (-1 : Int64).toInt = -1), fun y hy _ => ?_⟩⟩
    have h9 := (mir_mir hM1 hM hy.1).2.1
    have h8 := hy.2
    omega
  | n + 1, hn => by
    have hp16 : 2 ^ M ≤ 16 := Nat.pow_le_pow_right (by decide) hM
    obtain ⟨b, hb, e1, hB⟩ := ch_cls hM1 hM hj hw n (by omega)
    have hm : 2 ^ M - 1 - n < 2 ^ M := by omega
    obtain ⟨m1, m2, m3⟩ := mir_mir hM1 hM hm
    have m4 := m3 (by omega)
    rw [chCF, mir_F hM1 hM hm]
    generalize hx : mirN M (2 ^ M - 1 - n) = x at m1 m2 m4 ⊢
    generalize chCF w M (nI j) (2 ^ M - 1) n = p at e1 hB ⊢
    obtain ⟨k1, k2, k3⟩ := bc_sz hM1 hM m2
    have hSx : ∀ y : Nat, (y < 2 ^ M ∧ 2 ^ M - 1 - (n + 1) < mirN M y) → (y < 2 ^ M ∧ 2 ^ M - 1 - n < mirN M y) ∨ y = x := fun y hy => by
      rcases (show 2 ^ M - 1 - n < mirN M y ∨ mirN M y = 2 ^ M - 1 - n by omega) with q | q
      · exact Or.inl ⟨hy.1, q⟩
      · have := (mir_mir hM1 hM hy.1).1
        rw [q, hx] at this
        exact Or.inr this.symm
    have hS2 : ∀ y : Nat, (y < 2 ^ M ∧ 2 ^ M - 1 - n < mirN M y) → (y < 2 ^ M ∧ 2 ^ M - 1 - (n + 1) < mirN M y) := fun y hy => ⟨hy.1, by have := hy.2; omega⟩
    unfold chS
    by_cases g : bcF (nI x) = nI j ∧ p.2 < w (nI x)
    · rw [if_pos g]
      refine ⟨x, m2, rfl, ?_⟩
      have g1 : szN M x = j := (nI_eq (by omega) (by omega)).mp (k1.symm.trans g.1)
      have g2 := Int64.lt_iff_toInt_lt.mp g.2
      exact bst_yes (w := fun y => (w (nI y)).toInt) hSx ⟨m2, by omega⟩ g1 (fun hz => Or.inl (by rw [← hz]; exact g2)) hB
    · rw [if_neg g]
      refine ⟨b, hb, e1, ?_⟩
      refine bst_no (w := fun y => (w (nI y)).toInt) hSx hS2 (fun hs => ?_) hB
      have g1 : ¬ p.2 < w (nI x) := fun q => g ⟨by rw [k1, hs], q⟩
      rw [Int64.lt_iff_toInt_lt] at g1
      have g2 := hw (nI x)
      refine ⟨fun q => ?_, fun hz => ?_⟩
      · have q2 := q.2
        omega
      · rcases hB with ⟨a1, a2, a3⟩ | ⟨a1, a2, a3, a4⟩
        · omega
        · have b2 := a1.2
          rw [hz] at g1
          show (w (nI x)).toInt < (w (nI b)).toInt ∨ ((w (nI x)).toInt = (w (nI b)).toInt ∧ mirN M x ≤ mirN M b)
          have g3 : ¬ (w (nI b)).toInt < (w (nI x)).toInt := g1
          omega
/-- the reference's walk -/
theorem ch_ref {co : Nat → Int32} {M j : Nat} (hM1 : 1 ≤ M) (hM : M ≤ 4) (hj : j ≤ 4) (hw : ∀ y : Int32, 0 ≤ (worthF co M y).toInt) : ∀ (n : Nat) (r : Int32) (z : Int64), n ≤ 2 ^ M - 1 → chR co M j n r z → ∃ b : Nat, b < 2 ^ M ∧ r = nI b ∧ Bst (fun y => (worthF co M (nI y)).toInt) M j (fun y => 1 ≤ y ∧ y ≤ n) b z.toInt
  | 0, r, z, _, h => by
    have hp2 : 1 ≤ 2 ^ M := Nat.one_le_two_pow
    obtain ⟨h1, h2⟩ := h
    refine ⟨0, by omega, h1, Or.inl ⟨rfl, by rw [h2]; decide, fun y hy _ => ?_⟩⟩
    have h9 := hy.1
    have h8 := hy.2
    omega
  | n + 1, r, z, hn, h => by
    have hp16 : 2 ^ M ≤ 16 := Nat.pow_le_pow_right (by decide) hM
    obtain ⟨r0, z0, h0, h1⟩ := h
    obtain ⟨b, hb, rfl, hB⟩ := ch_ref hM1 hM hj hw n r0 z0 (by omega) h0
    have m2 : n + 1 < 2 ^ M := by omega
    obtain ⟨k1, k2, k3⟩ := bc_sz hM1 hM m2
    have hah := ah_iff hM1 hM m2 hb
    have hSx : ∀ y : Nat, (1 ≤ y ∧ y ≤ n + 1) → (1 ≤ y ∧ y ≤ n) ∨ y = n + 1 := fun y hy => by
      have h9 := hy.1
      have h8 := hy.2
      omega
    have hS2 : ∀ y : Nat, (1 ≤ y ∧ y ≤ n) → (1 ≤ y ∧ y ≤ n + 1) := fun y hy => ⟨hy.1, by have := hy.2; omega⟩
    rcases h1 with ⟨g, rfl, rfl⟩ | ⟨g, rfl, rfl⟩
    · refine ⟨n + 1, m2, rfl, ?_⟩
      have g1 : szN M (n + 1) = j := (nI_eq (by omega) (by omega)).mp (k2.symm.trans g.1)
      refine bst_yes (w := fun y => (worthF co M (nI y)).toInt) hSx ⟨by omega, Nat.le_refl _⟩ g1 (fun hz => ?_) hB
      have hz2 : z0.toInt = (worthF co M (nI b)).toInt := hz
      show (worthF co M (nI b)).toInt < (worthF co M (nI (n + 1))).toInt ∨ ((worthF co M (nI (n + 1))).toInt = (worthF co M (nI b)).toInt ∧ mirN M b ≤ mirN M (n + 1))
      rcases g.2 with q | ⟨q1, q2⟩
      · rw [Int64.lt_iff_toInt_lt] at q
        exact Or.inl (by omega)
      · rw [hah] at q2
        exact Or.inr ⟨by rw [q1]; exact hz2, by omega⟩
    · refine ⟨b, hb, rfl, ?_⟩
      refine bst_no (w := fun y => (worthF co M (nI y)).toInt) hSx hS2 (fun hs => ?_) hB
      have g1 : ¬ (z < worthF co M (nI (n + 1)) ∨ (worthF co M (nI (n + 1)) = z ∧ aheadP (nI (n + 1)) (nI b) M)) := fun q => g ⟨by rw [k2, hs], q⟩
      have g2 : ¬ z < worthF co M (nI (n + 1)) := fun q => g1 (Or.inl q)
      rw [Int64.lt_iff_toInt_lt] at g2
      have g3 := hw (nI (n + 1))
      refine ⟨fun q => ?_, fun hz => ?_⟩
      · have q2 := q.2
        omega
      · have hz2 : z.toInt = (worthF co M (nI b)).toInt := hz
        show (worthF co M (nI (n + 1))).toInt < (worthF co M (nI b)).toInt ∨ ((worthF co M (nI (n + 1))).toInt = (worthF co M (nI b)).toInt ∧ mirN M (n + 1) ≤ mirN M b)
        by_cases q : (worthF co M (nI (n + 1))).toInt = (worthF co M (nI b)).toInt
        · refine Or.inr ⟨q, ?_⟩
          have q2 : ¬ aheadP (nI (n + 1)) (nI b) M := fun q3 => g1 (Or.inr ⟨Int64.toInt_inj.mp (by rw [q, hz2]), q3⟩)
          rw [hah] at q2
          omega
        · exact Or.inl (by omega)
theorem bst_S {w : Nat → Int} {M j : Nat} {S S2 : Nat → Prop} {b : Nat} {z : Int} (h : ∀ y : Nat, S y ↔ S2 y) (hB : Bst w M j S b z) : Bst w M j S2 b z := by
  rcases hB with ⟨a1, a2, a3⟩ | ⟨a1, a2, a3, a4⟩
  · exact Or.inl ⟨a1, a2, fun y hy => a3 y ((h y).mpr hy)⟩
  · exact Or.inr ⟨(h b).mp a1, a2, a3, fun y hy => a4 y ((h y).mpr hy)⟩
theorem eq_chosen {x r1 r2 : Int32} {R M : Nat} {A rA : Nat → Nat → Int32} {rQ : Nat → Nat → Int64} {G : Nat → Nat → Nat → Int32} {f17 f18 : Nat → Int32} {q19 : Nat → Int64} (hR1 : 1 ≤ R) (hR : R ≤ 5) (hM1 : 1 ≤ M) (hM : M ≤ 4) (ht : RelT R M (A 136) (G 0) (rA 3)) (hb : tb9 (rA 3) R M) (hf1 : (∃ i : Nat, 1 ≤ i ∧ i ≤ M ∧ x = nI i ∧ r1 = (chCF (wC (G 0) R M) M x (2 ^ M - 1) (2 ^ M - 1)).1) ∨ (r1 = -1 ∧ ∀ i : Nat, 1 ≤ i → i ≤ M → x ≠ nI i)) (hf2 : (∃ i : Nat, 1 ≤ i ∧ i ≤ M ∧ x = nI i ∧ laid (rA 3) R M f17 f18 ∧ ∃ w : Int64, chR f17 M i (2 ^ M - 1) r2 w) ∨ (r2 = -1 ∧ (∀ i : Nat, 1 ≤ i → i ≤ M → x ≠ nI i) ∧ f17 = rA 17 ∧ f18 = rA 18 ∧ q19 = rQ 19)) : r1 = r2 := by
  have hp2 : 1 ≤ 2 ^ M := Nat.one_le_two_pow
  have hp16 : 2 ^ M ≤ 16 := Nat.pow_le_pow_right (by decide) hM
  rcases hf1 with ⟨i, a1, a2, ex, e1⟩ | ⟨e1, hn⟩ <;> rcases hf2 with ⟨i2, b1, b2, fx, hl, z, k1⟩ | ⟨k1, hm, -⟩
  · have ei : i = i2 := (nI_eq (by omega) (by omega)).mp (ex.symm.trans fx)
    subst ei
    have ew : wC (G 0) R M = worthF f17 M := funext fun y => worth_same hR1 hR hM1 hM ht hl hb
    rw [ew, ex] at e1
    have hw : ∀ y : Int32, 0 ≤ (worthF f17 M y).toInt := fun y => worth_nn hM1 hM hl hb
    obtain ⟨c1, hc1, ec1, B1⟩ := ch_cls (j := i) hM1 hM (by omega) hw (2 ^ M - 1) (Nat.le_refl _)
    obtain ⟨c2, hc2, ec2, B2⟩ := ch_ref hM1 hM (by omega) hw (2 ^ M - 1) r2 z (Nat.le_refl _) k1
    have B3 := bst_S (S2 := fun y => 1 ≤ y ∧ y ≤ 2 ^ M - 1) (fun y => by
      constructor
      · intro hy
        have h9 := hy.1
        have h8 := hy.2
        refine ⟨?_, by omega⟩
        rcases Nat.eq_zero_or_pos y with q | q
        · rw [q] at h8
          have m0 : mirN M 0 = 0 := by
            rcases (show M = 1 ∨ M = 2 ∨ M = 3 ∨ M = 4 by omega) with rfl | rfl | rfl | rfl <;> rfl
          omega
        · exact q
      · intro hy
        have h9 := hy.1
        have h8 := hy.2
        have h7 := (mir_mir hM1 hM (show y < 2 ^ M by omega)).2.2 h9
        exact ⟨by omega, by omega⟩) B1
    rw [e1, ec1, ec2, bst_one hM1 hM (fun y hy => by have := hy.2; omega) B3 B2]
  · exact (hm i a1 a2 ex).elim
  · exact (hn i2 b1 b2 fx).elim
  · rw [e1, k1]
