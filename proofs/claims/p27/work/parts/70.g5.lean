/-! ===== LED ===== -/
theorem z_sub9 (x : Int32) : 0 - x = -x := by
  first | exact Int32.zero_sub x | simp
def qF (C : Nat → Nat → Int32) (R i j : Nat) : Int32 := if 0 < prodF C j j R then nwF (prodF C i j R) (prodF C j j R) else nI 0
def shC (C : Nat → Nat → Int32) (q : Int32) (i j : Nat) : Nat → Nat → Int32 := fun r c => if c = i then C r i - q * C r j else C r c
def Fst (R M : Nat) (C : Nat → Nat → Int32) (i j : Nat) : Prop := i < M ∧ j < M ∧ ¬ i = j ∧ ¬ qF C R i j = nI 0 ∧ ∀ a b : Nat, a < M → b < M → ¬ a = b → (a < i ∨ (a = i ∧ b < j)) → qF C R a b = nI 0
def NoSt (R M : Nat) (C : Nat → Nat → Int32) : Prop := ∀ a b : Nat, a < M → b < M → ¬ a = b → qF C R a b = nI 0
def Ln (R M : Nat) (C0 : Nat → Nat → Int32) : Nat → (Nat → Nat → Int32) → (Nat → Nat → Int32) → Prop
  | 0, C, T => (∀ r c : Nat, r < R → c < M → C r c = C0 r c) ∧ ∀ k c : Nat, k < M → c < M → T k c = if k = c then nI 1 else nI 0
  | n + 1, C, T => ∃ (Cp Tp : Nat → Nat → Int32) (i j : Nat), Ln R M C0 n Cp Tp ∧ Fst R M Cp i j ∧ (∀ r c : Nat, r < R → c < M → C r c = shC Cp (qF Cp R i j) i j r c) ∧ ∀ k c : Nat, k < M → c < M → T k c = shC Tp (qF Cp R i j) i j k c
theorem prod_c {R M i j : Nat} {C D : Nat → Nat → Int32} (h : ∀ r c : Nat, r < R → c < M → C r c = D r c) (hi : i < M) (hj : j < M) : ∀ n : Nat, n ≤ R → prodF C i j n = prodF D i j n
  | 0, _ => rfl
  | n + 1, hn => by rw [prodF, prodF, prod_c h hi hj n (by omega), h n i (by omega) hi, h n j (by omega) hj]
theorem qF_c {R M i j : Nat} {C D : Nat → Nat → Int32} (h : ∀ r c : Nat, r < R → c < M → C r c = D r c) (hi : i < M) (hj : j < M) : qF C R i j = qF D R i j := by
  unfold qF
  rw [prod_c h hi hj R (Nat.le_refl R), prod_c h hj hj R (Nat.le_refl R)]
theorem fst_u {R M i j a b : Nat} {C D : Nat → Nat → Int32} (h : ∀ r c : Nat, r < R → c < M → C r c = D r c) (f : Fst R M C i j) (g : Fst R M D a b) : i = a ∧ j = b := by
  obtain ⟨f1, f2, f3, f4, f5⟩ := f
  obtain ⟨g1, g2, g3, g4, g5⟩ := g
  by_cases e : a < i ∨ (a = i ∧ b < j)
  · exact absurd ((qF_c h g1 g2).symm.trans (f5 a b g1 g2 g3 e)) g4
  · by_cases e2 : i < a ∨ (i = a ∧ j < b)
    · exact absurd ((qF_c h f1 f2).trans (g5 i j f1 f2 f3 e2)) f4
    · omega
theorem no_fst {R M i j : Nat} {C D : Nat → Nat → Int32} (h : ∀ r c : Nat, r < R → c < M → C r c = D r c) (f : Fst R M C i j) (g : NoSt R M D) : False :=
  f.2.2.2.1 ((qF_c h f.1 f.2.1).trans (g i j f.1 f.2.1 f.2.2.1))
theorem ln_u {R M : Nat} {C0 D0 : Nat → Nat → Int32} (h0 : ∀ r c : Nat, r < R → c < M → C0 r c = D0 r c) : ∀ (n : Nat) (C T D U : Nat → Nat → Int32), Ln R M C0 n C T → Ln R M D0 n D U → (∀ r c : Nat, r < R → c < M → C r c = D r c) ∧ ∀ k c : Nat, k < M → c < M → T k c = U k c
  | 0, C, T, D, U, f, g => ⟨fun r c hr hc => by rw [f.1 r c hr hc, g.1 r c hr hc, h0 r c hr hc], fun k c hk hc => by rw [f.2 k c hk hc, g.2 k c hk hc]⟩
  | n + 1, C, T, D, U, f, g => by
    obtain ⟨Cp, Tp, i, j, f1, f2, f3, f4⟩ := f
    obtain ⟨Dp, Up, a, b, g1, g2, g3, g4⟩ := g
    obtain ⟨e1, e2⟩ := ln_u h0 n Cp Tp Dp Up f1 g1
    obtain ⟨rfl, rfl⟩ := fst_u e1 f2 g2
    have eq := qF_c e1 f2.1 f2.2.1
    refine ⟨fun r c hr hc => ?_, fun k c hk hc => ?_⟩
    · rw [f3 r c hr hc, g3 r c hr hc, eq]
      unfold shC
      rw [e1 r i hr f2.1, e1 r j hr f2.2.1, e1 r c hr hc]
    · rw [f4 k c hk hc, g4 k c hk hc, eq]
      unfold shC
      rw [e2 k i hk f2.1, e2 k j hk f2.2.1, e2 k c hk hc]
/-- a run that has ended is as long as any other that has -/
theorem ln_le {R M : Nat} {C0 D0 : Nat → Nat → Int32} (h0 : ∀ r c : Nat, r < R → c < M → C0 r c = D0 r c) {n : Nat} {C T : Nat → Nat → Int32} (f : Ln R M C0 n C T) (e : NoSt R M C) : ∀ (m : Nat) (D U : Nat → Nat → Int32), Ln R M D0 m D U → m ≤ n
  | 0, _, _, _ => Nat.zero_le n
  | m + 1, D, U, g => by
    obtain ⟨Dp, Up, a, b, g1, g2, g3, g4⟩ := g
    have ih := ln_le h0 f e m Dp Up g1
    rcases Nat.lt_or_ge m n with q | q
    · exact q
    · have em : m = n := by omega
      subst em
      obtain ⟨e1, -⟩ := ln_u h0 m C T Dp Up f g1
      exact (no_fst (fun r c hr hc => (e1 r c hr hc).symm) g2 e).elim
theorem sh_s {g C : Nat → Nat → Int32} {x : Int32} {i j n : Nat} (h1 : ∀ r c : Nat, r < n → g r c = shC C x i j r c) (h2 : ∀ r : Nat, n ≤ r → g r = C r) : (∀ r c : Nat, r < n + 1 → va_up g n (upd (g n) i (g n i - x * g n j)) r c = shC C x i j r c) ∧ ∀ r : Nat, n + 1 ≤ r → va_up g n (upd (g n) i (g n i - x * g n j)) r = C r := by
  refine ⟨fun r c hr => ?_, fun r hr => ?_⟩
  · by_cases e : r = n
    · subst e
      simp only [va_up, if_true]
      rw [h2 r (Nat.le_refl r)]
      unfold shC
      by_cases e2 : c = i
      · rw [e2, pk_us, if_pos rfl]
      · rw [pk_un e2, if_neg e2]
    · simp only [va_up, if_neg e]
      exact h1 r c (by omega)
  · have e : r ≠ n := by omega
    simp only [va_up, if_neg e]
    exact h2 r (by omega)

theorem bg_s {g : Nat → Nat → Int32} {n k : Nat} {v : Int32} (hv : v = if n = k then nI 1 else nI 0) (h : ∀ a b : Nat, b < 4 → (a < n ∨ (a = n ∧ b < k)) → g a b = if a = b then nI 1 else nI 0) : ∀ a b : Nat, b < 4 → (a < n ∨ (a = n ∧ b < k + 1)) → va_up g n (upd (g n) k v) a b = if a = b then nI 1 else nI 0 := fun a b hb hab => by
  by_cases e : a = n ∧ b = k
  · obtain ⟨rfl, rfl⟩ := e
    simp only [va_up, if_true]
    rw [pk_us, hv]
  · have q : va_up g n (upd (g n) k v) a b = g a b := by
      by_cases e2 : a = n
      · subst e2
        simp only [va_up, if_true]
        exact pk_un (by omega)
      · simp only [va_up, if_neg e2]
    rw [q]
    exact h a b hb (by omega)
set_option maxRecDepth 20000 in
theorem ggX1_quotient_X9_product : GoodIn wsX1_quotient wsX9_product := goodIn_r _ [10] rfl (by decide +kernel)
set_option maxRecDepth 20000 in
theorem gX1_quotient_X9_product_n67 : GoodIn wsX1_quotient (wsX9_product) := ggX1_quotient_X9_product
theorem bdX1_quotient_0 : (decode cX1_quotient 0 = .ok (.aload_n 0, 1)) ∧ (decode cX1_quotient 1 = .ok (.getfield 11, 3)) ∧ (decode cX1_quotient 4 = .ok (.aload_n 0, 1)) ∧ (decode cX1_quotient 5 = .ok (.getfield 27, 3)) ∧ (decode cX1_quotient 8 = .ok (.getfield 64, 3)) ∧ (decode cX1_quotient 11 = .ok (.iload_n 2, 1)) ∧ (decode cX1_quotient 12 = .ok (.iload_n 2, 1)) ∧ (decode cX1_quotient 13 = .ok (.invokestatic 67, 3)) ∧ (decode cX1_quotient 16 = .ok (.istore_n 3, 1)) ∧ (decode cX1_quotient 17 = .ok (.iload_n 3, 1)) ∧ (decode cX1_quotient 18 = .ok (.ifCond .gt 5, 3)) ∧ (decode cX1_quotient 21 = .ok (.iconst 0, 1)) ∧ (decode cX1_quotient 22 = .ok (.ireturn, 1)) ∧ (decode cX1_quotient 23 = .ok (.aload_n 0, 1)) ∧ (decode cX1_quotient 24 = .ok (.getfield 11, 3)) ∧ (decode cX1_quotient 27 = .ok (.aload_n 0, 1)) := by decide +kernel
theorem dX1_quotient_0 : decode cX1_quotient 0 = .ok (.aload_n 0, 1) := bdX1_quotient_0.1
theorem dX1_quotient_1 : decode cX1_quotient 1 = .ok (.getfield 11, 3) := bdX1_quotient_0.2.1
theorem dX1_quotient_4 : decode cX1_quotient 4 = .ok (.aload_n 0, 1) := bdX1_quotient_0.2.2.1
theorem dX1_quotient_5 : decode cX1_quotient 5 = .ok (.getfield 27, 3) := bdX1_quotient_0.2.2.2.1
theorem dX1_quotient_8 : decode cX1_quotient 8 = .ok (.getfield 64, 3) := bdX1_quotient_0.2.2.2.2.1
theorem dX1_quotient_11 : decode cX1_quotient 11 = .ok (.iload_n 2, 1) := bdX1_quotient_0.2.2.2.2.2.1
theorem dX1_quotient_12 : decode cX1_quotient 12 = .ok (.iload_n 2, 1) := bdX1_quotient_0.2.2.2.2.2.2.1
theorem dX1_quotient_13 : decode cX1_quotient 13 = .ok (.invokestatic 67, 3) := bdX1_quotient_0.2.2.2.2.2.2.2.1
theorem dX1_quotient_16 : decode cX1_quotient 16 = .ok (.istore_n 3, 1) := bdX1_quotient_0.2.2.2.2.2.2.2.2.1
theorem dX1_quotient_17 : decode cX1_quotient 17 = .ok (.iload_n 3, 1) := bdX1_quotient_0.2.2.2.2.2.2.2.2.2.1
theorem dX1_quotient_18 : decode cX1_quotient 18 = .ok (.ifCond .gt 5, 3) := bdX1_quotient_0.2.2.2.2.2.2.2.2.2.2.1
theorem dX1_quotient_21 : decode cX1_quotient 21 = .ok (.iconst 0, 1) := bdX1_quotient_0.2.2.2.2.2.2.2.2.2.2.2.1
theorem dX1_quotient_22 : decode cX1_quotient 22 = .ok (.ireturn, 1) := bdX1_quotient_0.2.2.2.2.2.2.2.2.2.2.2.2.1
theorem dX1_quotient_23 : decode cX1_quotient 23 = .ok (.aload_n 0, 1) := bdX1_quotient_0.2.2.2.2.2.2.2.2.2.2.2.2.2.1
theorem dX1_quotient_24 : decode cX1_quotient 24 = .ok (.getfield 11, 3) := bdX1_quotient_0.2.2.2.2.2.2.2.2.2.2.2.2.2.2.1
theorem dX1_quotient_27 : decode cX1_quotient 27 = .ok (.aload_n 0, 1) := bdX1_quotient_0.2.2.2.2.2.2.2.2.2.2.2.2.2.2.2
theorem bdX1_quotient_28 : (decode cX1_quotient 28 = .ok (.getfield 27, 3)) ∧ (decode cX1_quotient 31 = .ok (.getfield 64, 3)) ∧ (decode cX1_quotient 34 = .ok (.iload_n 1, 1)) ∧ (decode cX1_quotient 35 = .ok (.iload_n 2, 1)) ∧ (decode cX1_quotient 36 = .ok (.invokestatic 67, 3)) ∧ (decode cX1_quotient 39 = .ok (.istore 4, 2)) ∧ (decode cX1_quotient 41 = .ok (.iconst 2, 1)) ∧ (decode cX1_quotient 42 = .ok (.iload 4, 2)) ∧ (decode cX1_quotient 44 = .ok (.invokestatic 71, 3)) ∧ (decode cX1_quotient 47 = .ok (.imul, 1)) ∧ (decode cX1_quotient 48 = .ok (.iload_n 3, 1)) ∧ (decode cX1_quotient 49 = .ok (.iadd, 1)) ∧ (decode cX1_quotient 50 = .ok (.iconst 1, 1)) ∧ (decode cX1_quotient 51 = .ok (.isub, 1)) ∧ (decode cX1_quotient 52 = .ok (.iconst 2, 1)) ∧ (decode cX1_quotient 53 = .ok (.iload_n 3, 1)) := by decide +kernel
theorem dX1_quotient_28 : decode cX1_quotient 28 = .ok (.getfield 27, 3) := bdX1_quotient_28.1
theorem dX1_quotient_31 : decode cX1_quotient 31 = .ok (.getfield 64, 3) := bdX1_quotient_28.2.1
theorem dX1_quotient_34 : decode cX1_quotient 34 = .ok (.iload_n 1, 1) := bdX1_quotient_28.2.2.1
theorem dX1_quotient_35 : decode cX1_quotient 35 = .ok (.iload_n 2, 1) := bdX1_quotient_28.2.2.2.1
theorem dX1_quotient_36 : decode cX1_quotient 36 = .ok (.invokestatic 67, 3) := bdX1_quotient_28.2.2.2.2.1
theorem dX1_quotient_39 : decode cX1_quotient 39 = .ok (.istore 4, 2) := bdX1_quotient_28.2.2.2.2.2.1
theorem dX1_quotient_41 : decode cX1_quotient 41 = .ok (.iconst 2, 1) := bdX1_quotient_28.2.2.2.2.2.2.1
theorem dX1_quotient_42 : decode cX1_quotient 42 = .ok (.iload 4, 2) := bdX1_quotient_28.2.2.2.2.2.2.2.1
theorem dX1_quotient_44 : decode cX1_quotient 44 = .ok (.invokestatic 71, 3) := bdX1_quotient_28.2.2.2.2.2.2.2.2.1
theorem dX1_quotient_47 : decode cX1_quotient 47 = .ok (.imul, 1) := bdX1_quotient_28.2.2.2.2.2.2.2.2.2.1
theorem dX1_quotient_48 : decode cX1_quotient 48 = .ok (.iload_n 3, 1) := bdX1_quotient_28.2.2.2.2.2.2.2.2.2.2.1
theorem dX1_quotient_49 : decode cX1_quotient 49 = .ok (.iadd, 1) := bdX1_quotient_28.2.2.2.2.2.2.2.2.2.2.2.1
theorem dX1_quotient_50 : decode cX1_quotient 50 = .ok (.iconst 1, 1) := bdX1_quotient_28.2.2.2.2.2.2.2.2.2.2.2.2.1
theorem dX1_quotient_51 : decode cX1_quotient 51 = .ok (.isub, 1) := bdX1_quotient_28.2.2.2.2.2.2.2.2.2.2.2.2.2.1
theorem dX1_quotient_52 : decode cX1_quotient 52 = .ok (.iconst 2, 1) := bdX1_quotient_28.2.2.2.2.2.2.2.2.2.2.2.2.2.2.1
theorem dX1_quotient_53 : decode cX1_quotient 53 = .ok (.iload_n 3, 1) := bdX1_quotient_28.2.2.2.2.2.2.2.2.2.2.2.2.2.2.2
theorem bdX1_quotient_54 : (decode cX1_quotient 54 = .ok (.imul, 1)) ∧ (decode cX1_quotient 55 = .ok (.idiv, 1)) ∧ (decode cX1_quotient 56 = .ok (.istore 5, 2)) ∧ (decode cX1_quotient 58 = .ok (.iload 4, 2)) ∧ (decode cX1_quotient 60 = .ok (.ifCond .ge 9, 3)) ∧ (decode cX1_quotient 63 = .ok (.iload 5, 2)) ∧ (decode cX1_quotient 65 = .ok (.ineg, 1)) ∧ (decode cX1_quotient 66 = .ok (.goto 5, 3)) ∧ (decode cX1_quotient 69 = .ok (.iload 5, 2)) ∧ (decode cX1_quotient 71 = .ok (.ireturn, 1)) := by decide +kernel
theorem dX1_quotient_54 : decode cX1_quotient 54 = .ok (.imul, 1) := bdX1_quotient_54.1
theorem dX1_quotient_55 : decode cX1_quotient 55 = .ok (.idiv, 1) := bdX1_quotient_54.2.1
theorem dX1_quotient_56 : decode cX1_quotient 56 = .ok (.istore 5, 2) := bdX1_quotient_54.2.2.1
theorem dX1_quotient_58 : decode cX1_quotient 58 = .ok (.iload 4, 2) := bdX1_quotient_54.2.2.2.1
theorem dX1_quotient_60 : decode cX1_quotient 60 = .ok (.ifCond .ge 9, 3) := bdX1_quotient_54.2.2.2.2.1
theorem dX1_quotient_63 : decode cX1_quotient 63 = .ok (.iload 5, 2) := bdX1_quotient_54.2.2.2.2.2.1
theorem dX1_quotient_65 : decode cX1_quotient 65 = .ok (.ineg, 1) := bdX1_quotient_54.2.2.2.2.2.2.1
theorem dX1_quotient_66 : decode cX1_quotient 66 = .ok (.goto 5, 3) := bdX1_quotient_54.2.2.2.2.2.2.2.1
theorem dX1_quotient_69 : decode cX1_quotient 69 = .ok (.iload 5, 2) := bdX1_quotient_54.2.2.2.2.2.2.2.2.1
theorem dX1_quotient_71 : decode cX1_quotient 71 = .ok (.ireturn, 1) := bdX1_quotient_54.2.2.2.2.2.2.2.2.2
set_option maxHeartbeats 4000000 in
set_option maxRecDepth 100000 in
theorem k_X1_quotient (l : Launch) (dC : Nat → ClassId) (dI : Nat → Nat → Nat) (h : Nat → Nat) (cs : Nat → ClassId) (sz : Nat) (I : Nat → Int32) (L : Nat → Int64) (A : Nat → Nat → Int32) (Q : Nat → Nat → Int64) (G : Nat → Nat → Nat → Int32) (J : Nat → Nat → Nat → Int64) (i j R M : Nat) (hi4 : i < 4) (hj4 : j < 4) (hR : I 120 = nI R) (hR1 : 1 ≤ R) (hR5 : R ≤ 5) (hM : I 121 = nI M) (hM1 : 1 ≤ M) (hM4 : M ≤ 4) : Met l yX1_quotient wsX1_quotient ({ frames := 1, cells := 0, slots := 0, locals := 60 }) (va_Pc [.ref (h 108), .int (nI i), .int (nI j)] (xPre (dC, dI) (wLead h cs I L A Q G J) (tysA cs) sz)) (va_Qi (fun (r : Int32) (u : CS) => (r = qF (G 2) R i j) ∧ u = (I, L, A, Q, G, J)) (xB (dC, dI) (tysA cs) (va_A (wLead h cs I L A Q G J) sz) (fun u : CS => wLead h cs u.1 u.2.1 u.2.2.1 u.2.2.2.1 u.2.2.2.2.1 u.2.2.2.2.2)) (va_A (wLead h cs I L A Q G J) sz)) 0 0 (va_A (wLead h cs I L A Q G J) sz) := by
  refine Met.ofW (cc := cX1_quotient) (maxL := 6) (ret := (some .int)) (by decide) rfl ?_
  intro p e s m args below meth c s₁ B hml hv
  obtain ⟨rfl, hsz, hP, hK, hD0, hN⟩ := hv
  have hx := B.exec
  have hb := B.bytes
  have hr := B.returns
  have hts := atoms_spec (ws := wsX1_quotient) B.pre
  have hown : s.vm.findClass RX1 = some m.cls := findClass_of_methodNamed B.named
  have hlocks := B.notSynchronized
  subst hsz
  have hD := hD0.self (sz := s.heap.size)
  generalize hAe : va_A (wLead h cs I L A Q G J) s.heap.size = A0 at hD ⊢
  have hA : ∀ q : Nat, s.heap.size ≤ q → A0 q := fun q h => by rw [← hAe]; exact Or.inr h
  have hl := lv_entry ([.ref (h 108), .int (nI i), .int (nI j)]) (n := 6) (Nat.le_of_ble_eq_true rfl)
  rw [lg_entry_eq]
  generalize (lg_sl ([.ref (h 108), .int (nI i), .int (nI j)]) ++ List.replicate (6 - (lg_sl ([.ref (h 108), .int (nI i), .int (nI j)])).length) Slot.unset).toArray = ls at hl ⊢
  have hl : lv_has ls 6 [(0, .ref (h 108)), (1, .int (nI i)), (2, .int (nI j))] := hl
  generalize hH : s.heap = H at hP ⊢
  have hS : va_S A0 s.heap H [] := by rw [← hH]; exact va_S.rf
  have hinX1 : ∀ w ∈ wsX10, w ∈ wsX1_quotient := by decide +kernel
  have hinX3 : ∀ w ∈ wsX30, w ∈ wsX1_quotient := by decide +kernel
  refine lv_aload_n hx hb dX1_quotient_0 rfl (lv_at hl 0 rfl) ?_
  refine va_get (D := (dC, dI)) (ci := 1) (v := .ref (h 200)) (C := RX1) (T := TX1) (N := 6) hx hb hts hinX1 hown hK hP 0 rfl rfl 1 (by decide) (hts (.fieldLink RX1 11 "MixedWords$Leader" "columns" "[[I") (by decide +kernel)) (fun _ h9 => h9) rfl dX1_quotient_1 ?_
  refine lv_aload_n hx hb dX1_quotient_4 rfl (lv_at hl 0 rfl) ?_
  refine va_get (D := (dC, dI)) (ci := 1) (v := .ref (h 101)) (C := RX1) (T := TX1) (N := 6) hx hb hts hinX1 hown hK hP 0 rfl rfl 0 (by decide) (hts (.fieldLink RX1 27 "MixedWords$Leader" "mix" "LMixedWords$Mix;") (by decide +kernel)) (fun _ h9 => h9) rfl dX1_quotient_5 ?_
  refine va_get (D := (dC, dI)) (ci := 3) (v := .int (I 120)) (C := RX3) (T := TX3) (N := 6) hx hb hts hinX3 hown hK hP 13 rfl rfl 0 (by decide) (hts (.fieldLink RX1 64 "MixedWords$Mix" "height" "I") (by decide +kernel)) (fun _ h9 => h9) rfl dX1_quotient_8 ?_
  refine xt_i (y := nI R) (hR) ?_
  refine lv_iload_n hx hb dX1_quotient_11 rfl (lv_at hl 2 rfl) ?_
  refine lv_iload_n hx hb dX1_quotient_12 rfl (lv_at hl 2 rfl) ?_
  refine xj_i (wc := (wGrid (fun k => h (k + 199)) cs I L A Q (fun _ => G 2) J)) (wr := [(h 108, .inr (1, [.ref (h 101), .ref (h 200), .ref (h 206), .ref (h 211), .int (I 212), .int (I 213)])), (h 206, .inl (cs 3, 4, .inr (.inr (.inr (.inr (fun i => if i < 4 then some (h (i + 207)) else none)))))), (h 207, .inl (cs 0, 4, .inl ((G 3) 0))), (h 208, .inl (cs 0, 4, .inl ((G 3) 1))), (h 209, .inl (cs 0, 4, .inl ((G 3) 2))), (h 210, .inl (cs 0, 4, .inl ((G 3) 3))), (h 211, .inl (cs 0, 5, .inl (A 211))), (h 101, .inr (3, [.int (I 120), .int (I 121), .int (I 122), .int (I 123), .ref (h 130), .ref (h 136)])), (h 130, .inl (cs 3, 5, .inr (.inr (.inr (.inr (fun i => if i < 5 then some (h (i + 131)) else none)))))), (h 131, .inl (cs 0, 4, .inl ((G 0) 0))), (h 132, .inl (cs 0, 4, .inl ((G 0) 1))), (h 133, .inl (cs 0, 4, .inl ((G 0) 2))), (h 134, .inl (cs 0, 4, .inl ((G 0) 3))), (h 135, .inl (cs 0, 4, .inl ((G 0) 4))), (h 136, .inl (cs 0, 5, .inl (A 136)))]) hP hD hS hA [1, 2, 3, 4, 5, 6] [0, 7, 8, 9, 10, 11, 12, 13, 14, 15, 16, 17, 18, 19, 20] rfl rfl (by decide +kernel) (by decide +kernel) (va_runSN (As := [.ref (h 200), .int (nI R), .int (nI j), .int (nI j)]) (rest := []) ⟨hx, hb, hml, hown, hts⟩ (k_X9_product l dC dI (fun k => h (k + 199)) cs H.size I L A Q (fun _ => G 2) J R j j (by first | assumption | omega) (by first | assumption | omega | exact hi4) (by first | assumption | omega | exact hj4)) ⟨va_cnB (host := "MixedWords") 4 hts gX1_quotient_X9_product_n67 rfl rfl rfl hN.2.2.2.2.1 (hts (.initialized RX9) (by decide +kernel)) (by decide +kernel) ⟨Nat.le_of_ble_eq_true rfl, Nat.le_of_ble_eq_true rfl⟩, hts (.static yX9_product) (by decide +kernel), trivial⟩ (xpS (wc := (wGrid (fun k => h (k + 199)) cs I L A Q (fun _ => G 2) J)) hP hD hK hN [1, 2, 3, 4, 5, 6] rfl (by decide) _) rfl rfl hl.1 rfl (lv_room (Nat.le_of_ble_eq_true rfl)) dX1_quotient_13 ⟨Nat.zero_le _, Nat.zero_le _⟩) (fun r_2 u_1 H locs hw hP hD hS => ?_)
  obtain ⟨hf_3, rfl⟩ := hw
  have hP : va_P (dC, dI) vwCl (wLead h cs I L A Q G J) H := xP_sub hP [0, 15, 16, 17, 18, 19, 20, 1, 2, 3, 4, 5, 6, 7, 8, 9, 10, 11, 12, 13, 14] rfl
  have hD : va_D A0 (wLead h cs I L A Q G J) := hD.sub [0, 15, 16, 17, 18, 19, 20, 1, 2, 3, 4, 5, 6, 7, 8, 9, 10, 11, 12, 13, 14] (by decide +kernel) rfl
  obtain rfl := hf_3
  refine lv_istore_n (lv' := [(3, .int (prodF (G 2) j j R)), (0, .ref (h 108)), (1, .int (nI i)), (2, .int (nI j))]) hx hb dX1_quotient_16 rfl hl (by decide) rfl (fun ls hl => ?_)
  refine lv_iload_n hx hb dX1_quotient_17 rfl (lv_at hl 0 rfl) ?_
  refine lv_if_gt (tgt := 23) hx hb dX1_quotient_18 (by decide) (fun c_18_3 => ?_) (fun c_18_3 => ?_)
  · skip
    refine lv_aload_n hx hb dX1_quotient_23 rfl (lv_at hl 1 rfl) ?_
    refine va_get (D := (dC, dI)) (ci := 1) (v := .ref (h 200)) (C := RX1) (T := TX1) (N := 6) hx hb hts hinX1 hown hK hP 0 rfl rfl 1 (by decide) (hts (.fieldLink RX1 11 "MixedWords$Leader" "columns" "[[I") (by decide +kernel)) (fun _ h9 => h9) rfl dX1_quotient_24 ?_
    refine lv_aload_n hx hb dX1_quotient_27 rfl (lv_at hl 1 rfl) ?_
    refine va_get (D := (dC, dI)) (ci := 1) (v := .ref (h 101)) (C := RX1) (T := TX1) (N := 6) hx hb hts hinX1 hown hK hP 0 rfl rfl 0 (by decide) (hts (.fieldLink RX1 27 "MixedWords$Leader" "mix" "LMixedWords$Mix;") (by decide +kernel)) (fun _ h9 => h9) rfl dX1_quotient_28 ?_
    refine va_get (D := (dC, dI)) (ci := 3) (v := .int (I 120)) (C := RX3) (T := TX3) (N := 6) hx hb hts hinX3 hown hK hP 13 rfl rfl 0 (by decide) (hts (.fieldLink RX1 64 "MixedWords$Mix" "height" "I") (by decide +kernel)) (fun _ h9 => h9) rfl dX1_quotient_31 ?_
    refine xt_i (y := nI R) (hR) ?_
    refine lv_iload_n hx hb dX1_quotient_34 rfl (lv_at hl 2 rfl) ?_
    refine lv_iload_n hx hb dX1_quotient_35 rfl (lv_at hl 3 rfl) ?_
    refine xj_i (wc := (wGrid (fun k => h (k + 199)) cs I L A Q (fun _ => G 2) J)) (wr := [(h 108, .inr (1, [.ref (h 101), .ref (h 200), .ref (h 206), .ref (h 211), .int (I 212), .int (I 213)])), (h 206, .inl (cs 3, 4, .inr (.inr (.inr (.inr (fun i => if i < 4 then some (h (i + 207)) else none)))))), (h 207, .inl (cs 0, 4, .inl ((G 3) 0))), (h 208, .inl (cs 0, 4, .inl ((G 3) 1))), (h 209, .inl (cs 0, 4, .inl ((G 3) 2))), (h 210, .inl (cs 0, 4, .inl ((G 3) 3))), (h 211, .inl (cs 0, 5, .inl (A 211))), (h 101, .inr (3, [.int (I 120), .int (I 121), .int (I 122), .int (I 123), .ref (h 130), .ref (h 136)])), (h 130, .inl (cs 3, 5, .inr (.inr (.inr (.inr (fun i => if i < 5 then some (h (i + 131)) else none)))))), (h 131, .inl (cs 0, 4, .inl ((G 0) 0))), (h 132, .inl (cs 0, 4, .inl ((G 0) 1))), (h 133, .inl (cs 0, 4, .inl ((G 0) 2))), (h 134, .inl (cs 0, 4, .inl ((G 0) 3))), (h 135, .inl (cs 0, 4, .inl ((G 0) 4))), (h 136, .inl (cs 0, 5, .inl (A 136)))]) hP hD hS hA [1, 2, 3, 4, 5, 6] [0, 7, 8, 9, 10, 11, 12, 13, 14, 15, 16, 17, 18, 19, 20] rfl rfl (by decide +kernel) (by decide +kernel) (va_runSN (As := [.ref (h 200), .int (nI R), .int (nI i), .int (nI j)]) (rest := []) ⟨hx, hb, hml, hown, hts⟩ (k_X9_product l dC dI (fun k => h (k + 199)) cs H.size I L A Q (fun _ => G 2) J R i j (by first | assumption | omega) (by first | assumption | omega | exact hi4) (by first | assumption | omega | exact hj4)) ⟨va_cnB (host := "MixedWords") 4 hts gX1_quotient_X9_product_n67 rfl rfl rfl hN.2.2.2.2.1 (hts (.initialized RX9) (by decide +kernel)) (by decide +kernel) ⟨Nat.le_of_ble_eq_true rfl, Nat.le_of_ble_eq_true rfl⟩, hts (.static yX9_product) (by decide +kernel), trivial⟩ (xpS (wc := (wGrid (fun k => h (k + 199)) cs I L A Q (fun _ => G 2) J)) hP hD hK hN [1, 2, 3, 4, 5, 6] rfl (by decide) _) rfl rfl hl.1 rfl (lv_room (Nat.le_of_ble_eq_true rfl)) dX1_quotient_36 ⟨Nat.zero_le _, Nat.zero_le _⟩) (fun r_6 u_5 H locs hw hP hD hS => ?_)
    obtain ⟨hf_7, rfl⟩ := hw
    have hP : va_P (dC, dI) vwCl (wLead h cs I L A Q G J) H := xP_sub hP [0, 15, 16, 17, 18, 19, 20, 1, 2, 3, 4, 5, 6, 7, 8, 9, 10, 11, 12, 13, 14] rfl
    have hD : va_D A0 (wLead h cs I L A Q G J) := hD.sub [0, 15, 16, 17, 18, 19, 20, 1, 2, 3, 4, 5, 6, 7, 8, 9, 10, 11, 12, 13, 14] (by decide +kernel) rfl
    obtain rfl := hf_7
    refine lv_istore (lv' := [(4, .int (prodF (G 2) i j R)), (3, .int (prodF (G 2) j j R)), (0, .ref (h 108)), (1, .int (nI i)), (2, .int (nI j))]) hx hb dX1_quotient_39 hl (by decide) rfl (fun ls hl => ?_)
    refine lv_iconst (v := nI 2) hx hb dX1_quotient_41 (by decide) ?_
    refine lv_iload hx hb dX1_quotient_42 (lv_at hl 0 rfl) ?_
    refine va_mabs hx hb (hml.trans hl.1.symm) hown (hts (.methodLink RX1 71 Lib.Math.abs.name) (by decide +kernel)) (hts (.static Lib.Math.abs.name) (by decide +kernel)) (hts (.initialized "java/lang/Math") (by decide +kernel)) (hts (.code Lib.Math.abs.name Lib.Math.abs.code 1 (some .int)) (by decide +kernel)) (Nat.le_of_ble_eq_true rfl) (Nat.le_of_ble_eq_true rfl) (Nat.zero_le _) (Nat.zero_le _) dX1_quotient_44 ?_
    refine lv_imul hx hb dX1_quotient_47 ?_
    refine lv_iload_n hx hb dX1_quotient_48 rfl (lv_at hl 1 rfl) ?_
    refine lv_iadd hx hb dX1_quotient_49 ?_
    refine lv_iconst (v := nI 1) hx hb dX1_quotient_50 (by decide) ?_
    refine lv_isub hx hb dX1_quotient_51 ?_
    refine lv_iconst (v := nI 2) hx hb dX1_quotient_52 (by decide) ?_
    refine lv_iload_n hx hb dX1_quotient_53 rfl (lv_at hl 1 rfl) ?_
    refine lv_imul hx hb dX1_quotient_54 ?_
    refine lv_idiv hx hb dX1_quotient_55 (two_ne0 (by assumption)) ?_
    refine lv_istore (lv' := [(5, .int (((((nI 2) * (if 0 ≤ (prodF (G 2) i j R) then (prodF (G 2) i j R) else 0 - (prodF (G 2) i j R))) + (prodF (G 2) j j R)) - (nI 1)) / ((nI 2) * (prodF (G 2) j j R)))), (4, .int (prodF (G 2) i j R)), (3, .int (prodF (G 2) j j R)), (0, .ref (h 108)), (1, .int (nI i)), (2, .int (nI j))]) hx hb dX1_quotient_56 hl (by decide) rfl (fun ls hl => ?_)
    refine lv_iload hx hb dX1_quotient_58 (lv_at hl 1 rfl) ?_
    refine lv_if_ge (tgt := 69) hx hb dX1_quotient_60 (by decide) (fun c_60_7 => ?_) (fun c_60_7 => ?_)
    · skip
      refine lv_iload hx hb dX1_quotient_69 (lv_at hl 0 rfl) ?_
      exact xr_i (v := (((((nI 2) * (if 0 ≤ (prodF (G 2) i j R) then (prodF (G 2) i j R) else 0 - (prodF (G 2) i j R))) + (prodF (G 2) j j R)) - (nI 1)) / ((nI 2) * (prodF (G 2) j j R)))) hx hb hr hlocks hK hS dX1_quotient_71 (I, L, A, Q, G, J) ⟨(by first | (rw [qF, if_neg (show ¬ 0 < prodF (G 2) j j R by assumption)]) | (rw [qF, if_pos (show 0 < prodF (G 2) j j R by assumption)]; unfold nwF; first | (have q9 : 0 ≤ prodF (G 2) i j R := (by assumption); rw [if_pos q9, if_pos q9]) | (have q9 : ¬ 0 ≤ prodF (G 2) i j R := (by assumption); rw [if_neg q9, if_neg q9, z_sub9]))), rfl⟩ hP hD
    · skip
      refine lv_iload hx hb dX1_quotient_63 (lv_at hl 0 rfl) ?_
      refine lv_ineg hx hb dX1_quotient_65 ?_
      refine lv_goto (tgt := 71) hx hb dX1_quotient_66 (by decide) ?_
      exact xr_i (v := (-(((((nI 2) * (if 0 ≤ (prodF (G 2) i j R) then (prodF (G 2) i j R) else 0 - (prodF (G 2) i j R))) + (prodF (G 2) j j R)) - (nI 1)) / ((nI 2) * (prodF (G 2) j j R))))) hx hb hr hlocks hK hS dX1_quotient_71 (I, L, A, Q, G, J) ⟨(by first | (rw [qF, if_neg (show ¬ 0 < prodF (G 2) j j R by assumption)]) | (rw [qF, if_pos (show 0 < prodF (G 2) j j R by assumption)]; unfold nwF; first | (have q9 : 0 ≤ prodF (G 2) i j R := (by assumption); rw [if_pos q9, if_pos q9]) | (have q9 : ¬ 0 ≤ prodF (G 2) i j R := (by assumption); rw [if_neg q9, if_neg q9, z_sub9]))), rfl⟩ hP hD
  · skip
    refine lv_iconst (v := nI 0) hx hb dX1_quotient_21 (by decide) ?_
    exact xr_i (v := (nI 0)) hx hb hr hlocks hK hS dX1_quotient_22 (I, L, A, Q, G, J) ⟨(by first | (rw [qF, if_neg (show ¬ 0 < prodF (G 2) j j R by assumption)]) | (rw [qF, if_pos (show 0 < prodF (G 2) j j R by assumption)]; unfold nwF; first | (have q9 : 0 ≤ prodF (G 2) i j R := (by assumption); rw [if_pos q9, if_pos q9]) | (have q9 : ¬ 0 ≤ prodF (G 2) i j R := (by assumption); rw [if_neg q9, if_neg q9, z_sub9]))), rfl⟩ hP hD
theorem bdX1_shorten_0 : (decode cX1_shorten 0 = .ok (.iconst 0, 1)) ∧ (decode cX1_shorten 1 = .ok (.istore 4, 2)) ∧ (decode cX1_shorten 3 = .ok (.iload 4, 2)) ∧ (decode cX1_shorten 5 = .ok (.aload_n 0, 1)) ∧ (decode cX1_shorten 6 = .ok (.getfield 27, 3)) ∧ (decode cX1_shorten 9 = .ok (.getfield 64, 3)) ∧ (decode cX1_shorten 12 = .ok (.if_icmp .ge 32, 3)) ∧ (decode cX1_shorten 15 = .ok (.aload_n 0, 1)) ∧ (decode cX1_shorten 16 = .ok (.getfield 11, 3)) ∧ (decode cX1_shorten 19 = .ok (.iload 4, 2)) ∧ (decode cX1_shorten 21 = .ok (.aaload, 1)) ∧ (decode cX1_shorten 22 = .ok (.iload_n 1, 1)) ∧ (decode cX1_shorten 23 = .ok (.dup2, 1)) ∧ (decode cX1_shorten 24 = .ok (.iaload, 1)) ∧ (decode cX1_shorten 25 = .ok (.iload_n 3, 1)) ∧ (decode cX1_shorten 26 = .ok (.aload_n 0, 1)) := by decide +kernel
theorem dX1_shorten_0 : decode cX1_shorten 0 = .ok (.iconst 0, 1) := bdX1_shorten_0.1
theorem dX1_shorten_1 : decode cX1_shorten 1 = .ok (.istore 4, 2) := bdX1_shorten_0.2.1
theorem dX1_shorten_3 : decode cX1_shorten 3 = .ok (.iload 4, 2) := bdX1_shorten_0.2.2.1
theorem dX1_shorten_5 : decode cX1_shorten 5 = .ok (.aload_n 0, 1) := bdX1_shorten_0.2.2.2.1
theorem dX1_shorten_6 : decode cX1_shorten 6 = .ok (.getfield 27, 3) := bdX1_shorten_0.2.2.2.2.1
theorem dX1_shorten_9 : decode cX1_shorten 9 = .ok (.getfield 64, 3) := bdX1_shorten_0.2.2.2.2.2.1
theorem dX1_shorten_12 : decode cX1_shorten 12 = .ok (.if_icmp .ge 32, 3) := bdX1_shorten_0.2.2.2.2.2.2.1
theorem dX1_shorten_15 : decode cX1_shorten 15 = .ok (.aload_n 0, 1) := bdX1_shorten_0.2.2.2.2.2.2.2.1
theorem dX1_shorten_16 : decode cX1_shorten 16 = .ok (.getfield 11, 3) := bdX1_shorten_0.2.2.2.2.2.2.2.2.1
theorem dX1_shorten_19 : decode cX1_shorten 19 = .ok (.iload 4, 2) := bdX1_shorten_0.2.2.2.2.2.2.2.2.2.1
theorem dX1_shorten_21 : decode cX1_shorten 21 = .ok (.aaload, 1) := bdX1_shorten_0.2.2.2.2.2.2.2.2.2.2.1
theorem dX1_shorten_22 : decode cX1_shorten 22 = .ok (.iload_n 1, 1) := bdX1_shorten_0.2.2.2.2.2.2.2.2.2.2.2.1
theorem dX1_shorten_23 : decode cX1_shorten 23 = .ok (.dup2, 1) := bdX1_shorten_0.2.2.2.2.2.2.2.2.2.2.2.2.1
theorem dX1_shorten_24 : decode cX1_shorten 24 = .ok (.iaload, 1) := bdX1_shorten_0.2.2.2.2.2.2.2.2.2.2.2.2.2.1
theorem dX1_shorten_25 : decode cX1_shorten 25 = .ok (.iload_n 3, 1) := bdX1_shorten_0.2.2.2.2.2.2.2.2.2.2.2.2.2.2.1
theorem dX1_shorten_26 : decode cX1_shorten 26 = .ok (.aload_n 0, 1) := bdX1_shorten_0.2.2.2.2.2.2.2.2.2.2.2.2.2.2.2
theorem bdX1_shorten_27 : (decode cX1_shorten 27 = .ok (.getfield 11, 3)) ∧ (decode cX1_shorten 30 = .ok (.iload 4, 2)) ∧ (decode cX1_shorten 32 = .ok (.aaload, 1)) ∧ (decode cX1_shorten 33 = .ok (.iload_n 2, 1)) ∧ (decode cX1_shorten 34 = .ok (.iaload, 1)) ∧ (decode cX1_shorten 35 = .ok (.imul, 1)) ∧ (decode cX1_shorten 36 = .ok (.isub, 1)) ∧ (decode cX1_shorten 37 = .ok (.iastore, 1)) ∧ (decode cX1_shorten 38 = .ok (.iinc 4 1, 3)) ∧ (decode cX1_shorten 41 = .ok (.goto (-38), 3)) ∧ (decode cX1_shorten 44 = .ok (.iconst 0, 1)) ∧ (decode cX1_shorten 45 = .ok (.istore 4, 2)) ∧ (decode cX1_shorten 47 = .ok (.iload 4, 2)) ∧ (decode cX1_shorten 49 = .ok (.aload_n 0, 1)) ∧ (decode cX1_shorten 50 = .ok (.getfield 27, 3)) ∧ (decode cX1_shorten 53 = .ok (.getfield 53, 3)) := by decide +kernel
theorem dX1_shorten_27 : decode cX1_shorten 27 = .ok (.getfield 11, 3) := bdX1_shorten_27.1
theorem dX1_shorten_30 : decode cX1_shorten 30 = .ok (.iload 4, 2) := bdX1_shorten_27.2.1
theorem dX1_shorten_32 : decode cX1_shorten 32 = .ok (.aaload, 1) := bdX1_shorten_27.2.2.1
theorem dX1_shorten_33 : decode cX1_shorten 33 = .ok (.iload_n 2, 1) := bdX1_shorten_27.2.2.2.1
theorem dX1_shorten_34 : decode cX1_shorten 34 = .ok (.iaload, 1) := bdX1_shorten_27.2.2.2.2.1
theorem dX1_shorten_35 : decode cX1_shorten 35 = .ok (.imul, 1) := bdX1_shorten_27.2.2.2.2.2.1
theorem dX1_shorten_36 : decode cX1_shorten 36 = .ok (.isub, 1) := bdX1_shorten_27.2.2.2.2.2.2.1
theorem dX1_shorten_37 : decode cX1_shorten 37 = .ok (.iastore, 1) := bdX1_shorten_27.2.2.2.2.2.2.2.1
theorem dX1_shorten_38 : decode cX1_shorten 38 = .ok (.iinc 4 1, 3) := bdX1_shorten_27.2.2.2.2.2.2.2.2.1
theorem dX1_shorten_41 : decode cX1_shorten 41 = .ok (.goto (-38), 3) := bdX1_shorten_27.2.2.2.2.2.2.2.2.2.1
theorem dX1_shorten_44 : decode cX1_shorten 44 = .ok (.iconst 0, 1) := bdX1_shorten_27.2.2.2.2.2.2.2.2.2.2.1
theorem dX1_shorten_45 : decode cX1_shorten 45 = .ok (.istore 4, 2) := bdX1_shorten_27.2.2.2.2.2.2.2.2.2.2.2.1
theorem dX1_shorten_47 : decode cX1_shorten 47 = .ok (.iload 4, 2) := bdX1_shorten_27.2.2.2.2.2.2.2.2.2.2.2.2.1
theorem dX1_shorten_49 : decode cX1_shorten 49 = .ok (.aload_n 0, 1) := bdX1_shorten_27.2.2.2.2.2.2.2.2.2.2.2.2.2.1
theorem dX1_shorten_50 : decode cX1_shorten 50 = .ok (.getfield 27, 3) := bdX1_shorten_27.2.2.2.2.2.2.2.2.2.2.2.2.2.2.1
theorem dX1_shorten_53 : decode cX1_shorten 53 = .ok (.getfield 53, 3) := bdX1_shorten_27.2.2.2.2.2.2.2.2.2.2.2.2.2.2.2
theorem bdX1_shorten_56 : (decode cX1_shorten 56 = .ok (.if_icmp .ge 32, 3)) ∧ (decode cX1_shorten 59 = .ok (.aload_n 0, 1)) ∧ (decode cX1_shorten 60 = .ok (.getfield 16, 3)) ∧ (decode cX1_shorten 63 = .ok (.iload 4, 2)) ∧ (decode cX1_shorten 65 = .ok (.aaload, 1)) ∧ (decode cX1_shorten 66 = .ok (.iload_n 1, 1)) ∧ (decode cX1_shorten 67 = .ok (.dup2, 1)) ∧ (decode cX1_shorten 68 = .ok (.iaload, 1)) ∧ (decode cX1_shorten 69 = .ok (.iload_n 3, 1)) ∧ (decode cX1_shorten 70 = .ok (.aload_n 0, 1)) ∧ (decode cX1_shorten 71 = .ok (.getfield 16, 3)) ∧ (decode cX1_shorten 74 = .ok (.iload 4, 2)) ∧ (decode cX1_shorten 76 = .ok (.aaload, 1)) ∧ (decode cX1_shorten 77 = .ok (.iload_n 2, 1)) ∧ (decode cX1_shorten 78 = .ok (.iaload, 1)) ∧ (decode cX1_shorten 79 = .ok (.imul, 1)) := by decide +kernel
theorem dX1_shorten_56 : decode cX1_shorten 56 = .ok (.if_icmp .ge 32, 3) := bdX1_shorten_56.1
theorem dX1_shorten_59 : decode cX1_shorten 59 = .ok (.aload_n 0, 1) := bdX1_shorten_56.2.1
theorem dX1_shorten_60 : decode cX1_shorten 60 = .ok (.getfield 16, 3) := bdX1_shorten_56.2.2.1
theorem dX1_shorten_63 : decode cX1_shorten 63 = .ok (.iload 4, 2) := bdX1_shorten_56.2.2.2.1
theorem dX1_shorten_65 : decode cX1_shorten 65 = .ok (.aaload, 1) := bdX1_shorten_56.2.2.2.2.1
theorem dX1_shorten_66 : decode cX1_shorten 66 = .ok (.iload_n 1, 1) := bdX1_shorten_56.2.2.2.2.2.1
theorem dX1_shorten_67 : decode cX1_shorten 67 = .ok (.dup2, 1) := bdX1_shorten_56.2.2.2.2.2.2.1
theorem dX1_shorten_68 : decode cX1_shorten 68 = .ok (.iaload, 1) := bdX1_shorten_56.2.2.2.2.2.2.2.1
theorem dX1_shorten_69 : decode cX1_shorten 69 = .ok (.iload_n 3, 1) := bdX1_shorten_56.2.2.2.2.2.2.2.2.1
theorem dX1_shorten_70 : decode cX1_shorten 70 = .ok (.aload_n 0, 1) := bdX1_shorten_56.2.2.2.2.2.2.2.2.2.1
theorem dX1_shorten_71 : decode cX1_shorten 71 = .ok (.getfield 16, 3) := bdX1_shorten_56.2.2.2.2.2.2.2.2.2.2.1
theorem dX1_shorten_74 : decode cX1_shorten 74 = .ok (.iload 4, 2) := bdX1_shorten_56.2.2.2.2.2.2.2.2.2.2.2.1
theorem dX1_shorten_76 : decode cX1_shorten 76 = .ok (.aaload, 1) := bdX1_shorten_56.2.2.2.2.2.2.2.2.2.2.2.2.1
theorem dX1_shorten_77 : decode cX1_shorten 77 = .ok (.iload_n 2, 1) := bdX1_shorten_56.2.2.2.2.2.2.2.2.2.2.2.2.2.1
theorem dX1_shorten_78 : decode cX1_shorten 78 = .ok (.iaload, 1) := bdX1_shorten_56.2.2.2.2.2.2.2.2.2.2.2.2.2.2.1
theorem dX1_shorten_79 : decode cX1_shorten 79 = .ok (.imul, 1) := bdX1_shorten_56.2.2.2.2.2.2.2.2.2.2.2.2.2.2.2
theorem bdX1_shorten_80 : (decode cX1_shorten 80 = .ok (.isub, 1)) ∧ (decode cX1_shorten 81 = .ok (.iastore, 1)) ∧ (decode cX1_shorten 82 = .ok (.iinc 4 1, 3)) ∧ (decode cX1_shorten 85 = .ok (.goto (-38), 3)) ∧ (decode cX1_shorten 88 = .ok (.return_, 1)) := by decide +kernel
theorem dX1_shorten_80 : decode cX1_shorten 80 = .ok (.isub, 1) := bdX1_shorten_80.1
theorem dX1_shorten_81 : decode cX1_shorten 81 = .ok (.iastore, 1) := bdX1_shorten_80.2.1
theorem dX1_shorten_82 : decode cX1_shorten 82 = .ok (.iinc 4 1, 3) := bdX1_shorten_80.2.2.1
theorem dX1_shorten_85 : decode cX1_shorten 85 = .ok (.goto (-38), 3) := bdX1_shorten_80.2.2.2.1
theorem dX1_shorten_88 : decode cX1_shorten 88 = .ok (.return_, 1) := bdX1_shorten_80.2.2.2.2
set_option maxHeartbeats 4000000 in
set_option maxRecDepth 100000 in
theorem k_X1_shorten (l : Launch) (dC : Nat → ClassId) (dI : Nat → Nat → Nat) (h : Nat → Nat) (cs : Nat → ClassId) (sz : Nat) (I : Nat → Int32) (L : Nat → Int64) (A : Nat → Nat → Int32) (Q : Nat → Nat → Int64) (G : Nat → Nat → Nat → Int32) (J : Nat → Nat → Nat → Int64) (i j : Nat) (x : Int32) (R M : Nat) (hi4 : i < 4) (hj4 : j < 4) (hR : I 120 = nI R) (hR1 : 1 ≤ R) (hR5 : R ≤ 5) (hM : I 121 = nI M) (hM1 : 1 ≤ M) (hM4 : M ≤ 4) : Met l yX1_shorten wsX1_shorten ({ frames := 0, cells := 0, slots := 0, locals := 0 }) (va_Pc [.ref (h 108), .int (nI i), .int (nI j), .int x] (xPre (dC, dI) (wLead h cs I L A Q G J) (tysA cs) sz)) (va_Qv (fun (u : CS) => ∃ g2 : Nat → Nat → Int32, ∃ g3 : Nat → Nat → Int32, ((∀ r c : Nat, r < R → g2 r c = shC (G 2) x i j r c) ∧ ∀ k c : Nat, k < M → g3 k c = shC (G 3) x i j k c) ∧ u = (I, L, A, Q, (va_up (va_up G 2 g2) 3 g3), J)) (xB (dC, dI) (tysA cs) (va_A (wLead h cs I L A Q G J) sz) (fun u : CS => wLead h cs u.1 u.2.1 u.2.2.1 u.2.2.2.1 u.2.2.2.2.1 u.2.2.2.2.2)) (va_A (wLead h cs I L A Q G J) sz)) 0 0 (va_A (wLead h cs I L A Q G J) sz) := by
  refine Met.ofW (cc := cX1_shorten) (maxL := 5) (ret := none) (by decide) rfl ?_
  intro p e s m args below meth c s₁ B hml hv
  obtain ⟨rfl, hsz, hP, hK, hD0, hN⟩ := hv
  have hx := B.exec
  have hb := B.bytes
  have hr := B.returns
  have hts := atoms_spec (ws := wsX1_shorten) B.pre
  have hown : s.vm.findClass RX1 = some m.cls := findClass_of_methodNamed B.named
  have hlocks := B.notSynchronized
  subst hsz
  have hD := hD0.self (sz := s.heap.size)
  generalize hAe : va_A (wLead h cs I L A Q G J) s.heap.size = A0 at hD ⊢
  have hA : ∀ q : Nat, s.heap.size ≤ q → A0 q := fun q h => by rw [← hAe]; exact Or.inr h
  have hl := lv_entry ([.ref (h 108), .int (nI i), .int (nI j), .int x]) (n := 5) (Nat.le_of_ble_eq_true rfl)
  rw [lg_entry_eq]
  generalize (lg_sl ([.ref (h 108), .int (nI i), .int (nI j), .int x]) ++ List.replicate (5 - (lg_sl ([.ref (h 108), .int (nI i), .int (nI j), .int x])).length) Slot.unset).toArray = ls at hl ⊢
  have hl : lv_has ls 5 [(0, .ref (h 108)), (1, .int (nI i)), (2, .int (nI j)), (3, .int x)] := hl
  generalize hH : s.heap = H at hP ⊢
  have hS : va_S A0 s.heap H [] := by rw [← hH]; exact va_S.rf
  have hinX1 : ∀ w ∈ wsX10, w ∈ wsX1_shorten := by decide +kernel
  have hinX3 : ∀ w ∈ wsX30, w ∈ wsX1_shorten := by decide +kernel
  refine lv_iconst (v := nI 0) hx hb dX1_shorten_0 (by decide) ?_
  refine lv_istore (lv' := [(4, .int (nI 0)), (0, .ref (h 108)), (1, .int (nI i)), (2, .int (nI j)), (3, .int x)]) hx hb dX1_shorten_1 hl (by decide) rfl (fun ls hl => ?_)
  have cut_3 : ∀ (nf : Nat) (n : Nat) (g2 : Nat → Nat → Int32), (R - n) < nf → (n ≤ R) → (∀ r c : Nat, r < n → g2 r c = shC (G 2) x i j r c) → (∀ r : Nat, n ≤ r → g2 r = G 2 r) → ∀ (H : Heap) (locs : List Loc) (ls : Array Slot), va_P (dC, dI) vwCl (wLead h cs I L A Q (va_up G 2 g2) J) H → va_D A0 (wLead h cs I L A Q (va_up G 2 g2) J) → va_S A0 s.heap H locs → lv_has ls 5 [(0, .ref (h 108)), (1, .int (nI i)), (2, .int (nI j)), (3, .int x), (4, .int (nI n))] → W p l e (headSpec wsX1_shorten ({ frames := 0, cells := 0, slots := 0, locals := 0 })).room s m ([.ref (h 108), .int (nI i), .int (nI j), .int x] : List Value).toArray below meth c H locs 0 0 (MQ below (va_Qv (fun (u : CS) => ∃ g2 : Nat → Nat → Int32, ∃ g3 : Nat → Nat → Int32, ((∀ r c : Nat, r < R → g2 r c = shC (G 2) x i j r c) ∧ ∀ k c : Nat, k < M → g3 k c = shC (G 3) x i j k c) ∧ u = (I, L, A, Q, (va_up (va_up G 2 g2) 3 g3), J)) (xB (dC, dI) (tysA cs) A0 (fun u : CS => wLead h cs u.1 u.2.1 u.2.2.1 u.2.2.2.1 u.2.2.2.2.1 u.2.2.2.2.2)) A0) ([.ref (h 108), .int (nI i), .int (nI j), .int x] : List Value).toArray s 0 0 A0) (F0 m 3 ls []) := by
    intro nf
    induction nf with
    | zero => intro n g2 hm; exact absurd hm (Nat.not_lt_zero _)
    | succ nf ih_3 =>
      intro n g2 hm_3 hn3 ha3 hb3 H locs ls hP hD hS hl
      refine lv_iload hx hb dX1_shorten_3 (lv_at hl 4 rfl) ?_
      refine lv_aload_n hx hb dX1_shorten_5 rfl (lv_at hl 0 rfl) ?_
      refine va_get (D := (dC, dI)) (ci := 1) (v := .ref (h 101)) (C := RX1) (T := TX1) (N := 6) hx hb hts hinX1 hown hK hP 0 rfl rfl 0 (by decide) (hts (.fieldLink RX1 27 "MixedWords$Leader" "mix" "LMixedWords$Mix;") (by decide +kernel)) (fun _ h9 => h9) rfl dX1_shorten_6 ?_
      refine va_get (D := (dC, dI)) (ci := 3) (v := .int (I 120)) (C := RX3) (T := TX3) (N := 6) hx hb hts hinX3 hown hK hP 13 rfl rfl 0 (by decide) (hts (.fieldLink RX1 64 "MixedWords$Mix" "height" "I") (by decide +kernel)) (fun _ h9 => h9) rfl dX1_shorten_9 ?_
      refine xt_i (y := nI R) (hR) ?_
      refine xn_ge (tgt := 44) hx hb dX1_shorten_12 (by decide) (by omega) (by omega) (fun c_12_0 => ?_) (fun c_12_0 => ?_)
      · skip
        refine lv_iconst (v := nI 0) hx hb dX1_shorten_44 (by decide) ?_
        refine lv_istore (lv' := [(4, .int (nI 0)), (0, .ref (h 108)), (1, .int (nI i)), (2, .int (nI j)), (3, .int x)]) hx hb dX1_shorten_45 hl (by decide) rfl (fun ls hl => ?_)
        have cut_47 : ∀ (nf : Nat) (k : Nat) (g3 : Nat → Nat → Int32), (M - k) < nf → (k ≤ M) → (∀ r c : Nat, r < k → g3 r c = shC (G 3) x i j r c) → (∀ r : Nat, k ≤ r → g3 r = G 3 r) → ∀ (H : Heap) (locs : List Loc) (ls : Array Slot), va_P (dC, dI) vwCl (wLead h cs I L A Q (va_up (va_up G 2 g2) 3 g3) J) H → va_D A0 (wLead h cs I L A Q (va_up (va_up G 2 g2) 3 g3) J) → va_S A0 s.heap H locs → lv_has ls 5 [(0, .ref (h 108)), (1, .int (nI i)), (2, .int (nI j)), (3, .int x), (4, .int (nI k))] → W p l e (headSpec wsX1_shorten ({ frames := 0, cells := 0, slots := 0, locals := 0 })).room s m ([.ref (h 108), .int (nI i), .int (nI j), .int x] : List Value).toArray below meth c H locs 0 0 (MQ below (va_Qv (fun (u : CS) => ∃ g2 : Nat → Nat → Int32, ∃ g3 : Nat → Nat → Int32, ((∀ r c : Nat, r < R → g2 r c = shC (G 2) x i j r c) ∧ ∀ k c : Nat, k < M → g3 k c = shC (G 3) x i j k c) ∧ u = (I, L, A, Q, (va_up (va_up G 2 g2) 3 g3), J)) (xB (dC, dI) (tysA cs) A0 (fun u : CS => wLead h cs u.1 u.2.1 u.2.2.1 u.2.2.2.1 u.2.2.2.2.1 u.2.2.2.2.2)) A0) ([.ref (h 108), .int (nI i), .int (nI j), .int x] : List Value).toArray s 0 0 A0) (F0 m 47 ls []) := by
          intro nf
          induction nf with
          | zero => intro k g3 hm; exact absurd hm (Nat.not_lt_zero _)
          | succ nf ih_47 =>
            intro k g3 hm_47 hk47 ha47 hb47 H locs ls hP hD hS hl
            refine lv_iload hx hb dX1_shorten_47 (lv_at hl 4 rfl) ?_
            refine lv_aload_n hx hb dX1_shorten_49 rfl (lv_at hl 0 rfl) ?_
            refine va_get (D := (dC, dI)) (ci := 1) (v := .ref (h 101)) (C := RX1) (T := TX1) (N := 6) hx hb hts hinX1 hown hK hP 0 rfl rfl 0 (by decide) (hts (.fieldLink RX1 27 "MixedWords$Leader" "mix" "LMixedWords$Mix;") (by decide +kernel)) (fun _ h9 => h9) rfl dX1_shorten_50 ?_
            refine va_get (D := (dC, dI)) (ci := 3) (v := .int (I 121)) (C := RX3) (T := TX3) (N := 6) hx hb hts hinX3 hown hK hP 13 rfl rfl 1 (by decide) (hts (.fieldLink RX1 53 "MixedWords$Mix" "width" "I") (by decide +kernel)) (fun _ h9 => h9) rfl dX1_shorten_53 ?_
            refine xt_i (y := nI M) (hM) ?_
            refine xn_ge (tgt := 88) hx hb dX1_shorten_56 (by decide) (by omega) (by omega) (fun c_56_1 => ?_) (fun c_56_1 => ?_)
            · skip
              exact xr_v hx hb hr hlocks hK hS dX1_shorten_88 (I, L, A, Q, (va_up (va_up G 2 g2) 3 g3), J) ⟨g2, g3, ⟨fun r c hr => ha3 r c (by omega), fun k9 c hk9 => ha47 k9 c (by omega)⟩, rfl⟩ hP hD
            · skip
              refine lv_aload_n hx hb dX1_shorten_59 rfl (lv_at hl 0 rfl) ?_
              refine va_get (D := (dC, dI)) (ci := 1) (v := .ref (h 206)) (C := RX1) (T := TX1) (N := 6) hx hb hts hinX1 hown hK hP 0 rfl rfl 2 (by decide) (hts (.fieldLink RX1 16 "MixedWords$Leader" "steps" "[[I") (by decide +kernel)) (fun _ h9 => h9) rfl dX1_shorten_60 ?_
              refine lv_iload hx hb dX1_shorten_63 (lv_at hl 4 rfl) ?_
              refine xa_aald (b := h (k + 207)) hx hb hK hP 7 3 rfl rfl rfl (by omega) (by decide) (if_pos (by omega)) dX1_shorten_65 ?_
              refine lv_iload_n hx hb dX1_shorten_66 rfl (lv_at hl 1 rfl) ?_
              refine lv_dup2_11 hx hb dX1_shorten_67 rfl rfl ?_
              refine xa_iald hx hb hK hP (8 + k) 0 (wLead_atG3 (by omega)) rfl (by omega) (by decide) dX1_shorten_68 ?_
              refine lv_iload_n hx hb dX1_shorten_69 rfl (lv_at hl 3 rfl) ?_
              refine lv_aload_n hx hb dX1_shorten_70 rfl (lv_at hl 0 rfl) ?_
              refine va_get (D := (dC, dI)) (ci := 1) (v := .ref (h 206)) (C := RX1) (T := TX1) (N := 6) hx hb hts hinX1 hown hK hP 0 rfl rfl 2 (by decide) (hts (.fieldLink RX1 16 "MixedWords$Leader" "steps" "[[I") (by decide +kernel)) (fun _ h9 => h9) rfl dX1_shorten_71 ?_
              refine lv_iload hx hb dX1_shorten_74 (lv_at hl 4 rfl) ?_
              refine xa_aald (b := h (k + 207)) hx hb hK hP 7 3 rfl rfl rfl (by omega) (by decide) (if_pos (by omega)) dX1_shorten_76 ?_
              refine lv_iload_n hx hb dX1_shorten_77 rfl (lv_at hl 2 rfl) ?_
              refine xa_iald hx hb hK hP (8 + k) 0 (wLead_atG3 (by omega)) rfl (by omega) (by decide) dX1_shorten_78 ?_
              refine lv_imul hx hb dX1_shorten_79 ?_
              refine lv_isub hx hb dX1_shorten_80 ?_
              refine xa_iast hx hb hK hP hD hS (8 + k) 0 (wLead_atG3 (by omega)) rfl (by omega) (by decide) dX1_shorten_81 (fun H locs hP hD hS => ?_)
              rw [wLead_setG3 (by omega)] at hP hD
              have hP : va_P (dC, dI) vwCl (wLead h cs I L A Q (va_up (va_up G 2 g2) 3 (va_up g3 k (upd (g3 k) i (((g3 k) i) - (x * ((g3 k) j)))))) J) H := hP
              have hD : va_D A0 (wLead h cs I L A Q (va_up (va_up G 2 g2) 3 (va_up g3 k (upd (g3 k) i (((g3 k) i) - (x * ((g3 k) j)))))) J) := hD
              refine lv_iinc (v := nI (k + 1)) (lv' := [(4, .int (nI (k + 1))), (0, .ref (h 108)), (1, .int (nI i)), (2, .int (nI j)), (3, .int x)]) hx hb dX1_shorten_82 hl (k := 4) rfl (nI_1 _) (by decide) rfl (fun ls hl => ?_)
              refine lv_goto (tgt := 47) hx hb dX1_shorten_85 (by decide) ?_
              exact ih_47 (k + 1) (va_up g3 k (upd (g3 k) i (((g3 k) i) - (x * ((g3 k) j))))) (by omega) (by first | assumption | omega) (by first | exact (fun r c hr => absurd hr (Nat.not_lt_zero r)) | exact (sh_s ha47 hb47).1) (by first | exact (fun _ _ => rfl) | exact (sh_s ha47 hb47).2) _ _ _ hP hD hS (lv_sub hl [1, 2, 3, 4, 0] rfl)
        exact cut_47 _ 0 (G 3) (Nat.lt_succ_self _) (by first | assumption | omega) (by first | exact (fun r c hr => absurd hr (Nat.not_lt_zero r)) | exact (sh_s ha47 hb47).1) (by first | exact (fun _ _ => rfl) | exact (sh_s ha47 hb47).2) _ _ _ hP hD hS (lv_sub hl [1, 2, 3, 4, 0] rfl)
      · skip
        refine lv_aload_n hx hb dX1_shorten_15 rfl (lv_at hl 0 rfl) ?_
        refine va_get (D := (dC, dI)) (ci := 1) (v := .ref (h 200)) (C := RX1) (T := TX1) (N := 6) hx hb hts hinX1 hown hK hP 0 rfl rfl 1 (by decide) (hts (.fieldLink RX1 11 "MixedWords$Leader" "columns" "[[I") (by decide +kernel)) (fun _ h9 => h9) rfl dX1_shorten_16 ?_
        refine lv_iload hx hb dX1_shorten_19 (lv_at hl 4 rfl) ?_
        refine xa_aald (b := h (n + 201)) hx hb hK hP 1 3 rfl rfl rfl (by omega) (by decide) (if_pos (by omega)) dX1_shorten_21 ?_
        refine lv_iload_n hx hb dX1_shorten_22 rfl (lv_at hl 1 rfl) ?_
        refine lv_dup2_11 hx hb dX1_shorten_23 rfl rfl ?_
        refine xa_iald hx hb hK hP (2 + n) 0 (wLead_atG2 (by omega)) rfl (by omega) (by decide) dX1_shorten_24 ?_
        refine lv_iload_n hx hb dX1_shorten_25 rfl (lv_at hl 3 rfl) ?_
        refine lv_aload_n hx hb dX1_shorten_26 rfl (lv_at hl 0 rfl) ?_
        refine va_get (D := (dC, dI)) (ci := 1) (v := .ref (h 200)) (C := RX1) (T := TX1) (N := 6) hx hb hts hinX1 hown hK hP 0 rfl rfl 1 (by decide) (hts (.fieldLink RX1 11 "MixedWords$Leader" "columns" "[[I") (by decide +kernel)) (fun _ h9 => h9) rfl dX1_shorten_27 ?_
        refine lv_iload hx hb dX1_shorten_30 (lv_at hl 4 rfl) ?_
        refine xa_aald (b := h (n + 201)) hx hb hK hP 1 3 rfl rfl rfl (by omega) (by decide) (if_pos (by omega)) dX1_shorten_32 ?_
        refine lv_iload_n hx hb dX1_shorten_33 rfl (lv_at hl 2 rfl) ?_
        refine xa_iald hx hb hK hP (2 + n) 0 (wLead_atG2 (by omega)) rfl (by omega) (by decide) dX1_shorten_34 ?_
        refine lv_imul hx hb dX1_shorten_35 ?_
        refine lv_isub hx hb dX1_shorten_36 ?_
        refine xa_iast hx hb hK hP hD hS (2 + n) 0 (wLead_atG2 (by omega)) rfl (by omega) (by decide) dX1_shorten_37 (fun H locs hP hD hS => ?_)
        rw [wLead_setG2 (by omega)] at hP hD
        have hP : va_P (dC, dI) vwCl (wLead h cs I L A Q (va_up G 2 (va_up g2 n (upd (g2 n) i (((g2 n) i) - (x * ((g2 n) j)))))) J) H := hP
        have hD : va_D A0 (wLead h cs I L A Q (va_up G 2 (va_up g2 n (upd (g2 n) i (((g2 n) i) - (x * ((g2 n) j)))))) J) := hD
        refine lv_iinc (v := nI (n + 1)) (lv' := [(4, .int (nI (n + 1))), (0, .ref (h 108)), (1, .int (nI i)), (2, .int (nI j)), (3, .int x)]) hx hb dX1_shorten_38 hl (k := 4) rfl (nI_1 _) (by decide) rfl (fun ls hl => ?_)
        refine lv_goto (tgt := 3) hx hb dX1_shorten_41 (by decide) ?_
        exact ih_3 (n + 1) (va_up g2 n (upd (g2 n) i (((g2 n) i) - (x * ((g2 n) j))))) (by omega) (by first | assumption | omega) (by first | exact (fun r c hr => absurd hr (Nat.not_lt_zero r)) | exact (sh_s ha3 hb3).1) (by first | exact (fun _ _ => rfl) | exact (sh_s ha3 hb3).2) _ _ _ hP hD hS (lv_sub hl [1, 2, 3, 4, 0] rfl)
  exact cut_3 _ 0 (G 2) (Nat.lt_succ_self _) (by first | assumption | omega) (by first | exact (fun r c hr => absurd hr (Nat.not_lt_zero r)) | exact (sh_s ha3 hb3).1) (by first | exact (fun _ _ => rfl) | exact (sh_s ha3 hb3).2) _ _ _ hP hD hS (lv_sub hl [1, 2, 3, 4, 0] rfl)
set_option maxRecDepth 20000 in
theorem ggX1_shortenFirst_X1_quotient : GoodIn wsX1_shortenFirst wsX1_quotient := goodIn_r _ [7, 8, 1, 9, 10, 11, 12, 13, 14, 15, 16, 22, 23, 24, 25, 26, 27, 28, 29, 30, 31, 32, 33] rfl (by decide +kernel)
set_option maxRecDepth 20000 in
theorem gX1_shortenFirst_X1_quotient : GoodIn wsX1_shortenFirst (wsV RX1 56 RX1 yX1_quotient wsX1_quotient) := goodIn_app (goodIn_of _ (by decide +kernel)) ggX1_shortenFirst_X1_quotient
set_option maxRecDepth 20000 in
theorem ggX1_shortenFirst_X1_shorten : GoodIn wsX1_shortenFirst wsX1_shorten := goodIn_r _ [20, 1, 9, 8, 2, 21, 22, 23, 24, 25, 26, 27, 28, 29, 30, 31, 32, 33] rfl (by decide +kernel)
set_option maxRecDepth 20000 in
theorem gX1_shortenFirst_X1_shorten : GoodIn wsX1_shortenFirst (wsV RX1 60 RX1 yX1_shorten wsX1_shorten) := goodIn_app (goodIn_of _ (by decide +kernel)) ggX1_shortenFirst_X1_shorten
theorem bdX1_shortenFirst_0 : (decode cX1_shortenFirst 0 = .ok (.iconst 0, 1)) ∧ (decode cX1_shortenFirst 1 = .ok (.istore_n 1, 1)) ∧ (decode cX1_shortenFirst 2 = .ok (.iload_n 1, 1)) ∧ (decode cX1_shortenFirst 3 = .ok (.aload_n 0, 1)) ∧ (decode cX1_shortenFirst 4 = .ok (.getfield 27, 3)) ∧ (decode cX1_shortenFirst 7 = .ok (.getfield 53, 3)) ∧ (decode cX1_shortenFirst 10 = .ok (.if_icmp .ge 57, 3)) ∧ (decode cX1_shortenFirst 13 = .ok (.iconst 0, 1)) ∧ (decode cX1_shortenFirst 14 = .ok (.istore_n 2, 1)) ∧ (decode cX1_shortenFirst 15 = .ok (.iload_n 2, 1)) ∧ (decode cX1_shortenFirst 16 = .ok (.aload_n 0, 1)) ∧ (decode cX1_shortenFirst 17 = .ok (.getfield 27, 3)) ∧ (decode cX1_shortenFirst 20 = .ok (.getfield 53, 3)) ∧ (decode cX1_shortenFirst 23 = .ok (.if_icmp .ge 38, 3)) ∧ (decode cX1_shortenFirst 26 = .ok (.iload_n 1, 1)) ∧ (decode cX1_shortenFirst 27 = .ok (.iload_n 2, 1)) := by decide +kernel
theorem dX1_shortenFirst_0 : decode cX1_shortenFirst 0 = .ok (.iconst 0, 1) := bdX1_shortenFirst_0.1
theorem dX1_shortenFirst_1 : decode cX1_shortenFirst 1 = .ok (.istore_n 1, 1) := bdX1_shortenFirst_0.2.1
theorem dX1_shortenFirst_2 : decode cX1_shortenFirst 2 = .ok (.iload_n 1, 1) := bdX1_shortenFirst_0.2.2.1
theorem dX1_shortenFirst_3 : decode cX1_shortenFirst 3 = .ok (.aload_n 0, 1) := bdX1_shortenFirst_0.2.2.2.1
theorem dX1_shortenFirst_4 : decode cX1_shortenFirst 4 = .ok (.getfield 27, 3) := bdX1_shortenFirst_0.2.2.2.2.1
theorem dX1_shortenFirst_7 : decode cX1_shortenFirst 7 = .ok (.getfield 53, 3) := bdX1_shortenFirst_0.2.2.2.2.2.1
theorem dX1_shortenFirst_10 : decode cX1_shortenFirst 10 = .ok (.if_icmp .ge 57, 3) := bdX1_shortenFirst_0.2.2.2.2.2.2.1
theorem dX1_shortenFirst_13 : decode cX1_shortenFirst 13 = .ok (.iconst 0, 1) := bdX1_shortenFirst_0.2.2.2.2.2.2.2.1
theorem dX1_shortenFirst_14 : decode cX1_shortenFirst 14 = .ok (.istore_n 2, 1) := bdX1_shortenFirst_0.2.2.2.2.2.2.2.2.1
theorem dX1_shortenFirst_15 : decode cX1_shortenFirst 15 = .ok (.iload_n 2, 1) := bdX1_shortenFirst_0.2.2.2.2.2.2.2.2.2.1
theorem dX1_shortenFirst_16 : decode cX1_shortenFirst 16 = .ok (.aload_n 0, 1) := bdX1_shortenFirst_0.2.2.2.2.2.2.2.2.2.2.1
theorem dX1_shortenFirst_17 : decode cX1_shortenFirst 17 = .ok (.getfield 27, 3) := bdX1_shortenFirst_0.2.2.2.2.2.2.2.2.2.2.2.1
theorem dX1_shortenFirst_20 : decode cX1_shortenFirst 20 = .ok (.getfield 53, 3) := bdX1_shortenFirst_0.2.2.2.2.2.2.2.2.2.2.2.2.1
theorem dX1_shortenFirst_23 : decode cX1_shortenFirst 23 = .ok (.if_icmp .ge 38, 3) := bdX1_shortenFirst_0.2.2.2.2.2.2.2.2.2.2.2.2.2.1
theorem dX1_shortenFirst_26 : decode cX1_shortenFirst 26 = .ok (.iload_n 1, 1) := bdX1_shortenFirst_0.2.2.2.2.2.2.2.2.2.2.2.2.2.2.1
theorem dX1_shortenFirst_27 : decode cX1_shortenFirst 27 = .ok (.iload_n 2, 1) := bdX1_shortenFirst_0.2.2.2.2.2.2.2.2.2.2.2.2.2.2.2
theorem bdX1_shortenFirst_28 : (decode cX1_shortenFirst 28 = .ok (.if_icmp .ne 7, 3)) ∧ (decode cX1_shortenFirst 31 = .ok (.iconst 0, 1)) ∧ (decode cX1_shortenFirst 32 = .ok (.goto 9, 3)) ∧ (decode cX1_shortenFirst 35 = .ok (.aload_n 0, 1)) ∧ (decode cX1_shortenFirst 36 = .ok (.iload_n 1, 1)) ∧ (decode cX1_shortenFirst 37 = .ok (.iload_n 2, 1)) ∧ (decode cX1_shortenFirst 38 = .ok (.invokevirtual 56, 3)) ∧ (decode cX1_shortenFirst 41 = .ok (.istore_n 3, 1)) ∧ (decode cX1_shortenFirst 42 = .ok (.iload_n 3, 1)) ∧ (decode cX1_shortenFirst 43 = .ok (.ifCond .eq 12, 3)) ∧ (decode cX1_shortenFirst 46 = .ok (.aload_n 0, 1)) ∧ (decode cX1_shortenFirst 47 = .ok (.iload_n 1, 1)) ∧ (decode cX1_shortenFirst 48 = .ok (.iload_n 2, 1)) ∧ (decode cX1_shortenFirst 49 = .ok (.iload_n 3, 1)) ∧ (decode cX1_shortenFirst 50 = .ok (.invokevirtual 60, 3)) ∧ (decode cX1_shortenFirst 53 = .ok (.iconst 1, 1)) := by decide +kernel
theorem dX1_shortenFirst_28 : decode cX1_shortenFirst 28 = .ok (.if_icmp .ne 7, 3) := bdX1_shortenFirst_28.1
theorem dX1_shortenFirst_31 : decode cX1_shortenFirst 31 = .ok (.iconst 0, 1) := bdX1_shortenFirst_28.2.1
theorem dX1_shortenFirst_32 : decode cX1_shortenFirst 32 = .ok (.goto 9, 3) := bdX1_shortenFirst_28.2.2.1
theorem dX1_shortenFirst_35 : decode cX1_shortenFirst 35 = .ok (.aload_n 0, 1) := bdX1_shortenFirst_28.2.2.2.1
theorem dX1_shortenFirst_36 : decode cX1_shortenFirst 36 = .ok (.iload_n 1, 1) := bdX1_shortenFirst_28.2.2.2.2.1
theorem dX1_shortenFirst_37 : decode cX1_shortenFirst 37 = .ok (.iload_n 2, 1) := bdX1_shortenFirst_28.2.2.2.2.2.1
theorem dX1_shortenFirst_38 : decode cX1_shortenFirst 38 = .ok (.invokevirtual 56, 3) := bdX1_shortenFirst_28.2.2.2.2.2.2.1
theorem dX1_shortenFirst_41 : decode cX1_shortenFirst 41 = .ok (.istore_n 3, 1) := bdX1_shortenFirst_28.2.2.2.2.2.2.2.1
theorem dX1_shortenFirst_42 : decode cX1_shortenFirst 42 = .ok (.iload_n 3, 1) := bdX1_shortenFirst_28.2.2.2.2.2.2.2.2.1
theorem dX1_shortenFirst_43 : decode cX1_shortenFirst 43 = .ok (.ifCond .eq 12, 3) := bdX1_shortenFirst_28.2.2.2.2.2.2.2.2.2.1
theorem dX1_shortenFirst_46 : decode cX1_shortenFirst 46 = .ok (.aload_n 0, 1) := bdX1_shortenFirst_28.2.2.2.2.2.2.2.2.2.2.1
theorem dX1_shortenFirst_47 : decode cX1_shortenFirst 47 = .ok (.iload_n 1, 1) := bdX1_shortenFirst_28.2.2.2.2.2.2.2.2.2.2.2.1
theorem dX1_shortenFirst_48 : decode cX1_shortenFirst 48 = .ok (.iload_n 2, 1) := bdX1_shortenFirst_28.2.2.2.2.2.2.2.2.2.2.2.2.1
theorem dX1_shortenFirst_49 : decode cX1_shortenFirst 49 = .ok (.iload_n 3, 1) := bdX1_shortenFirst_28.2.2.2.2.2.2.2.2.2.2.2.2.2.1
theorem dX1_shortenFirst_50 : decode cX1_shortenFirst 50 = .ok (.invokevirtual 60, 3) := bdX1_shortenFirst_28.2.2.2.2.2.2.2.2.2.2.2.2.2.2.1
theorem dX1_shortenFirst_53 : decode cX1_shortenFirst 53 = .ok (.iconst 1, 1) := bdX1_shortenFirst_28.2.2.2.2.2.2.2.2.2.2.2.2.2.2.2
theorem bdX1_shortenFirst_54 : (decode cX1_shortenFirst 54 = .ok (.ireturn, 1)) ∧ (decode cX1_shortenFirst 55 = .ok (.iinc 2 1, 3)) ∧ (decode cX1_shortenFirst 58 = .ok (.goto (-43), 3)) ∧ (decode cX1_shortenFirst 61 = .ok (.iinc 1 1, 3)) ∧ (decode cX1_shortenFirst 64 = .ok (.goto (-62), 3)) ∧ (decode cX1_shortenFirst 67 = .ok (.iconst 0, 1)) ∧ (decode cX1_shortenFirst 68 = .ok (.ireturn, 1)) := by decide +kernel
theorem dX1_shortenFirst_54 : decode cX1_shortenFirst 54 = .ok (.ireturn, 1) := bdX1_shortenFirst_54.1
theorem dX1_shortenFirst_55 : decode cX1_shortenFirst 55 = .ok (.iinc 2 1, 3) := bdX1_shortenFirst_54.2.1
theorem dX1_shortenFirst_58 : decode cX1_shortenFirst 58 = .ok (.goto (-43), 3) := bdX1_shortenFirst_54.2.2.1
theorem dX1_shortenFirst_61 : decode cX1_shortenFirst 61 = .ok (.iinc 1 1, 3) := bdX1_shortenFirst_54.2.2.2.1
theorem dX1_shortenFirst_64 : decode cX1_shortenFirst 64 = .ok (.goto (-62), 3) := bdX1_shortenFirst_54.2.2.2.2.1
theorem dX1_shortenFirst_67 : decode cX1_shortenFirst 67 = .ok (.iconst 0, 1) := bdX1_shortenFirst_54.2.2.2.2.2.1
theorem dX1_shortenFirst_68 : decode cX1_shortenFirst 68 = .ok (.ireturn, 1) := bdX1_shortenFirst_54.2.2.2.2.2.2
set_option maxHeartbeats 4000000 in
set_option maxRecDepth 100000 in
theorem k_X1_shortenFirst (l : Launch) (dC : Nat → ClassId) (dI : Nat → Nat → Nat) (h : Nat → Nat) (cs : Nat → ClassId) (sz : Nat) (I : Nat → Int32) (L : Nat → Int64) (A : Nat → Nat → Int32) (Q : Nat → Nat → Int64) (G : Nat → Nat → Nat → Int32) (J : Nat → Nat → Nat → Int64) (R M : Nat) (hR : I 120 = nI R) (hR1 : 1 ≤ R) (hR5 : R ≤ 5) (hM : I 121 = nI M) (hM1 : 1 ≤ M) (hM4 : M ≤ 4) : Met l yX1_shortenFirst wsX1_shortenFirst ({ frames := 2, cells := 0, slots := 0, locals := 85 }) (va_Pc [.ref (h 108)] (xPre (dC, dI) (wLead h cs I L A Q G J) (tysA cs) sz)) (va_Qi (fun (r : Int32) (u : CS) => ∃ g2 : Nat → Nat → Int32, ∃ g3 : Nat → Nat → Int32, ((r = nI 0 ∧ g2 = G 2 ∧ g3 = G 3 ∧ NoSt R M (G 2)) ∨ (r = nI 1 ∧ ∃ i j : Nat, Fst R M (G 2) i j ∧ (∀ r c : Nat, r < R → g2 r c = shC (G 2) (qF (G 2) R i j) i j r c) ∧ ∀ k c : Nat, k < M → g3 k c = shC (G 3) (qF (G 2) R i j) i j k c)) ∧ u = (I, L, A, Q, (va_up (va_up G 2 g2) 3 g3), J)) (xB (dC, dI) (tysA cs) (va_A (wLead h cs I L A Q G J) sz) (fun u : CS => wLead h cs u.1 u.2.1 u.2.2.1 u.2.2.2.1 u.2.2.2.2.1 u.2.2.2.2.2)) (va_A (wLead h cs I L A Q G J) sz)) 0 0 (va_A (wLead h cs I L A Q G J) sz) := by
  refine Met.ofW (cc := cX1_shortenFirst) (maxL := 4) (ret := (some .boolean)) (by decide) rfl ?_
  intro p e s m args below meth c s₁ B hml hv
  obtain ⟨rfl, hsz, hP, hK, hD0, hN⟩ := hv
  have hx := B.exec
  have hb := B.bytes
  have hr := B.returns
  have hts := atoms_spec (ws := wsX1_shortenFirst) B.pre
  have hown : s.vm.findClass RX1 = some m.cls := findClass_of_methodNamed B.named
  have hlocks := B.notSynchronized
  subst hsz
  have hD := hD0.self (sz := s.heap.size)
  generalize hAe : va_A (wLead h cs I L A Q G J) s.heap.size = A0 at hD ⊢
  have hA : ∀ q : Nat, s.heap.size ≤ q → A0 q := fun q h => by rw [← hAe]; exact Or.inr h
  have hl := lv_entry ([.ref (h 108)]) (n := 4) (Nat.le_of_ble_eq_true rfl)
  rw [lg_entry_eq]
  generalize (lg_sl ([.ref (h 108)]) ++ List.replicate (4 - (lg_sl ([.ref (h 108)])).length) Slot.unset).toArray = ls at hl ⊢
  have hl : lv_has ls 4 [(0, .ref (h 108))] := hl
  generalize hH : s.heap = H at hP ⊢
  have hS : va_S A0 s.heap H [] := by rw [← hH]; exact va_S.rf
  have hinX1 : ∀ w ∈ wsX10, w ∈ wsX1_shortenFirst := by decide +kernel
  have hinX3 : ∀ w ∈ wsX30, w ∈ wsX1_shortenFirst := by decide +kernel
  refine lv_iconst (v := nI 0) hx hb dX1_shortenFirst_0 (by decide) ?_
  refine lv_istore_n (lv' := [(1, .int (nI 0)), (0, .ref (h 108))]) hx hb dX1_shortenFirst_1 rfl hl (by decide) rfl (fun ls hl => ?_)
  have cut_2 : ∀ (nf : Nat) (n : Nat), (M - n) < nf → (n ≤ M) → (∀ a b : Nat, a < M → b < M → ¬ a = b → (a < n ∨ (a = n ∧ b < 0)) → qF (G 2) R a b = nI 0) → ∀ (H : Heap) (locs : List Loc) (ls : Array Slot), va_P (dC, dI) vwCl (wLead h cs I L A Q G J) H → va_D A0 (wLead h cs I L A Q G J) → va_S A0 s.heap H locs → lv_has ls 4 [(0, .ref (h 108)), (1, .int (nI n))] → W p l e (headSpec wsX1_shortenFirst ({ frames := 2, cells := 0, slots := 0, locals := 85 })).room s m ([.ref (h 108)] : List Value).toArray below meth c H locs 0 0 (MQ below (va_Qi (fun (r : Int32) (u : CS) => ∃ g2 : Nat → Nat → Int32, ∃ g3 : Nat → Nat → Int32, ((r = nI 0 ∧ g2 = G 2 ∧ g3 = G 3 ∧ NoSt R M (G 2)) ∨ (r = nI 1 ∧ ∃ i j : Nat, Fst R M (G 2) i j ∧ (∀ r c : Nat, r < R → g2 r c = shC (G 2) (qF (G 2) R i j) i j r c) ∧ ∀ k c : Nat, k < M → g3 k c = shC (G 3) (qF (G 2) R i j) i j k c)) ∧ u = (I, L, A, Q, (va_up (va_up G 2 g2) 3 g3), J)) (xB (dC, dI) (tysA cs) A0 (fun u : CS => wLead h cs u.1 u.2.1 u.2.2.1 u.2.2.2.1 u.2.2.2.2.1 u.2.2.2.2.2)) A0) ([.ref (h 108)] : List Value).toArray s 0 0 A0) (F0 m 2 ls []) := by
    intro nf
    induction nf with
    | zero => intro n hm; exact absurd hm (Nat.not_lt_zero _)
    | succ nf ih_2 =>
      intro n hm_2 hn2 hz2 H locs ls hP hD hS hl
      refine lv_iload_n hx hb dX1_shortenFirst_2 rfl (lv_at hl 1 rfl) ?_
      refine lv_aload_n hx hb dX1_shortenFirst_3 rfl (lv_at hl 0 rfl) ?_
      refine va_get (D := (dC, dI)) (ci := 1) (v := .ref (h 101)) (C := RX1) (T := TX1) (N := 6) hx hb hts hinX1 hown hK hP 0 rfl rfl 0 (by decide) (hts (.fieldLink RX1 27 "MixedWords$Leader" "mix" "LMixedWords$Mix;") (by decide +kernel)) (fun _ h9 => h9) rfl dX1_shortenFirst_4 ?_
      refine va_get (D := (dC, dI)) (ci := 3) (v := .int (I 121)) (C := RX3) (T := TX3) (N := 6) hx hb hts hinX3 hown hK hP 13 rfl rfl 1 (by decide) (hts (.fieldLink RX1 53 "MixedWords$Mix" "width" "I") (by decide +kernel)) (fun _ h9 => h9) rfl dX1_shortenFirst_7 ?_
      refine xt_i (y := nI M) (hM) ?_
      refine xn_ge (tgt := 67) hx hb dX1_shortenFirst_10 (by decide) (by omega) (by omega) (fun c_10_0 => ?_) (fun c_10_0 => ?_)
      · skip
        refine lv_iconst (v := nI 0) hx hb dX1_shortenFirst_67 (by decide) ?_
        exact xr_z (v := (nI 0)) hx hb hr hlocks hK hS dX1_shortenFirst_68 (rfl) (I, L, A, Q, (va_up (va_up G 2 (G 2)) 3 (G 3)), J) ⟨(G 2), (G 3), (Or.inl ⟨rfl, rfl, rfl, fun a b h1 h2 h3 => hz2 a b h1 h2 h3 (Or.inl (by omega))⟩), rfl⟩ hP hD
      · skip
        refine lv_iconst (v := nI 0) hx hb dX1_shortenFirst_13 (by decide) ?_
        refine lv_istore_n (lv' := [(2, .int (nI 0)), (0, .ref (h 108)), (1, .int (nI n))]) hx hb dX1_shortenFirst_14 rfl hl (by decide) rfl (fun ls hl => ?_)
        have cut_15 : ∀ (nf : Nat) (k : Nat), (M - k) < nf → (k ≤ M) → (∀ a b : Nat, a < M → b < M → ¬ a = b → (a < n ∨ (a = n ∧ b < k)) → qF (G 2) R a b = nI 0) → ∀ (H : Heap) (locs : List Loc) (ls : Array Slot), va_P (dC, dI) vwCl (wLead h cs I L A Q G J) H → va_D A0 (wLead h cs I L A Q G J) → va_S A0 s.heap H locs → lv_has ls 4 [(0, .ref (h 108)), (1, .int (nI n)), (2, .int (nI k))] → W p l e (headSpec wsX1_shortenFirst ({ frames := 2, cells := 0, slots := 0, locals := 85 })).room s m ([.ref (h 108)] : List Value).toArray below meth c H locs 0 0 (MQ below (va_Qi (fun (r : Int32) (u : CS) => ∃ g2 : Nat → Nat → Int32, ∃ g3 : Nat → Nat → Int32, ((r = nI 0 ∧ g2 = G 2 ∧ g3 = G 3 ∧ NoSt R M (G 2)) ∨ (r = nI 1 ∧ ∃ i j : Nat, Fst R M (G 2) i j ∧ (∀ r c : Nat, r < R → g2 r c = shC (G 2) (qF (G 2) R i j) i j r c) ∧ ∀ k c : Nat, k < M → g3 k c = shC (G 3) (qF (G 2) R i j) i j k c)) ∧ u = (I, L, A, Q, (va_up (va_up G 2 g2) 3 g3), J)) (xB (dC, dI) (tysA cs) A0 (fun u : CS => wLead h cs u.1 u.2.1 u.2.2.1 u.2.2.2.1 u.2.2.2.2.1 u.2.2.2.2.2)) A0) ([.ref (h 108)] : List Value).toArray s 0 0 A0) (F0 m 15 ls []) := by
          intro nf
          induction nf with
          | zero => intro k hm; exact absurd hm (Nat.not_lt_zero _)
          | succ nf ih_15 =>
            intro k hm_15 hk15 hz15 H locs ls hP hD hS hl
            refine lv_iload_n hx hb dX1_shortenFirst_15 rfl (lv_at hl 2 rfl) ?_
            refine lv_aload_n hx hb dX1_shortenFirst_16 rfl (lv_at hl 0 rfl) ?_
            refine va_get (D := (dC, dI)) (ci := 1) (v := .ref (h 101)) (C := RX1) (T := TX1) (N := 6) hx hb hts hinX1 hown hK hP 0 rfl rfl 0 (by decide) (hts (.fieldLink RX1 27 "MixedWords$Leader" "mix" "LMixedWords$Mix;") (by decide +kernel)) (fun _ h9 => h9) rfl dX1_shortenFirst_17 ?_
            refine va_get (D := (dC, dI)) (ci := 3) (v := .int (I 121)) (C := RX3) (T := TX3) (N := 6) hx hb hts hinX3 hown hK hP 13 rfl rfl 1 (by decide) (hts (.fieldLink RX1 53 "MixedWords$Mix" "width" "I") (by decide +kernel)) (fun _ h9 => h9) rfl dX1_shortenFirst_20 ?_
            refine xt_i (y := nI M) (hM) ?_
            refine xn_ge (tgt := 61) hx hb dX1_shortenFirst_23 (by decide) (by omega) (by omega) (fun c_23_1 => ?_) (fun c_23_1 => ?_)
            · skip
              refine lv_iinc (v := nI (n + 1)) (lv' := [(1, .int (nI (n + 1))), (0, .ref (h 108)), (2, .int (nI k))]) hx hb dX1_shortenFirst_61 hl (k := 1) rfl (nI_1 _) (by decide) rfl (fun ls hl => ?_)
              refine lv_goto (tgt := 2) hx hb dX1_shortenFirst_64 (by decide) ?_
              exact ih_2 (n + 1) (by omega) (by first | assumption | omega) (by first | (intro a b h1 h2 h3 h4; omega) | exact (fun a b h1 h2 h3 h4 => hz15 a b h1 h2 h3 (by omega))) _ _ _ hP hD hS (lv_sub hl [1, 0] rfl)
            · skip
              refine lv_iload_n hx hb dX1_shortenFirst_26 rfl (lv_at hl 1 rfl) ?_
              refine lv_iload_n hx hb dX1_shortenFirst_27 rfl (lv_at hl 2 rfl) ?_
              refine xn_ne (tgt := 35) hx hb dX1_shortenFirst_28 (by decide) (by omega) (by omega) (fun c_28_2 => ?_) (fun c_28_2 => ?_)
              · skip
                refine lv_aload_n hx hb dX1_shortenFirst_35 rfl (lv_at hl 0 rfl) ?_
                refine lv_iload_n hx hb dX1_shortenFirst_36 rfl (lv_at hl 1 rfl) ?_
                refine lv_iload_n hx hb dX1_shortenFirst_37 rfl (lv_at hl 2 rfl) ?_
                refine xj_i (wc := (wLead h cs I L A Q G J)) (wr := ([] : va_W)) hP hD hS hA [0, 1, 2, 3, 4, 5, 6, 7, 8, 9, 10, 11, 12, 13, 14, 15, 16, 17, 18, 19, 20] [] rfl rfl (by decide +kernel) (by decide +kernel) (va_runV (As := [.int (nI n), .int (nI k)]) (rest := []) ⟨hx, hb, hml, hown, hts⟩ (k_X1_quotient l dC dI h cs H.size I L A Q G J n k R M (by first | assumption | omega) (by first | assumption | omega) hR (by first | assumption | omega | exact hR1) (by first | assumption | omega | exact hR5) hM (by first | assumption | omega | exact hM1) (by first | assumption | omega | exact hM4)) (cwV 2 hts gX1_shortenFirst_X1_quotient rfl rfl rfl (by decide +kernel) ⟨Nat.le_of_ble_eq_true rfl, Nat.le_of_ble_eq_true rfl⟩) (xpV (wc := (wLead h cs I L A Q G J)) hP hD hK hN [0, 1, 2, 3, 4, 5, 6, 7, 8, 9, 10, 11, 12, 13, 14, 15, 16, 17, 18, 19, 20] rfl (by decide) 0 (ci := 1) rfl rfl _) rfl rfl hl.1 rfl (lv_room (Nat.le_of_ble_eq_true rfl)) dX1_shortenFirst_38 ⟨Nat.zero_le _, Nat.zero_le _⟩) (fun r_5 u_4 H locs hw hP hD hS => ?_)
                obtain ⟨hf_6, rfl⟩ := hw
                have hP : va_P (dC, dI) vwCl (wLead h cs I L A Q G J) H := hP
                have hD : va_D A0 (wLead h cs I L A Q G J) := hD
                obtain rfl := hf_6
                refine lv_istore_n (lv' := [(3, .int (qF (G 2) R n k)), (0, .ref (h 108)), (1, .int (nI n)), (2, .int (nI k))]) hx hb dX1_shortenFirst_41 rfl hl (by decide) rfl (fun ls hl => ?_)
                refine lv_iload_n hx hb dX1_shortenFirst_42 rfl (lv_at hl 0 rfl) ?_
                refine lv_if_eq (tgt := 55) hx hb dX1_shortenFirst_43 (by decide) (fun c_43_6 => ?_) (fun c_43_6 => ?_)
                · skip
                  refine lv_iinc (v := nI (k + 1)) (lv' := [(2, .int (nI (k + 1))), (3, .int (qF (G 2) R n k)), (0, .ref (h 108)), (1, .int (nI n))]) hx hb dX1_shortenFirst_55 hl (k := 3) rfl (nI_1 _) (by decide) rfl (fun ls hl => ?_)
                  refine lv_goto (tgt := 15) hx hb dX1_shortenFirst_58 (by decide) ?_
                  exact ih_15 (k + 1) (by omega) (by first | assumption | omega) (by first | exact hz2 | (intro a b h1 h2 h3 h4; by_cases e : a = n ∧ b = k; (· obtain ⟨rfl, rfl⟩ := e; first | exact absurd (by assumption) h3 | assumption); (· exact hz15 a b h1 h2 h3 (by omega)))) _ _ _ hP hD hS (lv_sub hl [2, 3, 0] rfl)
                · skip
                  refine lv_aload_n hx hb dX1_shortenFirst_46 rfl (lv_at hl 1 rfl) ?_
                  refine lv_iload_n hx hb dX1_shortenFirst_47 rfl (lv_at hl 2 rfl) ?_
                  refine lv_iload_n hx hb dX1_shortenFirst_48 rfl (lv_at hl 3 rfl) ?_
                  refine lv_iload_n hx hb dX1_shortenFirst_49 rfl (lv_at hl 0 rfl) ?_
                  refine xj_v (wc := (wLead h cs I L A Q G J)) (wr := ([] : va_W)) hP hD hS hA [0, 1, 2, 3, 4, 5, 6, 7, 8, 9, 10, 11, 12, 13, 14, 15, 16, 17, 18, 19, 20] [] rfl rfl (by decide +kernel) (by decide +kernel) (va_runV (As := [.int (nI n), .int (nI k), .int (qF (G 2) R n k)]) (rest := []) ⟨hx, hb, hml, hown, hts⟩ (k_X1_shorten l dC dI h cs H.size I L A Q G J n k (qF (G 2) R n k) R M (by first | assumption | omega) (by first | assumption | omega) hR (by first | assumption | omega | exact hR1) (by first | assumption | omega | exact hR5) hM (by first | assumption | omega | exact hM1) (by first | assumption | omega | exact hM4)) (cwV 3 hts gX1_shortenFirst_X1_shorten rfl rfl rfl (by decide +kernel) ⟨Nat.le_of_ble_eq_true rfl, Nat.le_of_ble_eq_true rfl⟩) (xpV (wc := (wLead h cs I L A Q G J)) hP hD hK hN [0, 1, 2, 3, 4, 5, 6, 7, 8, 9, 10, 11, 12, 13, 14, 15, 16, 17, 18, 19, 20] rfl (by decide) 0 (ci := 1) rfl rfl _) rfl rfl hl.1 rfl (lv_room (Nat.le_of_ble_eq_true rfl)) dX1_shortenFirst_50 ⟨Nat.zero_le _, Nat.zero_le _⟩) (fun u_8 H locs hw hP hD hS => ?_)
                  obtain ⟨g2_10, g3_11, hf_12, rfl⟩ := hw
                  have hP : va_P (dC, dI) vwCl (wLead h cs I L A Q (va_up (va_up G 2 g2_10) 3 g3_11) J) H := hP
                  have hD : va_D A0 (wLead h cs I L A Q (va_up (va_up G 2 g2_10) 3 g3_11) J) := hD
                  refine lv_iconst (v := nI 1) hx hb dX1_shortenFirst_53 (by decide) ?_
                  exact xr_z (v := (nI 1)) hx hb hr hlocks hK hS dX1_shortenFirst_54 (rfl) (I, L, A, Q, (va_up (va_up G 2 g2_10) 3 g3_11), J) ⟨g2_10, g3_11, (Or.inr ⟨rfl, n, k, ⟨by omega, by omega, by assumption, by assumption, hz15⟩, hf_12⟩), rfl⟩ hP hD
              · skip
                refine lv_iconst (v := nI 0) hx hb dX1_shortenFirst_31 (by decide) ?_
                refine lv_goto (tgt := 41) hx hb dX1_shortenFirst_32 (by decide) ?_
                refine lv_istore_n (lv' := [(3, .int (nI 0)), (0, .ref (h 108)), (1, .int (nI n)), (2, .int (nI k))]) hx hb dX1_shortenFirst_41 rfl hl (by decide) rfl (fun ls hl => ?_)
                refine lv_iload_n hx hb dX1_shortenFirst_42 rfl (lv_at hl 0 rfl) ?_
                refine lv_if_eq (tgt := 55) hx hb dX1_shortenFirst_43 (by decide) (fun _ => ?_) (fun c9 => False.elim (by revert c9; decide +kernel))
                refine lv_iinc (v := nI (k + 1)) (lv' := [(2, .int (nI (k + 1))), (3, .int (nI 0)), (0, .ref (h 108)), (1, .int (nI n))]) hx hb dX1_shortenFirst_55 hl (k := 3) rfl (nI_1 _) (by decide) rfl (fun ls hl => ?_)
                refine lv_goto (tgt := 15) hx hb dX1_shortenFirst_58 (by decide) ?_
                exact ih_15 (k + 1) (by omega) (by first | assumption | omega) (by first | exact hz2 | (intro a b h1 h2 h3 h4; by_cases e : a = n ∧ b = k; (· obtain ⟨rfl, rfl⟩ := e; first | exact absurd (by assumption) h3 | assumption); (· exact hz15 a b h1 h2 h3 (by omega)))) _ _ _ hP hD hS (lv_sub hl [2, 3, 0] rfl)
        exact cut_15 _ 0 (Nat.lt_succ_self _) (by first | assumption | omega) (by first | exact hz2 | (intro a b h1 h2 h3 h4; by_cases e : a = n ∧ b = k; (· obtain ⟨rfl, rfl⟩ := e; first | exact absurd (by assumption) h3 | assumption); (· exact hz15 a b h1 h2 h3 (by omega)))) _ _ _ hP hD hS (lv_sub hl [1, 2, 0] rfl)
  exact cut_2 _ 0 (Nat.lt_succ_self _) (by first | assumption | omega) (by first | (intro a b h1 h2 h3 h4; omega) | exact (fun a b h1 h2 h3 h4 => hz15 a b h1 h2 h3 (by omega))) _ _ _ hP hD hS (lv_sub hl [1, 0] rfl)
theorem bdX1_begin_0 : (decode cX1_begin 0 = .ok (.aload_n 0, 1)) ∧ (decode cX1_begin 1 = .ok (.iconst 0, 1)) ∧ (decode cX1_begin 2 = .ok (.putfield 37, 3)) ∧ (decode cX1_begin 5 = .ok (.iconst 0, 1)) ∧ (decode cX1_begin 6 = .ok (.istore_n 1, 1)) ∧ (decode cX1_begin 7 = .ok (.iload_n 1, 1)) ∧ (decode cX1_begin 8 = .ok (.iconst 5, 1)) ∧ (decode cX1_begin 9 = .ok (.if_icmp .ge 30, 3)) ∧ (decode cX1_begin 12 = .ok (.aload_n 0, 1)) ∧ (decode cX1_begin 13 = .ok (.getfield 27, 3)) ∧ (decode cX1_begin 16 = .ok (.getfield 44, 3)) ∧ (decode cX1_begin 19 = .ok (.iload_n 1, 1)) ∧ (decode cX1_begin 20 = .ok (.aaload, 1)) ∧ (decode cX1_begin 21 = .ok (.iconst 0, 1)) ∧ (decode cX1_begin 22 = .ok (.aload_n 0, 1)) ∧ (decode cX1_begin 23 = .ok (.getfield 11, 3)) := by decide +kernel
theorem dX1_begin_0 : decode cX1_begin 0 = .ok (.aload_n 0, 1) := bdX1_begin_0.1
theorem dX1_begin_1 : decode cX1_begin 1 = .ok (.iconst 0, 1) := bdX1_begin_0.2.1
theorem dX1_begin_2 : decode cX1_begin 2 = .ok (.putfield 37, 3) := bdX1_begin_0.2.2.1
theorem dX1_begin_5 : decode cX1_begin 5 = .ok (.iconst 0, 1) := bdX1_begin_0.2.2.2.1
theorem dX1_begin_6 : decode cX1_begin 6 = .ok (.istore_n 1, 1) := bdX1_begin_0.2.2.2.2.1
theorem dX1_begin_7 : decode cX1_begin 7 = .ok (.iload_n 1, 1) := bdX1_begin_0.2.2.2.2.2.1
theorem dX1_begin_8 : decode cX1_begin 8 = .ok (.iconst 5, 1) := bdX1_begin_0.2.2.2.2.2.2.1
theorem dX1_begin_9 : decode cX1_begin 9 = .ok (.if_icmp .ge 30, 3) := bdX1_begin_0.2.2.2.2.2.2.2.1
theorem dX1_begin_12 : decode cX1_begin 12 = .ok (.aload_n 0, 1) := bdX1_begin_0.2.2.2.2.2.2.2.2.1
theorem dX1_begin_13 : decode cX1_begin 13 = .ok (.getfield 27, 3) := bdX1_begin_0.2.2.2.2.2.2.2.2.2.1
theorem dX1_begin_16 : decode cX1_begin 16 = .ok (.getfield 44, 3) := bdX1_begin_0.2.2.2.2.2.2.2.2.2.2.1
theorem dX1_begin_19 : decode cX1_begin 19 = .ok (.iload_n 1, 1) := bdX1_begin_0.2.2.2.2.2.2.2.2.2.2.2.1
theorem dX1_begin_20 : decode cX1_begin 20 = .ok (.aaload, 1) := bdX1_begin_0.2.2.2.2.2.2.2.2.2.2.2.2.1
theorem dX1_begin_21 : decode cX1_begin 21 = .ok (.iconst 0, 1) := bdX1_begin_0.2.2.2.2.2.2.2.2.2.2.2.2.2.1
theorem dX1_begin_22 : decode cX1_begin 22 = .ok (.aload_n 0, 1) := bdX1_begin_0.2.2.2.2.2.2.2.2.2.2.2.2.2.2.1
theorem dX1_begin_23 : decode cX1_begin 23 = .ok (.getfield 11, 3) := bdX1_begin_0.2.2.2.2.2.2.2.2.2.2.2.2.2.2.2
theorem bdX1_begin_26 : (decode cX1_begin 26 = .ok (.iload_n 1, 1)) ∧ (decode cX1_begin 27 = .ok (.aaload, 1)) ∧ (decode cX1_begin 28 = .ok (.iconst 0, 1)) ∧ (decode cX1_begin 29 = .ok (.iconst 4, 1)) ∧ (decode cX1_begin 30 = .ok (.invokestatic 47, 3)) ∧ (decode cX1_begin 33 = .ok (.iinc 1 1, 3)) ∧ (decode cX1_begin 36 = .ok (.goto (-29), 3)) ∧ (decode cX1_begin 39 = .ok (.iconst 0, 1)) ∧ (decode cX1_begin 40 = .ok (.istore_n 1, 1)) ∧ (decode cX1_begin 41 = .ok (.iload_n 1, 1)) ∧ (decode cX1_begin 42 = .ok (.iconst 4, 1)) ∧ (decode cX1_begin 43 = .ok (.if_icmp .ge 40, 3)) ∧ (decode cX1_begin 46 = .ok (.iconst 0, 1)) ∧ (decode cX1_begin 47 = .ok (.istore_n 2, 1)) ∧ (decode cX1_begin 48 = .ok (.iload_n 2, 1)) ∧ (decode cX1_begin 49 = .ok (.iconst 4, 1)) := by decide +kernel
theorem dX1_begin_26 : decode cX1_begin 26 = .ok (.iload_n 1, 1) := bdX1_begin_26.1
theorem dX1_begin_27 : decode cX1_begin 27 = .ok (.aaload, 1) := bdX1_begin_26.2.1
theorem dX1_begin_28 : decode cX1_begin 28 = .ok (.iconst 0, 1) := bdX1_begin_26.2.2.1
theorem dX1_begin_29 : decode cX1_begin 29 = .ok (.iconst 4, 1) := bdX1_begin_26.2.2.2.1
theorem dX1_begin_30 : decode cX1_begin 30 = .ok (.invokestatic 47, 3) := bdX1_begin_26.2.2.2.2.1
theorem dX1_begin_33 : decode cX1_begin 33 = .ok (.iinc 1 1, 3) := bdX1_begin_26.2.2.2.2.2.1
theorem dX1_begin_36 : decode cX1_begin 36 = .ok (.goto (-29), 3) := bdX1_begin_26.2.2.2.2.2.2.1
theorem dX1_begin_39 : decode cX1_begin 39 = .ok (.iconst 0, 1) := bdX1_begin_26.2.2.2.2.2.2.2.1
theorem dX1_begin_40 : decode cX1_begin 40 = .ok (.istore_n 1, 1) := bdX1_begin_26.2.2.2.2.2.2.2.2.1
theorem dX1_begin_41 : decode cX1_begin 41 = .ok (.iload_n 1, 1) := bdX1_begin_26.2.2.2.2.2.2.2.2.2.1
theorem dX1_begin_42 : decode cX1_begin 42 = .ok (.iconst 4, 1) := bdX1_begin_26.2.2.2.2.2.2.2.2.2.2.1
theorem dX1_begin_43 : decode cX1_begin 43 = .ok (.if_icmp .ge 40, 3) := bdX1_begin_26.2.2.2.2.2.2.2.2.2.2.2.1
theorem dX1_begin_46 : decode cX1_begin 46 = .ok (.iconst 0, 1) := bdX1_begin_26.2.2.2.2.2.2.2.2.2.2.2.2.1
theorem dX1_begin_47 : decode cX1_begin 47 = .ok (.istore_n 2, 1) := bdX1_begin_26.2.2.2.2.2.2.2.2.2.2.2.2.2.1
theorem dX1_begin_48 : decode cX1_begin 48 = .ok (.iload_n 2, 1) := bdX1_begin_26.2.2.2.2.2.2.2.2.2.2.2.2.2.2.1
theorem dX1_begin_49 : decode cX1_begin 49 = .ok (.iconst 4, 1) := bdX1_begin_26.2.2.2.2.2.2.2.2.2.2.2.2.2.2.2
theorem bdX1_begin_50 : (decode cX1_begin 50 = .ok (.if_icmp .ge 27, 3)) ∧ (decode cX1_begin 53 = .ok (.aload_n 0, 1)) ∧ (decode cX1_begin 54 = .ok (.getfield 16, 3)) ∧ (decode cX1_begin 57 = .ok (.iload_n 1, 1)) ∧ (decode cX1_begin 58 = .ok (.aaload, 1)) ∧ (decode cX1_begin 59 = .ok (.iload_n 2, 1)) ∧ (decode cX1_begin 60 = .ok (.iload_n 1, 1)) ∧ (decode cX1_begin 61 = .ok (.iload_n 2, 1)) ∧ (decode cX1_begin 62 = .ok (.if_icmp .ne 7, 3)) ∧ (decode cX1_begin 65 = .ok (.iconst 1, 1)) ∧ (decode cX1_begin 66 = .ok (.goto 4, 3)) ∧ (decode cX1_begin 69 = .ok (.iconst 0, 1)) ∧ (decode cX1_begin 70 = .ok (.iastore, 1)) ∧ (decode cX1_begin 71 = .ok (.iinc 2 1, 3)) ∧ (decode cX1_begin 74 = .ok (.goto (-26), 3)) ∧ (decode cX1_begin 77 = .ok (.iinc 1 1, 3)) := by decide +kernel
theorem dX1_begin_50 : decode cX1_begin 50 = .ok (.if_icmp .ge 27, 3) := bdX1_begin_50.1
theorem dX1_begin_53 : decode cX1_begin 53 = .ok (.aload_n 0, 1) := bdX1_begin_50.2.1
theorem dX1_begin_54 : decode cX1_begin 54 = .ok (.getfield 16, 3) := bdX1_begin_50.2.2.1
theorem dX1_begin_57 : decode cX1_begin 57 = .ok (.iload_n 1, 1) := bdX1_begin_50.2.2.2.1
theorem dX1_begin_58 : decode cX1_begin 58 = .ok (.aaload, 1) := bdX1_begin_50.2.2.2.2.1
theorem dX1_begin_59 : decode cX1_begin 59 = .ok (.iload_n 2, 1) := bdX1_begin_50.2.2.2.2.2.1
theorem dX1_begin_60 : decode cX1_begin 60 = .ok (.iload_n 1, 1) := bdX1_begin_50.2.2.2.2.2.2.1
theorem dX1_begin_61 : decode cX1_begin 61 = .ok (.iload_n 2, 1) := bdX1_begin_50.2.2.2.2.2.2.2.1
theorem dX1_begin_62 : decode cX1_begin 62 = .ok (.if_icmp .ne 7, 3) := bdX1_begin_50.2.2.2.2.2.2.2.2.1
theorem dX1_begin_65 : decode cX1_begin 65 = .ok (.iconst 1, 1) := bdX1_begin_50.2.2.2.2.2.2.2.2.2.1
theorem dX1_begin_66 : decode cX1_begin 66 = .ok (.goto 4, 3) := bdX1_begin_50.2.2.2.2.2.2.2.2.2.2.1
theorem dX1_begin_69 : decode cX1_begin 69 = .ok (.iconst 0, 1) := bdX1_begin_50.2.2.2.2.2.2.2.2.2.2.2.1
theorem dX1_begin_70 : decode cX1_begin 70 = .ok (.iastore, 1) := bdX1_begin_50.2.2.2.2.2.2.2.2.2.2.2.2.1
theorem dX1_begin_71 : decode cX1_begin 71 = .ok (.iinc 2 1, 3) := bdX1_begin_50.2.2.2.2.2.2.2.2.2.2.2.2.2.1
theorem dX1_begin_74 : decode cX1_begin 74 = .ok (.goto (-26), 3) := bdX1_begin_50.2.2.2.2.2.2.2.2.2.2.2.2.2.2.1
theorem dX1_begin_77 : decode cX1_begin 77 = .ok (.iinc 1 1, 3) := bdX1_begin_50.2.2.2.2.2.2.2.2.2.2.2.2.2.2.2
theorem dX1_begin_80 : decode cX1_begin 80 = .ok (.goto (-39), 3) := by decide +kernel
theorem dX1_begin_83 : decode cX1_begin 83 = .ok (.return_, 1) := by decide +kernel
set_option maxHeartbeats 4000000 in
set_option maxRecDepth 100000 in
theorem k_X1_begin (l : Launch) (dC : Nat → ClassId) (dI : Nat → Nat → Nat) (h : Nat → Nat) (cs : Nat → ClassId) (sz : Nat) (I : Nat → Int32) (L : Nat → Int64) (A : Nat → Nat → Int32) (Q : Nat → Nat → Int64) (G : Nat → Nat → Nat → Int32) (J : Nat → Nat → Nat → Int64) (u9 : Nat) : Met l yX1_begin wsX1_begin ({ frames := 1, cells := 0, slots := 0, locals := 60 }) (va_Pc [.ref (h 108)] (xPre (dC, dI) (wLead h cs I L A Q G J) (tysA cs) sz)) (va_Qv (fun (u : CS) => ∃ i212 : Int32, ∃ g2 : Nat → Nat → Int32, ∃ g3 : Nat → Nat → Int32, (i212 = nI 0 ∧ (∀ r c : Nat, r < 5 → c < 4 → g2 r c = G 0 r c) ∧ ∀ k c : Nat, k < 4 → c < 4 → g3 k c = if k = c then nI 1 else nI 0) ∧ u = ((va_up I 212 i212), L, A, Q, (va_up (va_up G 2 g2) 3 g3), J)) (xB (dC, dI) (tysA cs) (va_A (wLead h cs I L A Q G J) sz) (fun u : CS => wLead h cs u.1 u.2.1 u.2.2.1 u.2.2.2.1 u.2.2.2.2.1 u.2.2.2.2.2)) (va_A (wLead h cs I L A Q G J) sz)) 0 0 (va_A (wLead h cs I L A Q G J) sz) := by
  refine Met.ofW (cc := cX1_begin) (maxL := 3) (ret := none) (by decide) rfl ?_
  intro p e s m args below meth c s₁ B hml hv
  obtain ⟨rfl, hsz, hP, hK, hD0, hN⟩ := hv
  have hx := B.exec
  have hb := B.bytes
  have hr := B.returns
  have hts := atoms_spec (ws := wsX1_begin) B.pre
  have hown : s.vm.findClass RX1 = some m.cls := findClass_of_methodNamed B.named
  have hlocks := B.notSynchronized
  subst hsz
  have hD := hD0.self (sz := s.heap.size)
  generalize hAe : va_A (wLead h cs I L A Q G J) s.heap.size = A0 at hD ⊢
  have hA : ∀ q : Nat, s.heap.size ≤ q → A0 q := fun q h => by rw [← hAe]; exact Or.inr h
  have hl := lv_entry ([.ref (h 108)]) (n := 3) (Nat.le_of_ble_eq_true rfl)
  rw [lg_entry_eq]
  generalize (lg_sl ([.ref (h 108)]) ++ List.replicate (3 - (lg_sl ([.ref (h 108)])).length) Slot.unset).toArray = ls at hl ⊢
  have hl : lv_has ls 3 [(0, .ref (h 108))] := hl
  generalize hH : s.heap = H at hP ⊢
  have hS : va_S A0 s.heap H [] := by rw [← hH]; exact va_S.rf
  have hinX1 : ∀ w ∈ wsX10, w ∈ wsX1_begin := by decide +kernel
  have hinX3 : ∀ w ∈ wsX30, w ∈ wsX1_begin := by decide +kernel
  refine lv_aload_n hx hb dX1_begin_0 rfl (lv_at hl 0 rfl) ?_
  refine lv_iconst (v := nI 0) hx hb dX1_begin_1 (by decide) ?_
  refine va_put (D := (dC, dI)) (ci := 1) (v := .int (nI 0)) (ty := .int) (C := RX1) (T := TX1) (N := 6) hx hb hts hinX1 tyX1 tyX1_ok nmX1 hown hK hP hD hS 0 rfl rfl 4 (by decide) (hts (.fieldLink RX1 37 "MixedWords$Leader" "times" "I") (by decide +kernel)) (fun _ h9 => h9) rfl (by decide +kernel) rfl rfl (Nat.le_of_ble_eq_true rfl) dX1_begin_2 (fun H locs hP hD hS => ?_)
  have hP : va_P (dC, dI) vwCl (wLead h cs (va_up I 212 (nI 0)) L A Q G J) H := hP
  have hD : va_D A0 (wLead h cs (va_up I 212 (nI 0)) L A Q G J) := hD
  refine lv_iconst (v := nI 0) hx hb dX1_begin_5 (by decide) ?_
  refine lv_istore_n (lv' := [(1, .int (nI 0)), (0, .ref (h 108))]) hx hb dX1_begin_6 rfl hl (by decide) rfl (fun ls hl => ?_)
  refine lv_iload_n hx hb dX1_begin_7 rfl (lv_at hl 0 rfl) ?_
  refine lv_iconst (v := nI 5) hx hb dX1_begin_8 (by decide) ?_
  refine lv_icmp_ge (tgt := 39) hx hb dX1_begin_9 (by decide) (fun c9 => False.elim (by revert c9; decide +kernel)) (fun _ => ?_)
  refine lv_aload_n hx hb dX1_begin_12 rfl (lv_at hl 1 rfl) ?_
  refine va_get (D := (dC, dI)) (ci := 1) (v := .ref (h 101)) (C := RX1) (T := TX1) (N := 6) hx hb hts hinX1 hown hK hP 0 rfl rfl 0 (by decide) (hts (.fieldLink RX1 27 "MixedWords$Leader" "mix" "LMixedWords$Mix;") (by decide +kernel)) (fun _ h9 => h9) rfl dX1_begin_13 ?_
  refine va_get (D := (dC, dI)) (ci := 3) (v := .ref (h 130)) (C := RX3) (T := TX3) (N := 6) hx hb hts hinX3 hown hK hP 13 rfl rfl 4 (by decide) (hts (.fieldLink RX1 44 "MixedWords$Mix" "cells" "[[I") (by decide +kernel)) (fun _ h9 => h9) rfl dX1_begin_16 ?_
  refine lv_iload_n hx hb dX1_begin_19 rfl (lv_at hl 0 rfl) ?_
  refine xa_aald (b := h 131) hx hb hK hP 14 3 rfl rfl rfl (by omega) (by decide) (if_pos (by omega)) dX1_begin_20 ?_
  refine lv_iconst (v := nI 0) hx hb dX1_begin_21 (by decide) ?_
  refine lv_aload_n hx hb dX1_begin_22 rfl (lv_at hl 1 rfl) ?_
  refine va_get (D := (dC, dI)) (ci := 1) (v := .ref (h 200)) (C := RX1) (T := TX1) (N := 6) hx hb hts hinX1 hown hK hP 0 rfl rfl 1 (by decide) (hts (.fieldLink RX1 11 "MixedWords$Leader" "columns" "[[I") (by decide +kernel)) (fun _ h9 => h9) rfl dX1_begin_23 ?_
  refine lv_iload_n hx hb dX1_begin_26 rfl (lv_at hl 0 rfl) ?_
  refine xa_aald (b := h 201) hx hb hK hP 1 3 rfl rfl rfl (by omega) (by decide) (if_pos (by omega)) dX1_begin_27 ?_
  refine lv_iconst (v := nI 0) hx hb dX1_begin_28 (by decide) ?_
  refine lv_iconst (v := nI 4) hx hb dX1_begin_29 (by decide) ?_
  refine xa_copy (cA := cs 0) hx hb (hml.trans hl.1.symm) hown (hts (.methodLink RX1 47 arraycopyName) (by decide +kernel)) (hts (.native arraycopyName) (by decide +kernel)) (hts (.static arraycopyName) (by decide +kernel)) (hts (.initialized "java/lang/System") (by decide +kernel)) hK hP hD hS 15 2 rfl rfl (by omega) (by omega) (by decide) (by decide) (Nat.le_of_ble_eq_true rfl) (Nat.le_of_ble_eq_true rfl) dX1_begin_30 (fun H locs hP hD hS => ?_)
  have hP : va_P (dC, dI) vwCl (wLead h cs (va_up I 212 (nI 0)) L A Q (va_up G 2 (va_up (G 2) 0 (va_cpy ((G 0) 0) ((G 2) 0) 0 0 4))) J) H := hP
  have hD : va_D A0 (wLead h cs (va_up I 212 (nI 0)) L A Q (va_up G 2 (va_up (G 2) 0 (va_cpy ((G 0) 0) ((G 2) 0) 0 0 4))) J) := hD
  refine lv_iinc (v := nI 1) (lv' := [(1, .int (nI 1)), (0, .ref (h 108))]) hx hb dX1_begin_33 hl (k := 0) rfl (by decide +kernel) (by decide) rfl (fun ls hl => ?_)
  refine lv_goto (tgt := 7) hx hb dX1_begin_36 (by decide) ?_
  refine lv_iload_n hx hb dX1_begin_7 rfl (lv_at hl 0 rfl) ?_
  refine lv_iconst (v := nI 5) hx hb dX1_begin_8 (by decide) ?_
  refine lv_icmp_ge (tgt := 39) hx hb dX1_begin_9 (by decide) (fun c9 => False.elim (by revert c9; decide +kernel)) (fun _ => ?_)
  refine lv_aload_n hx hb dX1_begin_12 rfl (lv_at hl 1 rfl) ?_
  refine va_get (D := (dC, dI)) (ci := 1) (v := .ref (h 101)) (C := RX1) (T := TX1) (N := 6) hx hb hts hinX1 hown hK hP 0 rfl rfl 0 (by decide) (hts (.fieldLink RX1 27 "MixedWords$Leader" "mix" "LMixedWords$Mix;") (by decide +kernel)) (fun _ h9 => h9) rfl dX1_begin_13 ?_
  refine va_get (D := (dC, dI)) (ci := 3) (v := .ref (h 130)) (C := RX3) (T := TX3) (N := 6) hx hb hts hinX3 hown hK hP 13 rfl rfl 4 (by decide) (hts (.fieldLink RX1 44 "MixedWords$Mix" "cells" "[[I") (by decide +kernel)) (fun _ h9 => h9) rfl dX1_begin_16 ?_
  refine lv_iload_n hx hb dX1_begin_19 rfl (lv_at hl 0 rfl) ?_
  refine xa_aald (b := h 132) hx hb hK hP 14 3 rfl rfl rfl (by omega) (by decide) (if_pos (by omega)) dX1_begin_20 ?_
  refine lv_iconst (v := nI 0) hx hb dX1_begin_21 (by decide) ?_
  refine lv_aload_n hx hb dX1_begin_22 rfl (lv_at hl 1 rfl) ?_
  refine va_get (D := (dC, dI)) (ci := 1) (v := .ref (h 200)) (C := RX1) (T := TX1) (N := 6) hx hb hts hinX1 hown hK hP 0 rfl rfl 1 (by decide) (hts (.fieldLink RX1 11 "MixedWords$Leader" "columns" "[[I") (by decide +kernel)) (fun _ h9 => h9) rfl dX1_begin_23 ?_
  refine lv_iload_n hx hb dX1_begin_26 rfl (lv_at hl 0 rfl) ?_
  refine xa_aald (b := h 202) hx hb hK hP 1 3 rfl rfl rfl (by omega) (by decide) (if_pos (by omega)) dX1_begin_27 ?_
  refine lv_iconst (v := nI 0) hx hb dX1_begin_28 (by decide) ?_
  refine lv_iconst (v := nI 4) hx hb dX1_begin_29 (by decide) ?_
  refine xa_copy (cA := cs 0) hx hb (hml.trans hl.1.symm) hown (hts (.methodLink RX1 47 arraycopyName) (by decide +kernel)) (hts (.native arraycopyName) (by decide +kernel)) (hts (.static arraycopyName) (by decide +kernel)) (hts (.initialized "java/lang/System") (by decide +kernel)) hK hP hD hS 16 3 rfl rfl (by omega) (by omega) (by decide) (by decide) (Nat.le_of_ble_eq_true rfl) (Nat.le_of_ble_eq_true rfl) dX1_begin_30 (fun H locs hP hD hS => ?_)
  have hP : va_P (dC, dI) vwCl (wLead h cs (va_up I 212 (nI 0)) L A Q (va_up G 2 (va_up (va_up (G 2) 0 (va_cpy ((G 0) 0) ((G 2) 0) 0 0 4)) 1 (va_cpy ((G 0) 1) ((va_up (G 2) 0 (va_cpy ((G 0) 0) ((G 2) 0) 0 0 4)) 1) 0 0 4))) J) H := hP
  have hD : va_D A0 (wLead h cs (va_up I 212 (nI 0)) L A Q (va_up G 2 (va_up (va_up (G 2) 0 (va_cpy ((G 0) 0) ((G 2) 0) 0 0 4)) 1 (va_cpy ((G 0) 1) ((va_up (G 2) 0 (va_cpy ((G 0) 0) ((G 2) 0) 0 0 4)) 1) 0 0 4))) J) := hD
  refine lv_iinc (v := nI 2) (lv' := [(1, .int (nI 2)), (0, .ref (h 108))]) hx hb dX1_begin_33 hl (k := 0) rfl (by decide +kernel) (by decide) rfl (fun ls hl => ?_)
  refine lv_goto (tgt := 7) hx hb dX1_begin_36 (by decide) ?_
  refine lv_iload_n hx hb dX1_begin_7 rfl (lv_at hl 0 rfl) ?_
  refine lv_iconst (v := nI 5) hx hb dX1_begin_8 (by decide) ?_
  refine lv_icmp_ge (tgt := 39) hx hb dX1_begin_9 (by decide) (fun c9 => False.elim (by revert c9; decide +kernel)) (fun _ => ?_)
  refine lv_aload_n hx hb dX1_begin_12 rfl (lv_at hl 1 rfl) ?_
  refine va_get (D := (dC, dI)) (ci := 1) (v := .ref (h 101)) (C := RX1) (T := TX1) (N := 6) hx hb hts hinX1 hown hK hP 0 rfl rfl 0 (by decide) (hts (.fieldLink RX1 27 "MixedWords$Leader" "mix" "LMixedWords$Mix;") (by decide +kernel)) (fun _ h9 => h9) rfl dX1_begin_13 ?_
  refine va_get (D := (dC, dI)) (ci := 3) (v := .ref (h 130)) (C := RX3) (T := TX3) (N := 6) hx hb hts hinX3 hown hK hP 13 rfl rfl 4 (by decide) (hts (.fieldLink RX1 44 "MixedWords$Mix" "cells" "[[I") (by decide +kernel)) (fun _ h9 => h9) rfl dX1_begin_16 ?_
  refine lv_iload_n hx hb dX1_begin_19 rfl (lv_at hl 0 rfl) ?_
  refine xa_aald (b := h 133) hx hb hK hP 14 3 rfl rfl rfl (by omega) (by decide) (if_pos (by omega)) dX1_begin_20 ?_
  refine lv_iconst (v := nI 0) hx hb dX1_begin_21 (by decide) ?_
  refine lv_aload_n hx hb dX1_begin_22 rfl (lv_at hl 1 rfl) ?_
  refine va_get (D := (dC, dI)) (ci := 1) (v := .ref (h 200)) (C := RX1) (T := TX1) (N := 6) hx hb hts hinX1 hown hK hP 0 rfl rfl 1 (by decide) (hts (.fieldLink RX1 11 "MixedWords$Leader" "columns" "[[I") (by decide +kernel)) (fun _ h9 => h9) rfl dX1_begin_23 ?_
  refine lv_iload_n hx hb dX1_begin_26 rfl (lv_at hl 0 rfl) ?_
  refine xa_aald (b := h 203) hx hb hK hP 1 3 rfl rfl rfl (by omega) (by decide) (if_pos (by omega)) dX1_begin_27 ?_
  refine lv_iconst (v := nI 0) hx hb dX1_begin_28 (by decide) ?_
  refine lv_iconst (v := nI 4) hx hb dX1_begin_29 (by decide) ?_
  refine xa_copy (cA := cs 0) hx hb (hml.trans hl.1.symm) hown (hts (.methodLink RX1 47 arraycopyName) (by decide +kernel)) (hts (.native arraycopyName) (by decide +kernel)) (hts (.static arraycopyName) (by decide +kernel)) (hts (.initialized "java/lang/System") (by decide +kernel)) hK hP hD hS 17 4 rfl rfl (by omega) (by omega) (by decide) (by decide) (Nat.le_of_ble_eq_true rfl) (Nat.le_of_ble_eq_true rfl) dX1_begin_30 (fun H locs hP hD hS => ?_)
  have hP : va_P (dC, dI) vwCl (wLead h cs (va_up I 212 (nI 0)) L A Q (va_up G 2 (va_up (va_up (va_up (G 2) 0 (va_cpy ((G 0) 0) ((G 2) 0) 0 0 4)) 1 (va_cpy ((G 0) 1) ((va_up (G 2) 0 (va_cpy ((G 0) 0) ((G 2) 0) 0 0 4)) 1) 0 0 4)) 2 (va_cpy ((G 0) 2) ((va_up (va_up (G 2) 0 (va_cpy ((G 0) 0) ((G 2) 0) 0 0 4)) 1 (va_cpy ((G 0) 1) ((va_up (G 2) 0 (va_cpy ((G 0) 0) ((G 2) 0) 0 0 4)) 1) 0 0 4)) 2) 0 0 4))) J) H := hP
  have hD : va_D A0 (wLead h cs (va_up I 212 (nI 0)) L A Q (va_up G 2 (va_up (va_up (va_up (G 2) 0 (va_cpy ((G 0) 0) ((G 2) 0) 0 0 4)) 1 (va_cpy ((G 0) 1) ((va_up (G 2) 0 (va_cpy ((G 0) 0) ((G 2) 0) 0 0 4)) 1) 0 0 4)) 2 (va_cpy ((G 0) 2) ((va_up (va_up (G 2) 0 (va_cpy ((G 0) 0) ((G 2) 0) 0 0 4)) 1 (va_cpy ((G 0) 1) ((va_up (G 2) 0 (va_cpy ((G 0) 0) ((G 2) 0) 0 0 4)) 1) 0 0 4)) 2) 0 0 4))) J) := hD
  refine lv_iinc (v := nI 3) (lv' := [(1, .int (nI 3)), (0, .ref (h 108))]) hx hb dX1_begin_33 hl (k := 0) rfl (by decide +kernel) (by decide) rfl (fun ls hl => ?_)
  refine lv_goto (tgt := 7) hx hb dX1_begin_36 (by decide) ?_
  refine lv_iload_n hx hb dX1_begin_7 rfl (lv_at hl 0 rfl) ?_
  refine lv_iconst (v := nI 5) hx hb dX1_begin_8 (by decide) ?_
  refine lv_icmp_ge (tgt := 39) hx hb dX1_begin_9 (by decide) (fun c9 => False.elim (by revert c9; decide +kernel)) (fun _ => ?_)
  refine lv_aload_n hx hb dX1_begin_12 rfl (lv_at hl 1 rfl) ?_
  refine va_get (D := (dC, dI)) (ci := 1) (v := .ref (h 101)) (C := RX1) (T := TX1) (N := 6) hx hb hts hinX1 hown hK hP 0 rfl rfl 0 (by decide) (hts (.fieldLink RX1 27 "MixedWords$Leader" "mix" "LMixedWords$Mix;") (by decide +kernel)) (fun _ h9 => h9) rfl dX1_begin_13 ?_
  refine va_get (D := (dC, dI)) (ci := 3) (v := .ref (h 130)) (C := RX3) (T := TX3) (N := 6) hx hb hts hinX3 hown hK hP 13 rfl rfl 4 (by decide) (hts (.fieldLink RX1 44 "MixedWords$Mix" "cells" "[[I") (by decide +kernel)) (fun _ h9 => h9) rfl dX1_begin_16 ?_
  refine lv_iload_n hx hb dX1_begin_19 rfl (lv_at hl 0 rfl) ?_
  refine xa_aald (b := h 134) hx hb hK hP 14 3 rfl rfl rfl (by omega) (by decide) (if_pos (by omega)) dX1_begin_20 ?_
  refine lv_iconst (v := nI 0) hx hb dX1_begin_21 (by decide) ?_
  refine lv_aload_n hx hb dX1_begin_22 rfl (lv_at hl 1 rfl) ?_
  refine va_get (D := (dC, dI)) (ci := 1) (v := .ref (h 200)) (C := RX1) (T := TX1) (N := 6) hx hb hts hinX1 hown hK hP 0 rfl rfl 1 (by decide) (hts (.fieldLink RX1 11 "MixedWords$Leader" "columns" "[[I") (by decide +kernel)) (fun _ h9 => h9) rfl dX1_begin_23 ?_
  refine lv_iload_n hx hb dX1_begin_26 rfl (lv_at hl 0 rfl) ?_
  refine xa_aald (b := h 204) hx hb hK hP 1 3 rfl rfl rfl (by omega) (by decide) (if_pos (by omega)) dX1_begin_27 ?_
  refine lv_iconst (v := nI 0) hx hb dX1_begin_28 (by decide) ?_
  refine lv_iconst (v := nI 4) hx hb dX1_begin_29 (by decide) ?_
  refine xa_copy (cA := cs 0) hx hb (hml.trans hl.1.symm) hown (hts (.methodLink RX1 47 arraycopyName) (by decide +kernel)) (hts (.native arraycopyName) (by decide +kernel)) (hts (.static arraycopyName) (by decide +kernel)) (hts (.initialized "java/lang/System") (by decide +kernel)) hK hP hD hS 18 5 rfl rfl (by omega) (by omega) (by decide) (by decide) (Nat.le_of_ble_eq_true rfl) (Nat.le_of_ble_eq_true rfl) dX1_begin_30 (fun H locs hP hD hS => ?_)
  have hP : va_P (dC, dI) vwCl (wLead h cs (va_up I 212 (nI 0)) L A Q (va_up G 2 (va_up (va_up (va_up (va_up (G 2) 0 (va_cpy ((G 0) 0) ((G 2) 0) 0 0 4)) 1 (va_cpy ((G 0) 1) ((va_up (G 2) 0 (va_cpy ((G 0) 0) ((G 2) 0) 0 0 4)) 1) 0 0 4)) 2 (va_cpy ((G 0) 2) ((va_up (va_up (G 2) 0 (va_cpy ((G 0) 0) ((G 2) 0) 0 0 4)) 1 (va_cpy ((G 0) 1) ((va_up (G 2) 0 (va_cpy ((G 0) 0) ((G 2) 0) 0 0 4)) 1) 0 0 4)) 2) 0 0 4)) 3 (va_cpy ((G 0) 3) ((va_up (va_up (va_up (G 2) 0 (va_cpy ((G 0) 0) ((G 2) 0) 0 0 4)) 1 (va_cpy ((G 0) 1) ((va_up (G 2) 0 (va_cpy ((G 0) 0) ((G 2) 0) 0 0 4)) 1) 0 0 4)) 2 (va_cpy ((G 0) 2) ((va_up (va_up (G 2) 0 (va_cpy ((G 0) 0) ((G 2) 0) 0 0 4)) 1 (va_cpy ((G 0) 1) ((va_up (G 2) 0 (va_cpy ((G 0) 0) ((G 2) 0) 0 0 4)) 1) 0 0 4)) 2) 0 0 4)) 3) 0 0 4))) J) H := hP
  have hD : va_D A0 (wLead h cs (va_up I 212 (nI 0)) L A Q (va_up G 2 (va_up (va_up (va_up (va_up (G 2) 0 (va_cpy ((G 0) 0) ((G 2) 0) 0 0 4)) 1 (va_cpy ((G 0) 1) ((va_up (G 2) 0 (va_cpy ((G 0) 0) ((G 2) 0) 0 0 4)) 1) 0 0 4)) 2 (va_cpy ((G 0) 2) ((va_up (va_up (G 2) 0 (va_cpy ((G 0) 0) ((G 2) 0) 0 0 4)) 1 (va_cpy ((G 0) 1) ((va_up (G 2) 0 (va_cpy ((G 0) 0) ((G 2) 0) 0 0 4)) 1) 0 0 4)) 2) 0 0 4)) 3 (va_cpy ((G 0) 3) ((va_up (va_up (va_up (G 2) 0 (va_cpy ((G 0) 0) ((G 2) 0) 0 0 4)) 1 (va_cpy ((G 0) 1) ((va_up (G 2) 0 (va_cpy ((G 0) 0) ((G 2) 0) 0 0 4)) 1) 0 0 4)) 2 (va_cpy ((G 0) 2) ((va_up (va_up (G 2) 0 (va_cpy ((G 0) 0) ((G 2) 0) 0 0 4)) 1 (va_cpy ((G 0) 1) ((va_up (G 2) 0 (va_cpy ((G 0) 0) ((G 2) 0) 0 0 4)) 1) 0 0 4)) 2) 0 0 4)) 3) 0 0 4))) J) := hD
  refine lv_iinc (v := nI 4) (lv' := [(1, .int (nI 4)), (0, .ref (h 108))]) hx hb dX1_begin_33 hl (k := 0) rfl (by decide +kernel) (by decide) rfl (fun ls hl => ?_)
  refine lv_goto (tgt := 7) hx hb dX1_begin_36 (by decide) ?_
  refine lv_iload_n hx hb dX1_begin_7 rfl (lv_at hl 0 rfl) ?_
  refine lv_iconst (v := nI 5) hx hb dX1_begin_8 (by decide) ?_
  refine lv_icmp_ge (tgt := 39) hx hb dX1_begin_9 (by decide) (fun c9 => False.elim (by revert c9; decide +kernel)) (fun _ => ?_)
  refine lv_aload_n hx hb dX1_begin_12 rfl (lv_at hl 1 rfl) ?_
  refine va_get (D := (dC, dI)) (ci := 1) (v := .ref (h 101)) (C := RX1) (T := TX1) (N := 6) hx hb hts hinX1 hown hK hP 0 rfl rfl 0 (by decide) (hts (.fieldLink RX1 27 "MixedWords$Leader" "mix" "LMixedWords$Mix;") (by decide +kernel)) (fun _ h9 => h9) rfl dX1_begin_13 ?_
  refine va_get (D := (dC, dI)) (ci := 3) (v := .ref (h 130)) (C := RX3) (T := TX3) (N := 6) hx hb hts hinX3 hown hK hP 13 rfl rfl 4 (by decide) (hts (.fieldLink RX1 44 "MixedWords$Mix" "cells" "[[I") (by decide +kernel)) (fun _ h9 => h9) rfl dX1_begin_16 ?_
  refine lv_iload_n hx hb dX1_begin_19 rfl (lv_at hl 0 rfl) ?_
  refine xa_aald (b := h 135) hx hb hK hP 14 3 rfl rfl rfl (by omega) (by decide) (if_pos (by omega)) dX1_begin_20 ?_
  refine lv_iconst (v := nI 0) hx hb dX1_begin_21 (by decide) ?_
  refine lv_aload_n hx hb dX1_begin_22 rfl (lv_at hl 1 rfl) ?_
  refine va_get (D := (dC, dI)) (ci := 1) (v := .ref (h 200)) (C := RX1) (T := TX1) (N := 6) hx hb hts hinX1 hown hK hP 0 rfl rfl 1 (by decide) (hts (.fieldLink RX1 11 "MixedWords$Leader" "columns" "[[I") (by decide +kernel)) (fun _ h9 => h9) rfl dX1_begin_23 ?_
  refine lv_iload_n hx hb dX1_begin_26 rfl (lv_at hl 0 rfl) ?_
  refine xa_aald (b := h 205) hx hb hK hP 1 3 rfl rfl rfl (by omega) (by decide) (if_pos (by omega)) dX1_begin_27 ?_
  refine lv_iconst (v := nI 0) hx hb dX1_begin_28 (by decide) ?_
  refine lv_iconst (v := nI 4) hx hb dX1_begin_29 (by decide) ?_
  refine xa_copy (cA := cs 0) hx hb (hml.trans hl.1.symm) hown (hts (.methodLink RX1 47 arraycopyName) (by decide +kernel)) (hts (.native arraycopyName) (by decide +kernel)) (hts (.static arraycopyName) (by decide +kernel)) (hts (.initialized "java/lang/System") (by decide +kernel)) hK hP hD hS 19 6 rfl rfl (by omega) (by omega) (by decide) (by decide) (Nat.le_of_ble_eq_true rfl) (Nat.le_of_ble_eq_true rfl) dX1_begin_30 (fun H locs hP hD hS => ?_)
  have hP : va_P (dC, dI) vwCl (wLead h cs (va_up I 212 (nI 0)) L A Q (va_up G 2 (va_up (va_up (va_up (va_up (va_up (G 2) 0 (va_cpy ((G 0) 0) ((G 2) 0) 0 0 4)) 1 (va_cpy ((G 0) 1) ((va_up (G 2) 0 (va_cpy ((G 0) 0) ((G 2) 0) 0 0 4)) 1) 0 0 4)) 2 (va_cpy ((G 0) 2) ((va_up (va_up (G 2) 0 (va_cpy ((G 0) 0) ((G 2) 0) 0 0 4)) 1 (va_cpy ((G 0) 1) ((va_up (G 2) 0 (va_cpy ((G 0) 0) ((G 2) 0) 0 0 4)) 1) 0 0 4)) 2) 0 0 4)) 3 (va_cpy ((G 0) 3) ((va_up (va_up (va_up (G 2) 0 (va_cpy ((G 0) 0) ((G 2) 0) 0 0 4)) 1 (va_cpy ((G 0) 1) ((va_up (G 2) 0 (va_cpy ((G 0) 0) ((G 2) 0) 0 0 4)) 1) 0 0 4)) 2 (va_cpy ((G 0) 2) ((va_up (va_up (G 2) 0 (va_cpy ((G 0) 0) ((G 2) 0) 0 0 4)) 1 (va_cpy ((G 0) 1) ((va_up (G 2) 0 (va_cpy ((G 0) 0) ((G 2) 0) 0 0 4)) 1) 0 0 4)) 2) 0 0 4)) 3) 0 0 4)) 4 (va_cpy ((G 0) 4) ((va_up (va_up (va_up (va_up (G 2) 0 (va_cpy ((G 0) 0) ((G 2) 0) 0 0 4)) 1 (va_cpy ((G 0) 1) ((va_up (G 2) 0 (va_cpy ((G 0) 0) ((G 2) 0) 0 0 4)) 1) 0 0 4)) 2 (va_cpy ((G 0) 2) ((va_up (va_up (G 2) 0 (va_cpy ((G 0) 0) ((G 2) 0) 0 0 4)) 1 (va_cpy ((G 0) 1) ((va_up (G 2) 0 (va_cpy ((G 0) 0) ((G 2) 0) 0 0 4)) 1) 0 0 4)) 2) 0 0 4)) 3 (va_cpy ((G 0) 3) ((va_up (va_up (va_up (G 2) 0 (va_cpy ((G 0) 0) ((G 2) 0) 0 0 4)) 1 (va_cpy ((G 0) 1) ((va_up (G 2) 0 (va_cpy ((G 0) 0) ((G 2) 0) 0 0 4)) 1) 0 0 4)) 2 (va_cpy ((G 0) 2) ((va_up (va_up (G 2) 0 (va_cpy ((G 0) 0) ((G 2) 0) 0 0 4)) 1 (va_cpy ((G 0) 1) ((va_up (G 2) 0 (va_cpy ((G 0) 0) ((G 2) 0) 0 0 4)) 1) 0 0 4)) 2) 0 0 4)) 3) 0 0 4)) 4) 0 0 4))) J) H := hP
  have hD : va_D A0 (wLead h cs (va_up I 212 (nI 0)) L A Q (va_up G 2 (va_up (va_up (va_up (va_up (va_up (G 2) 0 (va_cpy ((G 0) 0) ((G 2) 0) 0 0 4)) 1 (va_cpy ((G 0) 1) ((va_up (G 2) 0 (va_cpy ((G 0) 0) ((G 2) 0) 0 0 4)) 1) 0 0 4)) 2 (va_cpy ((G 0) 2) ((va_up (va_up (G 2) 0 (va_cpy ((G 0) 0) ((G 2) 0) 0 0 4)) 1 (va_cpy ((G 0) 1) ((va_up (G 2) 0 (va_cpy ((G 0) 0) ((G 2) 0) 0 0 4)) 1) 0 0 4)) 2) 0 0 4)) 3 (va_cpy ((G 0) 3) ((va_up (va_up (va_up (G 2) 0 (va_cpy ((G 0) 0) ((G 2) 0) 0 0 4)) 1 (va_cpy ((G 0) 1) ((va_up (G 2) 0 (va_cpy ((G 0) 0) ((G 2) 0) 0 0 4)) 1) 0 0 4)) 2 (va_cpy ((G 0) 2) ((va_up (va_up (G 2) 0 (va_cpy ((G 0) 0) ((G 2) 0) 0 0 4)) 1 (va_cpy ((G 0) 1) ((va_up (G 2) 0 (va_cpy ((G 0) 0) ((G 2) 0) 0 0 4)) 1) 0 0 4)) 2) 0 0 4)) 3) 0 0 4)) 4 (va_cpy ((G 0) 4) ((va_up (va_up (va_up (va_up (G 2) 0 (va_cpy ((G 0) 0) ((G 2) 0) 0 0 4)) 1 (va_cpy ((G 0) 1) ((va_up (G 2) 0 (va_cpy ((G 0) 0) ((G 2) 0) 0 0 4)) 1) 0 0 4)) 2 (va_cpy ((G 0) 2) ((va_up (va_up (G 2) 0 (va_cpy ((G 0) 0) ((G 2) 0) 0 0 4)) 1 (va_cpy ((G 0) 1) ((va_up (G 2) 0 (va_cpy ((G 0) 0) ((G 2) 0) 0 0 4)) 1) 0 0 4)) 2) 0 0 4)) 3 (va_cpy ((G 0) 3) ((va_up (va_up (va_up (G 2) 0 (va_cpy ((G 0) 0) ((G 2) 0) 0 0 4)) 1 (va_cpy ((G 0) 1) ((va_up (G 2) 0 (va_cpy ((G 0) 0) ((G 2) 0) 0 0 4)) 1) 0 0 4)) 2 (va_cpy ((G 0) 2) ((va_up (va_up (G 2) 0 (va_cpy ((G 0) 0) ((G 2) 0) 0 0 4)) 1 (va_cpy ((G 0) 1) ((va_up (G 2) 0 (va_cpy ((G 0) 0) ((G 2) 0) 0 0 4)) 1) 0 0 4)) 2) 0 0 4)) 3) 0 0 4)) 4) 0 0 4))) J) := hD
  refine lv_iinc (v := nI 5) (lv' := [(1, .int (nI 5)), (0, .ref (h 108))]) hx hb dX1_begin_33 hl (k := 0) rfl (by decide +kernel) (by decide) rfl (fun ls hl => ?_)
  refine lv_goto (tgt := 7) hx hb dX1_begin_36 (by decide) ?_
  refine lv_iload_n hx hb dX1_begin_7 rfl (lv_at hl 0 rfl) ?_
  refine lv_iconst (v := nI 5) hx hb dX1_begin_8 (by decide) ?_
  refine lv_icmp_ge (tgt := 39) hx hb dX1_begin_9 (by decide) (fun _ => ?_) (fun c9 => False.elim (by revert c9; decide +kernel))
  refine lv_iconst (v := nI 0) hx hb dX1_begin_39 (by decide) ?_
  refine lv_istore_n (lv' := [(1, .int (nI 0)), (0, .ref (h 108))]) hx hb dX1_begin_40 rfl hl (by decide) rfl (fun ls hl => ?_)
  have cut_41 : ∀ (nf : Nat) (n : Nat) (g3 : Nat → Nat → Int32), (4 - n) < nf → (n ≤ 4) → (∀ a b : Nat, b < 4 → (a < n ∨ (a = n ∧ b < 0)) → g3 a b = if a = b then nI 1 else nI 0) → ∀ (H : Heap) (locs : List Loc) (ls : Array Slot), va_P (dC, dI) vwCl (wLead h cs (va_up I 212 (nI 0)) L A Q (va_up (va_up G 2 (va_up (va_up (va_up (va_up (va_up (G 2) 0 (va_cpy ((G 0) 0) ((G 2) 0) 0 0 4)) 1 (va_cpy ((G 0) 1) ((va_up (G 2) 0 (va_cpy ((G 0) 0) ((G 2) 0) 0 0 4)) 1) 0 0 4)) 2 (va_cpy ((G 0) 2) ((va_up (va_up (G 2) 0 (va_cpy ((G 0) 0) ((G 2) 0) 0 0 4)) 1 (va_cpy ((G 0) 1) ((va_up (G 2) 0 (va_cpy ((G 0) 0) ((G 2) 0) 0 0 4)) 1) 0 0 4)) 2) 0 0 4)) 3 (va_cpy ((G 0) 3) ((va_up (va_up (va_up (G 2) 0 (va_cpy ((G 0) 0) ((G 2) 0) 0 0 4)) 1 (va_cpy ((G 0) 1) ((va_up (G 2) 0 (va_cpy ((G 0) 0) ((G 2) 0) 0 0 4)) 1) 0 0 4)) 2 (va_cpy ((G 0) 2) ((va_up (va_up (G 2) 0 (va_cpy ((G 0) 0) ((G 2) 0) 0 0 4)) 1 (va_cpy ((G 0) 1) ((va_up (G 2) 0 (va_cpy ((G 0) 0) ((G 2) 0) 0 0 4)) 1) 0 0 4)) 2) 0 0 4)) 3) 0 0 4)) 4 (va_cpy ((G 0) 4) ((va_up (va_up (va_up (va_up (G 2) 0 (va_cpy ((G 0) 0) ((G 2) 0) 0 0 4)) 1 (va_cpy ((G 0) 1) ((va_up (G 2) 0 (va_cpy ((G 0) 0) ((G 2) 0) 0 0 4)) 1) 0 0 4)) 2 (va_cpy ((G 0) 2) ((va_up (va_up (G 2) 0 (va_cpy ((G 0) 0) ((G 2) 0) 0 0 4)) 1 (va_cpy ((G 0) 1) ((va_up (G 2) 0 (va_cpy ((G 0) 0) ((G 2) 0) 0 0 4)) 1) 0 0 4)) 2) 0 0 4)) 3 (va_cpy ((G 0) 3) ((va_up (va_up (va_up (G 2) 0 (va_cpy ((G 0) 0) ((G 2) 0) 0 0 4)) 1 (va_cpy ((G 0) 1) ((va_up (G 2) 0 (va_cpy ((G 0) 0) ((G 2) 0) 0 0 4)) 1) 0 0 4)) 2 (va_cpy ((G 0) 2) ((va_up (va_up (G 2) 0 (va_cpy ((G 0) 0) ((G 2) 0) 0 0 4)) 1 (va_cpy ((G 0) 1) ((va_up (G 2) 0 (va_cpy ((G 0) 0) ((G 2) 0) 0 0 4)) 1) 0 0 4)) 2) 0 0 4)) 3) 0 0 4)) 4) 0 0 4))) 3 g3) J) H → va_D A0 (wLead h cs (va_up I 212 (nI 0)) L A Q (va_up (va_up G 2 (va_up (va_up (va_up (va_up (va_up (G 2) 0 (va_cpy ((G 0) 0) ((G 2) 0) 0 0 4)) 1 (va_cpy ((G 0) 1) ((va_up (G 2) 0 (va_cpy ((G 0) 0) ((G 2) 0) 0 0 4)) 1) 0 0 4)) 2 (va_cpy ((G 0) 2) ((va_up (va_up (G 2) 0 (va_cpy ((G 0) 0) ((G 2) 0) 0 0 4)) 1 (va_cpy ((G 0) 1) ((va_up (G 2) 0 (va_cpy ((G 0) 0) ((G 2) 0) 0 0 4)) 1) 0 0 4)) 2) 0 0 4)) 3 (va_cpy ((G 0) 3) ((va_up (va_up (va_up (G 2) 0 (va_cpy ((G 0) 0) ((G 2) 0) 0 0 4)) 1 (va_cpy ((G 0) 1) ((va_up (G 2) 0 (va_cpy ((G 0) 0) ((G 2) 0) 0 0 4)) 1) 0 0 4)) 2 (va_cpy ((G 0) 2) ((va_up (va_up (G 2) 0 (va_cpy ((G 0) 0) ((G 2) 0) 0 0 4)) 1 (va_cpy ((G 0) 1) ((va_up (G 2) 0 (va_cpy ((G 0) 0) ((G 2) 0) 0 0 4)) 1) 0 0 4)) 2) 0 0 4)) 3) 0 0 4)) 4 (va_cpy ((G 0) 4) ((va_up (va_up (va_up (va_up (G 2) 0 (va_cpy ((G 0) 0) ((G 2) 0) 0 0 4)) 1 (va_cpy ((G 0) 1) ((va_up (G 2) 0 (va_cpy ((G 0) 0) ((G 2) 0) 0 0 4)) 1) 0 0 4)) 2 (va_cpy ((G 0) 2) ((va_up (va_up (G 2) 0 (va_cpy ((G 0) 0) ((G 2) 0) 0 0 4)) 1 (va_cpy ((G 0) 1) ((va_up (G 2) 0 (va_cpy ((G 0) 0) ((G 2) 0) 0 0 4)) 1) 0 0 4)) 2) 0 0 4)) 3 (va_cpy ((G 0) 3) ((va_up (va_up (va_up (G 2) 0 (va_cpy ((G 0) 0) ((G 2) 0) 0 0 4)) 1 (va_cpy ((G 0) 1) ((va_up (G 2) 0 (va_cpy ((G 0) 0) ((G 2) 0) 0 0 4)) 1) 0 0 4)) 2 (va_cpy ((G 0) 2) ((va_up (va_up (G 2) 0 (va_cpy ((G 0) 0) ((G 2) 0) 0 0 4)) 1 (va_cpy ((G 0) 1) ((va_up (G 2) 0 (va_cpy ((G 0) 0) ((G 2) 0) 0 0 4)) 1) 0 0 4)) 2) 0 0 4)) 3) 0 0 4)) 4) 0 0 4))) 3 g3) J) → va_S A0 s.heap H locs → lv_has ls 3 [(0, .ref (h 108)), (1, .int (nI n))] → W p l e (headSpec wsX1_begin ({ frames := 1, cells := 0, slots := 0, locals := 60 })).room s m ([.ref (h 108)] : List Value).toArray below meth c H locs 0 0 (MQ below (va_Qv (fun (u : CS) => ∃ i212 : Int32, ∃ g2 : Nat → Nat → Int32, ∃ g3 : Nat → Nat → Int32, (i212 = nI 0 ∧ (∀ r c : Nat, r < 5 → c < 4 → g2 r c = G 0 r c) ∧ ∀ k c : Nat, k < 4 → c < 4 → g3 k c = if k = c then nI 1 else nI 0) ∧ u = ((va_up I 212 i212), L, A, Q, (va_up (va_up G 2 g2) 3 g3), J)) (xB (dC, dI) (tysA cs) A0 (fun u : CS => wLead h cs u.1 u.2.1 u.2.2.1 u.2.2.2.1 u.2.2.2.2.1 u.2.2.2.2.2)) A0) ([.ref (h 108)] : List Value).toArray s 0 0 A0) (F0 m 41 ls []) := by
    intro nf
    induction nf with
    | zero => intro n g3 hm; exact absurd hm (Nat.not_lt_zero _)
    | succ nf ih_41 =>
      intro n g3 hm_41 hn41 hb41 H locs ls hP hD hS hl
      refine lv_iload_n hx hb dX1_begin_41 rfl (lv_at hl 1 rfl) ?_
      refine lv_iconst (v := nI 4) hx hb dX1_begin_42 (by decide) ?_
      refine xn_ge (tgt := 83) hx hb dX1_begin_43 (by decide) (by omega) (by omega) (fun c_43_0 => ?_) (fun c_43_0 => ?_)
      · skip
        exact xr_v hx hb hr hlocks hK hS dX1_begin_83 ((va_up I 212 (nI 0)), L, A, Q, (va_up (va_up G 2 (va_up (va_up (va_up (va_up (va_up (G 2) 0 (va_cpy ((G 0) 0) ((G 2) 0) 0 0 4)) 1 (va_cpy ((G 0) 1) ((va_up (G 2) 0 (va_cpy ((G 0) 0) ((G 2) 0) 0 0 4)) 1) 0 0 4)) 2 (va_cpy ((G 0) 2) ((va_up (va_up (G 2) 0 (va_cpy ((G 0) 0) ((G 2) 0) 0 0 4)) 1 (va_cpy ((G 0) 1) ((va_up (G 2) 0 (va_cpy ((G 0) 0) ((G 2) 0) 0 0 4)) 1) 0 0 4)) 2) 0 0 4)) 3 (va_cpy ((G 0) 3) ((va_up (va_up (va_up (G 2) 0 (va_cpy ((G 0) 0) ((G 2) 0) 0 0 4)) 1 (va_cpy ((G 0) 1) ((va_up (G 2) 0 (va_cpy ((G 0) 0) ((G 2) 0) 0 0 4)) 1) 0 0 4)) 2 (va_cpy ((G 0) 2) ((va_up (va_up (G 2) 0 (va_cpy ((G 0) 0) ((G 2) 0) 0 0 4)) 1 (va_cpy ((G 0) 1) ((va_up (G 2) 0 (va_cpy ((G 0) 0) ((G 2) 0) 0 0 4)) 1) 0 0 4)) 2) 0 0 4)) 3) 0 0 4)) 4 (va_cpy ((G 0) 4) ((va_up (va_up (va_up (va_up (G 2) 0 (va_cpy ((G 0) 0) ((G 2) 0) 0 0 4)) 1 (va_cpy ((G 0) 1) ((va_up (G 2) 0 (va_cpy ((G 0) 0) ((G 2) 0) 0 0 4)) 1) 0 0 4)) 2 (va_cpy ((G 0) 2) ((va_up (va_up (G 2) 0 (va_cpy ((G 0) 0) ((G 2) 0) 0 0 4)) 1 (va_cpy ((G 0) 1) ((va_up (G 2) 0 (va_cpy ((G 0) 0) ((G 2) 0) 0 0 4)) 1) 0 0 4)) 2) 0 0 4)) 3 (va_cpy ((G 0) 3) ((va_up (va_up (va_up (G 2) 0 (va_cpy ((G 0) 0) ((G 2) 0) 0 0 4)) 1 (va_cpy ((G 0) 1) ((va_up (G 2) 0 (va_cpy ((G 0) 0) ((G 2) 0) 0 0 4)) 1) 0 0 4)) 2 (va_cpy ((G 0) 2) ((va_up (va_up (G 2) 0 (va_cpy ((G 0) 0) ((G 2) 0) 0 0 4)) 1 (va_cpy ((G 0) 1) ((va_up (G 2) 0 (va_cpy ((G 0) 0) ((G 2) 0) 0 0 4)) 1) 0 0 4)) 2) 0 0 4)) 3) 0 0 4)) 4) 0 0 4))) 3 g3), J) ⟨(nI 0), (va_up (va_up (va_up (va_up (va_up (G 2) 0 (va_cpy ((G 0) 0) ((G 2) 0) 0 0 4)) 1 (va_cpy ((G 0) 1) ((va_up (G 2) 0 (va_cpy ((G 0) 0) ((G 2) 0) 0 0 4)) 1) 0 0 4)) 2 (va_cpy ((G 0) 2) ((va_up (va_up (G 2) 0 (va_cpy ((G 0) 0) ((G 2) 0) 0 0 4)) 1 (va_cpy ((G 0) 1) ((va_up (G 2) 0 (va_cpy ((G 0) 0) ((G 2) 0) 0 0 4)) 1) 0 0 4)) 2) 0 0 4)) 3 (va_cpy ((G 0) 3) ((va_up (va_up (va_up (G 2) 0 (va_cpy ((G 0) 0) ((G 2) 0) 0 0 4)) 1 (va_cpy ((G 0) 1) ((va_up (G 2) 0 (va_cpy ((G 0) 0) ((G 2) 0) 0 0 4)) 1) 0 0 4)) 2 (va_cpy ((G 0) 2) ((va_up (va_up (G 2) 0 (va_cpy ((G 0) 0) ((G 2) 0) 0 0 4)) 1 (va_cpy ((G 0) 1) ((va_up (G 2) 0 (va_cpy ((G 0) 0) ((G 2) 0) 0 0 4)) 1) 0 0 4)) 2) 0 0 4)) 3) 0 0 4)) 4 (va_cpy ((G 0) 4) ((va_up (va_up (va_up (va_up (G 2) 0 (va_cpy ((G 0) 0) ((G 2) 0) 0 0 4)) 1 (va_cpy ((G 0) 1) ((va_up (G 2) 0 (va_cpy ((G 0) 0) ((G 2) 0) 0 0 4)) 1) 0 0 4)) 2 (va_cpy ((G 0) 2) ((va_up (va_up (G 2) 0 (va_cpy ((G 0) 0) ((G 2) 0) 0 0 4)) 1 (va_cpy ((G 0) 1) ((va_up (G 2) 0 (va_cpy ((G 0) 0) ((G 2) 0) 0 0 4)) 1) 0 0 4)) 2) 0 0 4)) 3 (va_cpy ((G 0) 3) ((va_up (va_up (va_up (G 2) 0 (va_cpy ((G 0) 0) ((G 2) 0) 0 0 4)) 1 (va_cpy ((G 0) 1) ((va_up (G 2) 0 (va_cpy ((G 0) 0) ((G 2) 0) 0 0 4)) 1) 0 0 4)) 2 (va_cpy ((G 0) 2) ((va_up (va_up (G 2) 0 (va_cpy ((G 0) 0) ((G 2) 0) 0 0 4)) 1 (va_cpy ((G 0) 1) ((va_up (G 2) 0 (va_cpy ((G 0) 0) ((G 2) 0) 0 0 4)) 1) 0 0 4)) 2) 0 0 4)) 3) 0 0 4)) 4) 0 0 4)), g3, ⟨rfl, by
        intro r c hr hc
        rcases (show r = 0 ∨ r = 1 ∨ r = 2 ∨ r = 3 ∨ r = 4 by omega) with rfl | rfl | rfl | rfl | rfl <;> (show va_cpy _ _ _ _ _ c = _; rw [va_cpy, if_pos (by omega), show 0 + (c - 0) = c by omega]), fun k9 c hk9 hc => hb41 k9 c hc (Or.inl (by omega))⟩, rfl⟩ hP hD
      · skip
        refine lv_iconst (v := nI 0) hx hb dX1_begin_46 (by decide) ?_
        refine lv_istore_n (lv' := [(2, .int (nI 0)), (0, .ref (h 108)), (1, .int (nI n))]) hx hb dX1_begin_47 rfl hl (by decide) rfl (fun ls hl => ?_)
        have cut_48 : ∀ (nf : Nat) (k : Nat) (h3 : Nat → Nat → Int32), (4 - k) < nf → (k ≤ 4) → (∀ a b : Nat, b < 4 → (a < n ∨ (a = n ∧ b < k)) → h3 a b = if a = b then nI 1 else nI 0) → ∀ (H : Heap) (locs : List Loc) (ls : Array Slot), va_P (dC, dI) vwCl (wLead h cs (va_up I 212 (nI 0)) L A Q (va_up (va_up G 2 (va_up (va_up (va_up (va_up (va_up (G 2) 0 (va_cpy ((G 0) 0) ((G 2) 0) 0 0 4)) 1 (va_cpy ((G 0) 1) ((va_up (G 2) 0 (va_cpy ((G 0) 0) ((G 2) 0) 0 0 4)) 1) 0 0 4)) 2 (va_cpy ((G 0) 2) ((va_up (va_up (G 2) 0 (va_cpy ((G 0) 0) ((G 2) 0) 0 0 4)) 1 (va_cpy ((G 0) 1) ((va_up (G 2) 0 (va_cpy ((G 0) 0) ((G 2) 0) 0 0 4)) 1) 0 0 4)) 2) 0 0 4)) 3 (va_cpy ((G 0) 3) ((va_up (va_up (va_up (G 2) 0 (va_cpy ((G 0) 0) ((G 2) 0) 0 0 4)) 1 (va_cpy ((G 0) 1) ((va_up (G 2) 0 (va_cpy ((G 0) 0) ((G 2) 0) 0 0 4)) 1) 0 0 4)) 2 (va_cpy ((G 0) 2) ((va_up (va_up (G 2) 0 (va_cpy ((G 0) 0) ((G 2) 0) 0 0 4)) 1 (va_cpy ((G 0) 1) ((va_up (G 2) 0 (va_cpy ((G 0) 0) ((G 2) 0) 0 0 4)) 1) 0 0 4)) 2) 0 0 4)) 3) 0 0 4)) 4 (va_cpy ((G 0) 4) ((va_up (va_up (va_up (va_up (G 2) 0 (va_cpy ((G 0) 0) ((G 2) 0) 0 0 4)) 1 (va_cpy ((G 0) 1) ((va_up (G 2) 0 (va_cpy ((G 0) 0) ((G 2) 0) 0 0 4)) 1) 0 0 4)) 2 (va_cpy ((G 0) 2) ((va_up (va_up (G 2) 0 (va_cpy ((G 0) 0) ((G 2) 0) 0 0 4)) 1 (va_cpy ((G 0) 1) ((va_up (G 2) 0 (va_cpy ((G 0) 0) ((G 2) 0) 0 0 4)) 1) 0 0 4)) 2) 0 0 4)) 3 (va_cpy ((G 0) 3) ((va_up (va_up (va_up (G 2) 0 (va_cpy ((G 0) 0) ((G 2) 0) 0 0 4)) 1 (va_cpy ((G 0) 1) ((va_up (G 2) 0 (va_cpy ((G 0) 0) ((G 2) 0) 0 0 4)) 1) 0 0 4)) 2 (va_cpy ((G 0) 2) ((va_up (va_up (G 2) 0 (va_cpy ((G 0) 0) ((G 2) 0) 0 0 4)) 1 (va_cpy ((G 0) 1) ((va_up (G 2) 0 (va_cpy ((G 0) 0) ((G 2) 0) 0 0 4)) 1) 0 0 4)) 2) 0 0 4)) 3) 0 0 4)) 4) 0 0 4))) 3 h3) J) H → va_D A0 (wLead h cs (va_up I 212 (nI 0)) L A Q (va_up (va_up G 2 (va_up (va_up (va_up (va_up (va_up (G 2) 0 (va_cpy ((G 0) 0) ((G 2) 0) 0 0 4)) 1 (va_cpy ((G 0) 1) ((va_up (G 2) 0 (va_cpy ((G 0) 0) ((G 2) 0) 0 0 4)) 1) 0 0 4)) 2 (va_cpy ((G 0) 2) ((va_up (va_up (G 2) 0 (va_cpy ((G 0) 0) ((G 2) 0) 0 0 4)) 1 (va_cpy ((G 0) 1) ((va_up (G 2) 0 (va_cpy ((G 0) 0) ((G 2) 0) 0 0 4)) 1) 0 0 4)) 2) 0 0 4)) 3 (va_cpy ((G 0) 3) ((va_up (va_up (va_up (G 2) 0 (va_cpy ((G 0) 0) ((G 2) 0) 0 0 4)) 1 (va_cpy ((G 0) 1) ((va_up (G 2) 0 (va_cpy ((G 0) 0) ((G 2) 0) 0 0 4)) 1) 0 0 4)) 2 (va_cpy ((G 0) 2) ((va_up (va_up (G 2) 0 (va_cpy ((G 0) 0) ((G 2) 0) 0 0 4)) 1 (va_cpy ((G 0) 1) ((va_up (G 2) 0 (va_cpy ((G 0) 0) ((G 2) 0) 0 0 4)) 1) 0 0 4)) 2) 0 0 4)) 3) 0 0 4)) 4 (va_cpy ((G 0) 4) ((va_up (va_up (va_up (va_up (G 2) 0 (va_cpy ((G 0) 0) ((G 2) 0) 0 0 4)) 1 (va_cpy ((G 0) 1) ((va_up (G 2) 0 (va_cpy ((G 0) 0) ((G 2) 0) 0 0 4)) 1) 0 0 4)) 2 (va_cpy ((G 0) 2) ((va_up (va_up (G 2) 0 (va_cpy ((G 0) 0) ((G 2) 0) 0 0 4)) 1 (va_cpy ((G 0) 1) ((va_up (G 2) 0 (va_cpy ((G 0) 0) ((G 2) 0) 0 0 4)) 1) 0 0 4)) 2) 0 0 4)) 3 (va_cpy ((G 0) 3) ((va_up (va_up (va_up (G 2) 0 (va_cpy ((G 0) 0) ((G 2) 0) 0 0 4)) 1 (va_cpy ((G 0) 1) ((va_up (G 2) 0 (va_cpy ((G 0) 0) ((G 2) 0) 0 0 4)) 1) 0 0 4)) 2 (va_cpy ((G 0) 2) ((va_up (va_up (G 2) 0 (va_cpy ((G 0) 0) ((G 2) 0) 0 0 4)) 1 (va_cpy ((G 0) 1) ((va_up (G 2) 0 (va_cpy ((G 0) 0) ((G 2) 0) 0 0 4)) 1) 0 0 4)) 2) 0 0 4)) 3) 0 0 4)) 4) 0 0 4))) 3 h3) J) → va_S A0 s.heap H locs → lv_has ls 3 [(0, .ref (h 108)), (1, .int (nI n)), (2, .int (nI k))] → W p l e (headSpec wsX1_begin ({ frames := 1, cells := 0, slots := 0, locals := 60 })).room s m ([.ref (h 108)] : List Value).toArray below meth c H locs 0 0 (MQ below (va_Qv (fun (u : CS) => ∃ i212 : Int32, ∃ g2 : Nat → Nat → Int32, ∃ g3 : Nat → Nat → Int32, (i212 = nI 0 ∧ (∀ r c : Nat, r < 5 → c < 4 → g2 r c = G 0 r c) ∧ ∀ k c : Nat, k < 4 → c < 4 → g3 k c = if k = c then nI 1 else nI 0) ∧ u = ((va_up I 212 i212), L, A, Q, (va_up (va_up G 2 g2) 3 g3), J)) (xB (dC, dI) (tysA cs) A0 (fun u : CS => wLead h cs u.1 u.2.1 u.2.2.1 u.2.2.2.1 u.2.2.2.2.1 u.2.2.2.2.2)) A0) ([.ref (h 108)] : List Value).toArray s 0 0 A0) (F0 m 48 ls []) := by
          intro nf
          induction nf with
          | zero => intro k h3 hm; exact absurd hm (Nat.not_lt_zero _)
          | succ nf ih_48 =>
            intro k h3 hm_48 hk48 hb48 H locs ls hP hD hS hl
            refine lv_iload_n hx hb dX1_begin_48 rfl (lv_at hl 2 rfl) ?_
            refine lv_iconst (v := nI 4) hx hb dX1_begin_49 (by decide) ?_
            refine xn_ge (tgt := 77) hx hb dX1_begin_50 (by decide) (by omega) (by omega) (fun c_50_1 => ?_) (fun c_50_1 => ?_)
            · skip
              refine lv_iinc (v := nI (n + 1)) (lv' := [(1, .int (nI (n + 1))), (0, .ref (h 108)), (2, .int (nI k))]) hx hb dX1_begin_77 hl (k := 1) rfl (nI_1 _) (by decide) rfl (fun ls hl => ?_)
              refine lv_goto (tgt := 41) hx hb dX1_begin_80 (by decide) ?_
              exact ih_41 (n + 1) h3 (by omega) (by first | assumption | omega) (by first | (intro a b hb hab; omega) | exact (fun a b hb hab => hb48 a b hb (by omega))) _ _ _ hP hD hS (lv_sub hl [1, 0] rfl)
            · skip
              refine lv_aload_n hx hb dX1_begin_53 rfl (lv_at hl 0 rfl) ?_
              refine va_get (D := (dC, dI)) (ci := 1) (v := .ref (h 206)) (C := RX1) (T := TX1) (N := 6) hx hb hts hinX1 hown hK hP 0 rfl rfl 2 (by decide) (hts (.fieldLink RX1 16 "MixedWords$Leader" "steps" "[[I") (by decide +kernel)) (fun _ h9 => h9) rfl dX1_begin_54 ?_
              refine lv_iload_n hx hb dX1_begin_57 rfl (lv_at hl 1 rfl) ?_
              refine xa_aald (b := h (n + 207)) hx hb hK hP 7 3 rfl rfl rfl (by omega) (by decide) (if_pos (by omega)) dX1_begin_58 ?_
              refine lv_iload_n hx hb dX1_begin_59 rfl (lv_at hl 2 rfl) ?_
              refine lv_iload_n hx hb dX1_begin_60 rfl (lv_at hl 1 rfl) ?_
              refine lv_iload_n hx hb dX1_begin_61 rfl (lv_at hl 2 rfl) ?_
              refine xn_ne (tgt := 69) hx hb dX1_begin_62 (by decide) (by omega) (by omega) (fun c_62_2 => ?_) (fun c_62_2 => ?_)
              · skip
                refine lv_iconst (v := nI 0) hx hb dX1_begin_69 (by decide) ?_
                refine xa_iast hx hb hK hP hD hS (8 + n) 0 (wLead_atG3 (by omega)) rfl (by omega) (by decide) dX1_begin_70 (fun H locs hP hD hS => ?_)
                rw [wLead_setG3 (by omega)] at hP hD
                have hP : va_P (dC, dI) vwCl (wLead h cs (va_up I 212 (nI 0)) L A Q (va_up (va_up G 2 (va_up (va_up (va_up (va_up (va_up (G 2) 0 (va_cpy ((G 0) 0) ((G 2) 0) 0 0 4)) 1 (va_cpy ((G 0) 1) ((va_up (G 2) 0 (va_cpy ((G 0) 0) ((G 2) 0) 0 0 4)) 1) 0 0 4)) 2 (va_cpy ((G 0) 2) ((va_up (va_up (G 2) 0 (va_cpy ((G 0) 0) ((G 2) 0) 0 0 4)) 1 (va_cpy ((G 0) 1) ((va_up (G 2) 0 (va_cpy ((G 0) 0) ((G 2) 0) 0 0 4)) 1) 0 0 4)) 2) 0 0 4)) 3 (va_cpy ((G 0) 3) ((va_up (va_up (va_up (G 2) 0 (va_cpy ((G 0) 0) ((G 2) 0) 0 0 4)) 1 (va_cpy ((G 0) 1) ((va_up (G 2) 0 (va_cpy ((G 0) 0) ((G 2) 0) 0 0 4)) 1) 0 0 4)) 2 (va_cpy ((G 0) 2) ((va_up (va_up (G 2) 0 (va_cpy ((G 0) 0) ((G 2) 0) 0 0 4)) 1 (va_cpy ((G 0) 1) ((va_up (G 2) 0 (va_cpy ((G 0) 0) ((G 2) 0) 0 0 4)) 1) 0 0 4)) 2) 0 0 4)) 3) 0 0 4)) 4 (va_cpy ((G 0) 4) ((va_up (va_up (va_up (va_up (G 2) 0 (va_cpy ((G 0) 0) ((G 2) 0) 0 0 4)) 1 (va_cpy ((G 0) 1) ((va_up (G 2) 0 (va_cpy ((G 0) 0) ((G 2) 0) 0 0 4)) 1) 0 0 4)) 2 (va_cpy ((G 0) 2) ((va_up (va_up (G 2) 0 (va_cpy ((G 0) 0) ((G 2) 0) 0 0 4)) 1 (va_cpy ((G 0) 1) ((va_up (G 2) 0 (va_cpy ((G 0) 0) ((G 2) 0) 0 0 4)) 1) 0 0 4)) 2) 0 0 4)) 3 (va_cpy ((G 0) 3) ((va_up (va_up (va_up (G 2) 0 (va_cpy ((G 0) 0) ((G 2) 0) 0 0 4)) 1 (va_cpy ((G 0) 1) ((va_up (G 2) 0 (va_cpy ((G 0) 0) ((G 2) 0) 0 0 4)) 1) 0 0 4)) 2 (va_cpy ((G 0) 2) ((va_up (va_up (G 2) 0 (va_cpy ((G 0) 0) ((G 2) 0) 0 0 4)) 1 (va_cpy ((G 0) 1) ((va_up (G 2) 0 (va_cpy ((G 0) 0) ((G 2) 0) 0 0 4)) 1) 0 0 4)) 2) 0 0 4)) 3) 0 0 4)) 4) 0 0 4))) 3 (va_up h3 n (upd (h3 n) k (nI 0)))) J) H := hP
                have hD : va_D A0 (wLead h cs (va_up I 212 (nI 0)) L A Q (va_up (va_up G 2 (va_up (va_up (va_up (va_up (va_up (G 2) 0 (va_cpy ((G 0) 0) ((G 2) 0) 0 0 4)) 1 (va_cpy ((G 0) 1) ((va_up (G 2) 0 (va_cpy ((G 0) 0) ((G 2) 0) 0 0 4)) 1) 0 0 4)) 2 (va_cpy ((G 0) 2) ((va_up (va_up (G 2) 0 (va_cpy ((G 0) 0) ((G 2) 0) 0 0 4)) 1 (va_cpy ((G 0) 1) ((va_up (G 2) 0 (va_cpy ((G 0) 0) ((G 2) 0) 0 0 4)) 1) 0 0 4)) 2) 0 0 4)) 3 (va_cpy ((G 0) 3) ((va_up (va_up (va_up (G 2) 0 (va_cpy ((G 0) 0) ((G 2) 0) 0 0 4)) 1 (va_cpy ((G 0) 1) ((va_up (G 2) 0 (va_cpy ((G 0) 0) ((G 2) 0) 0 0 4)) 1) 0 0 4)) 2 (va_cpy ((G 0) 2) ((va_up (va_up (G 2) 0 (va_cpy ((G 0) 0) ((G 2) 0) 0 0 4)) 1 (va_cpy ((G 0) 1) ((va_up (G 2) 0 (va_cpy ((G 0) 0) ((G 2) 0) 0 0 4)) 1) 0 0 4)) 2) 0 0 4)) 3) 0 0 4)) 4 (va_cpy ((G 0) 4) ((va_up (va_up (va_up (va_up (G 2) 0 (va_cpy ((G 0) 0) ((G 2) 0) 0 0 4)) 1 (va_cpy ((G 0) 1) ((va_up (G 2) 0 (va_cpy ((G 0) 0) ((G 2) 0) 0 0 4)) 1) 0 0 4)) 2 (va_cpy ((G 0) 2) ((va_up (va_up (G 2) 0 (va_cpy ((G 0) 0) ((G 2) 0) 0 0 4)) 1 (va_cpy ((G 0) 1) ((va_up (G 2) 0 (va_cpy ((G 0) 0) ((G 2) 0) 0 0 4)) 1) 0 0 4)) 2) 0 0 4)) 3 (va_cpy ((G 0) 3) ((va_up (va_up (va_up (G 2) 0 (va_cpy ((G 0) 0) ((G 2) 0) 0 0 4)) 1 (va_cpy ((G 0) 1) ((va_up (G 2) 0 (va_cpy ((G 0) 0) ((G 2) 0) 0 0 4)) 1) 0 0 4)) 2 (va_cpy ((G 0) 2) ((va_up (va_up (G 2) 0 (va_cpy ((G 0) 0) ((G 2) 0) 0 0 4)) 1 (va_cpy ((G 0) 1) ((va_up (G 2) 0 (va_cpy ((G 0) 0) ((G 2) 0) 0 0 4)) 1) 0 0 4)) 2) 0 0 4)) 3) 0 0 4)) 4) 0 0 4))) 3 (va_up h3 n (upd (h3 n) k (nI 0)))) J) := hD
                refine lv_iinc (v := nI (k + 1)) (lv' := [(2, .int (nI (k + 1))), (0, .ref (h 108)), (1, .int (nI n))]) hx hb dX1_begin_71 hl (k := 2) rfl (nI_1 _) (by decide) rfl (fun ls hl => ?_)
                refine lv_goto (tgt := 48) hx hb dX1_begin_74 (by decide) ?_
                exact ih_48 (k + 1) (va_up h3 n (upd (h3 n) k (nI 0))) (by omega) (by first | assumption | omega) (by first | exact hb41 | exact bg_s (by first | rw [if_pos (by assumption)] | rw [if_neg (by assumption)]) hb48) _ _ _ hP hD hS (lv_sub hl [1, 2, 0] rfl)
              · skip
                refine lv_iconst (v := nI 1) hx hb dX1_begin_65 (by decide) ?_
                refine lv_goto (tgt := 70) hx hb dX1_begin_66 (by decide) ?_
                refine xa_iast hx hb hK hP hD hS (8 + n) 0 (wLead_atG3 (by omega)) rfl (by omega) (by decide) dX1_begin_70 (fun H locs hP hD hS => ?_)
                rw [wLead_setG3 (by omega)] at hP hD
                have hP : va_P (dC, dI) vwCl (wLead h cs (va_up I 212 (nI 0)) L A Q (va_up (va_up G 2 (va_up (va_up (va_up (va_up (va_up (G 2) 0 (va_cpy ((G 0) 0) ((G 2) 0) 0 0 4)) 1 (va_cpy ((G 0) 1) ((va_up (G 2) 0 (va_cpy ((G 0) 0) ((G 2) 0) 0 0 4)) 1) 0 0 4)) 2 (va_cpy ((G 0) 2) ((va_up (va_up (G 2) 0 (va_cpy ((G 0) 0) ((G 2) 0) 0 0 4)) 1 (va_cpy ((G 0) 1) ((va_up (G 2) 0 (va_cpy ((G 0) 0) ((G 2) 0) 0 0 4)) 1) 0 0 4)) 2) 0 0 4)) 3 (va_cpy ((G 0) 3) ((va_up (va_up (va_up (G 2) 0 (va_cpy ((G 0) 0) ((G 2) 0) 0 0 4)) 1 (va_cpy ((G 0) 1) ((va_up (G 2) 0 (va_cpy ((G 0) 0) ((G 2) 0) 0 0 4)) 1) 0 0 4)) 2 (va_cpy ((G 0) 2) ((va_up (va_up (G 2) 0 (va_cpy ((G 0) 0) ((G 2) 0) 0 0 4)) 1 (va_cpy ((G 0) 1) ((va_up (G 2) 0 (va_cpy ((G 0) 0) ((G 2) 0) 0 0 4)) 1) 0 0 4)) 2) 0 0 4)) 3) 0 0 4)) 4 (va_cpy ((G 0) 4) ((va_up (va_up (va_up (va_up (G 2) 0 (va_cpy ((G 0) 0) ((G 2) 0) 0 0 4)) 1 (va_cpy ((G 0) 1) ((va_up (G 2) 0 (va_cpy ((G 0) 0) ((G 2) 0) 0 0 4)) 1) 0 0 4)) 2 (va_cpy ((G 0) 2) ((va_up (va_up (G 2) 0 (va_cpy ((G 0) 0) ((G 2) 0) 0 0 4)) 1 (va_cpy ((G 0) 1) ((va_up (G 2) 0 (va_cpy ((G 0) 0) ((G 2) 0) 0 0 4)) 1) 0 0 4)) 2) 0 0 4)) 3 (va_cpy ((G 0) 3) ((va_up (va_up (va_up (G 2) 0 (va_cpy ((G 0) 0) ((G 2) 0) 0 0 4)) 1 (va_cpy ((G 0) 1) ((va_up (G 2) 0 (va_cpy ((G 0) 0) ((G 2) 0) 0 0 4)) 1) 0 0 4)) 2 (va_cpy ((G 0) 2) ((va_up (va_up (G 2) 0 (va_cpy ((G 0) 0) ((G 2) 0) 0 0 4)) 1 (va_cpy ((G 0) 1) ((va_up (G 2) 0 (va_cpy ((G 0) 0) ((G 2) 0) 0 0 4)) 1) 0 0 4)) 2) 0 0 4)) 3) 0 0 4)) 4) 0 0 4))) 3 (va_up h3 n (upd (h3 n) k (nI 1)))) J) H := hP
                have hD : va_D A0 (wLead h cs (va_up I 212 (nI 0)) L A Q (va_up (va_up G 2 (va_up (va_up (va_up (va_up (va_up (G 2) 0 (va_cpy ((G 0) 0) ((G 2) 0) 0 0 4)) 1 (va_cpy ((G 0) 1) ((va_up (G 2) 0 (va_cpy ((G 0) 0) ((G 2) 0) 0 0 4)) 1) 0 0 4)) 2 (va_cpy ((G 0) 2) ((va_up (va_up (G 2) 0 (va_cpy ((G 0) 0) ((G 2) 0) 0 0 4)) 1 (va_cpy ((G 0) 1) ((va_up (G 2) 0 (va_cpy ((G 0) 0) ((G 2) 0) 0 0 4)) 1) 0 0 4)) 2) 0 0 4)) 3 (va_cpy ((G 0) 3) ((va_up (va_up (va_up (G 2) 0 (va_cpy ((G 0) 0) ((G 2) 0) 0 0 4)) 1 (va_cpy ((G 0) 1) ((va_up (G 2) 0 (va_cpy ((G 0) 0) ((G 2) 0) 0 0 4)) 1) 0 0 4)) 2 (va_cpy ((G 0) 2) ((va_up (va_up (G 2) 0 (va_cpy ((G 0) 0) ((G 2) 0) 0 0 4)) 1 (va_cpy ((G 0) 1) ((va_up (G 2) 0 (va_cpy ((G 0) 0) ((G 2) 0) 0 0 4)) 1) 0 0 4)) 2) 0 0 4)) 3) 0 0 4)) 4 (va_cpy ((G 0) 4) ((va_up (va_up (va_up (va_up (G 2) 0 (va_cpy ((G 0) 0) ((G 2) 0) 0 0 4)) 1 (va_cpy ((G 0) 1) ((va_up (G 2) 0 (va_cpy ((G 0) 0) ((G 2) 0) 0 0 4)) 1) 0 0 4)) 2 (va_cpy ((G 0) 2) ((va_up (va_up (G 2) 0 (va_cpy ((G 0) 0) ((G 2) 0) 0 0 4)) 1 (va_cpy ((G 0) 1) ((va_up (G 2) 0 (va_cpy ((G 0) 0) ((G 2) 0) 0 0 4)) 1) 0 0 4)) 2) 0 0 4)) 3 (va_cpy ((G 0) 3) ((va_up (va_up (va_up (G 2) 0 (va_cpy ((G 0) 0) ((G 2) 0) 0 0 4)) 1 (va_cpy ((G 0) 1) ((va_up (G 2) 0 (va_cpy ((G 0) 0) ((G 2) 0) 0 0 4)) 1) 0 0 4)) 2 (va_cpy ((G 0) 2) ((va_up (va_up (G 2) 0 (va_cpy ((G 0) 0) ((G 2) 0) 0 0 4)) 1 (va_cpy ((G 0) 1) ((va_up (G 2) 0 (va_cpy ((G 0) 0) ((G 2) 0) 0 0 4)) 1) 0 0 4)) 2) 0 0 4)) 3) 0 0 4)) 4) 0 0 4))) 3 (va_up h3 n (upd (h3 n) k (nI 1)))) J) := hD
                refine lv_iinc (v := nI (k + 1)) (lv' := [(2, .int (nI (k + 1))), (0, .ref (h 108)), (1, .int (nI n))]) hx hb dX1_begin_71 hl (k := 2) rfl (nI_1 _) (by decide) rfl (fun ls hl => ?_)
                refine lv_goto (tgt := 48) hx hb dX1_begin_74 (by decide) ?_
                exact ih_48 (k + 1) (va_up h3 n (upd (h3 n) k (nI 1))) (by omega) (by first | assumption | omega) (by first | exact hb41 | exact bg_s (by first | rw [if_pos (by assumption)] | rw [if_neg (by assumption)]) hb48) _ _ _ hP hD hS (lv_sub hl [1, 2, 0] rfl)
        exact cut_48 _ 0 g3 (Nat.lt_succ_self _) (by first | assumption | omega) (by first | exact hb41 | exact bg_s (by first | rw [if_pos (by assumption)] | rw [if_neg (by assumption)]) hb48) _ _ _ hP hD hS (lv_sub hl [1, 2, 0] rfl)
  exact cut_41 _ 0 (G 3) (Nat.lt_succ_self _) (by first | assumption | omega) (by first | (intro a b hb hab; omega) | exact (fun a b hb hab => hb48 a b hb (by omega))) _ _ _ hP hD hS (lv_sub hl [1, 0] rfl)
set_option maxRecDepth 20000 in
theorem ggX1_lead_X1_begin : GoodIn wsX1_lead wsX1_begin := goodIn_r _ [9, 4, 2, 10, 11, 12, 13, 14, 15, 16, 38, 39, 40, 41, 42, 43, 44, 45, 46, 47, 48, 49] rfl (by decide +kernel)
set_option maxRecDepth 20000 in
theorem gX1_lead_X1_begin : GoodIn wsX1_lead (wsV RX1 34 RX1 yX1_begin wsX1_begin) := goodIn_app (goodIn_of _ (by decide +kernel)) ggX1_lead_X1_begin
set_option maxRecDepth 20000 in
theorem ggX1_lead_X1_shortenFirst : GoodIn wsX1_lead wsX1_shortenFirst := goodIn_r _ [20, 2, 21, 22, 23, 24, 8, 25, 11, 26, 27, 28, 29, 30, 31, 32, 33, 34, 35, 36, 37, 16, 38, 39, 40, 41, 42, 43, 44, 45, 46, 47, 48, 49] rfl (by decide +kernel)
set_option maxRecDepth 20000 in
theorem gX1_lead_X1_shortenFirst : GoodIn wsX1_lead (wsV RX1 40 RX1 yX1_shortenFirst wsX1_shortenFirst) := goodIn_app (goodIn_of _ (by decide +kernel)) ggX1_lead_X1_shortenFirst
theorem bdX1_lead_0 : (decode cX1_lead 0 = .ok (.aload_n 0, 1)) ∧ (decode cX1_lead 1 = .ok (.getfield 23, 3)) ∧ (decode cX1_lead 4 = .ok (.aload_n 0, 1)) ∧ (decode cX1_lead 5 = .ok (.getfield 27, 3)) ∧ (decode cX1_lead 8 = .ok (.getfield 31, 3)) ∧ (decode cX1_lead 11 = .ok (.if_icmp .ne 4, 3)) ∧ (decode cX1_lead 14 = .ok (.return_, 1)) ∧ (decode cX1_lead 15 = .ok (.aload_n 0, 1)) ∧ (decode cX1_lead 16 = .ok (.invokevirtual 34, 3)) ∧ (decode cX1_lead 19 = .ok (.aload_n 0, 1)) ∧ (decode cX1_lead 20 = .ok (.getfield 37, 3)) ∧ (decode cX1_lead 23 = .ok (.sipush 2000, 3)) ∧ (decode cX1_lead 26 = .ok (.if_icmp .ge 23, 3)) ∧ (decode cX1_lead 29 = .ok (.aload_n 0, 1)) ∧ (decode cX1_lead 30 = .ok (.invokevirtual 40, 3)) ∧ (decode cX1_lead 33 = .ok (.ifCond .eq 16, 3)) := by decide +kernel
theorem dX1_lead_0 : decode cX1_lead 0 = .ok (.aload_n 0, 1) := bdX1_lead_0.1
theorem dX1_lead_1 : decode cX1_lead 1 = .ok (.getfield 23, 3) := bdX1_lead_0.2.1
theorem dX1_lead_4 : decode cX1_lead 4 = .ok (.aload_n 0, 1) := bdX1_lead_0.2.2.1
theorem dX1_lead_5 : decode cX1_lead 5 = .ok (.getfield 27, 3) := bdX1_lead_0.2.2.2.1
theorem dX1_lead_8 : decode cX1_lead 8 = .ok (.getfield 31, 3) := bdX1_lead_0.2.2.2.2.1
theorem dX1_lead_11 : decode cX1_lead 11 = .ok (.if_icmp .ne 4, 3) := bdX1_lead_0.2.2.2.2.2.1
theorem dX1_lead_14 : decode cX1_lead 14 = .ok (.return_, 1) := bdX1_lead_0.2.2.2.2.2.2.1
theorem dX1_lead_15 : decode cX1_lead 15 = .ok (.aload_n 0, 1) := bdX1_lead_0.2.2.2.2.2.2.2.1
theorem dX1_lead_16 : decode cX1_lead 16 = .ok (.invokevirtual 34, 3) := bdX1_lead_0.2.2.2.2.2.2.2.2.1
theorem dX1_lead_19 : decode cX1_lead 19 = .ok (.aload_n 0, 1) := bdX1_lead_0.2.2.2.2.2.2.2.2.2.1
theorem dX1_lead_20 : decode cX1_lead 20 = .ok (.getfield 37, 3) := bdX1_lead_0.2.2.2.2.2.2.2.2.2.2.1
theorem dX1_lead_23 : decode cX1_lead 23 = .ok (.sipush 2000, 3) := bdX1_lead_0.2.2.2.2.2.2.2.2.2.2.2.1
theorem dX1_lead_26 : decode cX1_lead 26 = .ok (.if_icmp .ge 23, 3) := bdX1_lead_0.2.2.2.2.2.2.2.2.2.2.2.2.1
theorem dX1_lead_29 : decode cX1_lead 29 = .ok (.aload_n 0, 1) := bdX1_lead_0.2.2.2.2.2.2.2.2.2.2.2.2.2.1
theorem dX1_lead_30 : decode cX1_lead 30 = .ok (.invokevirtual 40, 3) := bdX1_lead_0.2.2.2.2.2.2.2.2.2.2.2.2.2.2.1
theorem dX1_lead_33 : decode cX1_lead 33 = .ok (.ifCond .eq 16, 3) := bdX1_lead_0.2.2.2.2.2.2.2.2.2.2.2.2.2.2.2
theorem bdX1_lead_36 : (decode cX1_lead 36 = .ok (.aload_n 0, 1)) ∧ (decode cX1_lead 37 = .ok (.dup, 1)) ∧ (decode cX1_lead 38 = .ok (.getfield 37, 3)) ∧ (decode cX1_lead 41 = .ok (.iconst 1, 1)) ∧ (decode cX1_lead 42 = .ok (.iadd, 1)) ∧ (decode cX1_lead 43 = .ok (.putfield 37, 3)) ∧ (decode cX1_lead 46 = .ok (.goto (-27), 3)) ∧ (decode cX1_lead 49 = .ok (.aload_n 0, 1)) ∧ (decode cX1_lead 50 = .ok (.aload_n 0, 1)) ∧ (decode cX1_lead 51 = .ok (.getfield 27, 3)) ∧ (decode cX1_lead 54 = .ok (.getfield 31, 3)) ∧ (decode cX1_lead 57 = .ok (.putfield 23, 3)) ∧ (decode cX1_lead 60 = .ok (.return_, 1)) := by decide +kernel
theorem dX1_lead_36 : decode cX1_lead 36 = .ok (.aload_n 0, 1) := bdX1_lead_36.1
theorem dX1_lead_37 : decode cX1_lead 37 = .ok (.dup, 1) := bdX1_lead_36.2.1
theorem dX1_lead_38 : decode cX1_lead 38 = .ok (.getfield 37, 3) := bdX1_lead_36.2.2.1
theorem dX1_lead_41 : decode cX1_lead 41 = .ok (.iconst 1, 1) := bdX1_lead_36.2.2.2.1
theorem dX1_lead_42 : decode cX1_lead 42 = .ok (.iadd, 1) := bdX1_lead_36.2.2.2.2.1
theorem dX1_lead_43 : decode cX1_lead 43 = .ok (.putfield 37, 3) := bdX1_lead_36.2.2.2.2.2.1
theorem dX1_lead_46 : decode cX1_lead 46 = .ok (.goto (-27), 3) := bdX1_lead_36.2.2.2.2.2.2.1
theorem dX1_lead_49 : decode cX1_lead 49 = .ok (.aload_n 0, 1) := bdX1_lead_36.2.2.2.2.2.2.2.1
theorem dX1_lead_50 : decode cX1_lead 50 = .ok (.aload_n 0, 1) := bdX1_lead_36.2.2.2.2.2.2.2.2.1
theorem dX1_lead_51 : decode cX1_lead 51 = .ok (.getfield 27, 3) := bdX1_lead_36.2.2.2.2.2.2.2.2.2.1
theorem dX1_lead_54 : decode cX1_lead 54 = .ok (.getfield 31, 3) := bdX1_lead_36.2.2.2.2.2.2.2.2.2.2.1
theorem dX1_lead_57 : decode cX1_lead 57 = .ok (.putfield 23, 3) := bdX1_lead_36.2.2.2.2.2.2.2.2.2.2.2.1
theorem dX1_lead_60 : decode cX1_lead 60 = .ok (.return_, 1) := bdX1_lead_36.2.2.2.2.2.2.2.2.2.2.2.2
set_option maxHeartbeats 4000000 in
set_option maxRecDepth 100000 in
theorem k_X1_lead (l : Launch) (dC : Nat → ClassId) (dI : Nat → Nat → Nat) (h : Nat → Nat) (cs : Nat → ClassId) (sz : Nat) (I : Nat → Int32) (L : Nat → Int64) (A : Nat → Nat → Int32) (Q : Nat → Nat → Int64) (G : Nat → Nat → Nat → Int32) (J : Nat → Nat → Nat → Int64) (R M : Nat) (hR : I 120 = nI R) (hR1 : 1 ≤ R) (hR5 : R ≤ 5) (hM : I 121 = nI M) (hM1 : 1 ≤ M) (hM4 : M ≤ 4) : Met l yX1_lead wsX1_lead ({ frames := 3, cells := 0, slots := 0, locals := 108 }) (va_Pc [.ref (h 108)] (xPre (dC, dI) (wLead h cs I L A Q G J) (tysA cs) sz)) (va_Qv (fun (u : CS) => ∃ i212 : Int32, ∃ i213 : Int32, ∃ g2 : Nat → Nat → Int32, ∃ g3 : Nat → Nat → Int32, ((I 213 = I 123 ∧ i212 = I 212 ∧ i213 = I 213 ∧ g2 = G 2 ∧ g3 = G 3) ∨ (¬ I 213 = I 123 ∧ i213 = I 123 ∧ ∃ n : Nat, i212 = nI n ∧ n ≤ 2000 ∧ Ln R M (G 0) n g2 g3 ∧ (n = 2000 ∨ NoSt R M g2))) ∧ u = ((va_up (va_up I 212 i212) 213 i213), L, A, Q, (va_up (va_up G 2 g2) 3 g3), J)) (xB (dC, dI) (tysA cs) (va_A (wLead h cs I L A Q G J) sz) (fun u : CS => wLead h cs u.1 u.2.1 u.2.2.1 u.2.2.2.1 u.2.2.2.2.1 u.2.2.2.2.2)) (va_A (wLead h cs I L A Q G J) sz)) 0 0 (va_A (wLead h cs I L A Q G J) sz) := by
  refine Met.ofW (cc := cX1_lead) (maxL := 1) (ret := none) (by decide) rfl ?_
  intro p e s m args below meth c s₁ B hml hv
  obtain ⟨rfl, hsz, hP, hK, hD0, hN⟩ := hv
  have hx := B.exec
  have hb := B.bytes
  have hr := B.returns
  have hts := atoms_spec (ws := wsX1_lead) B.pre
  have hown : s.vm.findClass RX1 = some m.cls := findClass_of_methodNamed B.named
  have hlocks := B.notSynchronized
  subst hsz
  have hD := hD0.self (sz := s.heap.size)
  generalize hAe : va_A (wLead h cs I L A Q G J) s.heap.size = A0 at hD ⊢
  have hA : ∀ q : Nat, s.heap.size ≤ q → A0 q := fun q h => by rw [← hAe]; exact Or.inr h
  have hl := lv_entry ([.ref (h 108)]) (n := 1) (Nat.le_of_ble_eq_true rfl)
  rw [lg_entry_eq]
  generalize (lg_sl ([.ref (h 108)]) ++ List.replicate (1 - (lg_sl ([.ref (h 108)])).length) Slot.unset).toArray = ls at hl ⊢
  have hl : lv_has ls 1 [(0, .ref (h 108))] := hl
  generalize hH : s.heap = H at hP ⊢
  have hS : va_S A0 s.heap H [] := by rw [← hH]; exact va_S.rf
  have hinX1 : ∀ w ∈ wsX10, w ∈ wsX1_lead := by decide +kernel
  have hinX3 : ∀ w ∈ wsX30, w ∈ wsX1_lead := by decide +kernel
  refine lv_aload_n hx hb dX1_lead_0 rfl (lv_at hl 0 rfl) ?_
  refine va_get (D := (dC, dI)) (ci := 1) (v := .int (I 213)) (C := RX1) (T := TX1) (N := 6) hx hb hts hinX1 hown hK hP 0 rfl rfl 5 (by decide) (hts (.fieldLink RX1 23 "MixedWords$Leader" "stamp" "I") (by decide +kernel)) (fun _ h9 => h9) rfl dX1_lead_1 ?_
  refine lv_aload_n hx hb dX1_lead_4 rfl (lv_at hl 0 rfl) ?_
  refine va_get (D := (dC, dI)) (ci := 1) (v := .ref (h 101)) (C := RX1) (T := TX1) (N := 6) hx hb hts hinX1 hown hK hP 0 rfl rfl 0 (by decide) (hts (.fieldLink RX1 27 "MixedWords$Leader" "mix" "LMixedWords$Mix;") (by decide +kernel)) (fun _ h9 => h9) rfl dX1_lead_5 ?_
  refine va_get (D := (dC, dI)) (ci := 3) (v := .int (I 123)) (C := RX3) (T := TX3) (N := 6) hx hb hts hinX3 hown hK hP 13 rfl rfl 3 (by decide) (hts (.fieldLink RX1 31 "MixedWords$Mix" "stamp" "I") (by decide +kernel)) (fun _ h9 => h9) rfl dX1_lead_8 ?_
  refine lv_icmp_ne (tgt := 15) hx hb dX1_lead_11 (by decide) (fun c_11_0 => ?_) (fun c_11_0 => ?_)
  · skip
    refine lv_aload_n hx hb dX1_lead_15 rfl (lv_at hl 0 rfl) ?_
    refine xj_v (wc := (wLead h cs I L A Q G J)) (wr := ([] : va_W)) hP hD hS hA [0, 1, 2, 3, 4, 5, 6, 7, 8, 9, 10, 11, 12, 13, 14, 15, 16, 17, 18, 19, 20] [] rfl rfl (by decide +kernel) (by decide +kernel) (va_runV (As := []) (rest := []) ⟨hx, hb, hml, hown, hts⟩ (k_X1_begin l dC dI h cs H.size I L A Q G J 0) (cwV 0 hts gX1_lead_X1_begin rfl rfl rfl (by decide +kernel) ⟨Nat.le_of_ble_eq_true rfl, Nat.le_of_ble_eq_true rfl⟩) (xpV (wc := (wLead h cs I L A Q G J)) hP hD hK hN [0, 1, 2, 3, 4, 5, 6, 7, 8, 9, 10, 11, 12, 13, 14, 15, 16, 17, 18, 19, 20] rfl (by decide) 0 (ci := 1) rfl rfl _) rfl rfl hl.1 rfl (lv_room (Nat.le_of_ble_eq_true rfl)) dX1_lead_16 ⟨Nat.zero_le _, Nat.zero_le _⟩) (fun u_2 H locs hw hP hD hS => ?_)
    obtain ⟨i212_4, g2_5, g3_6, hf_7, rfl⟩ := hw
    have hP : va_P (dC, dI) vwCl (wLead h cs (va_up I 212 i212_4) L A Q (va_up (va_up G 2 g2_5) 3 g3_6) J) H := hP
    have hD : va_D A0 (wLead h cs (va_up I 212 i212_4) L A Q (va_up (va_up G 2 g2_5) 3 g3_6) J) := hD
    obtain ⟨rfl, hbg1, hbg2⟩ := hf_7
    have cut_19 : ∀ (nf : Nat) (n9 : Nat) (g2 : Nat → Nat → Int32) (g3 : Nat → Nat → Int32), (2000 - n9) < nf → (n9 ≤ 2000) → (Ln R M (G 0) n9 g2 g3) → ∀ (H : Heap) (locs : List Loc) (ls : Array Slot), va_P (dC, dI) vwCl (wLead h cs (va_up I 212 (nI n9)) L A Q (va_up (va_up G 2 g2) 3 g3) J) H → va_D A0 (wLead h cs (va_up I 212 (nI n9)) L A Q (va_up (va_up G 2 g2) 3 g3) J) → va_S A0 s.heap H locs → lv_has ls 1 [(0, .ref (h 108))] → W p l e (headSpec wsX1_lead ({ frames := 3, cells := 0, slots := 0, locals := 108 })).room s m ([.ref (h 108)] : List Value).toArray below meth c H locs 0 0 (MQ below (va_Qv (fun (u : CS) => ∃ i212 : Int32, ∃ i213 : Int32, ∃ g2 : Nat → Nat → Int32, ∃ g3 : Nat → Nat → Int32, ((I 213 = I 123 ∧ i212 = I 212 ∧ i213 = I 213 ∧ g2 = G 2 ∧ g3 = G 3) ∨ (¬ I 213 = I 123 ∧ i213 = I 123 ∧ ∃ n : Nat, i212 = nI n ∧ n ≤ 2000 ∧ Ln R M (G 0) n g2 g3 ∧ (n = 2000 ∨ NoSt R M g2))) ∧ u = ((va_up (va_up I 212 i212) 213 i213), L, A, Q, (va_up (va_up G 2 g2) 3 g3), J)) (xB (dC, dI) (tysA cs) A0 (fun u : CS => wLead h cs u.1 u.2.1 u.2.2.1 u.2.2.2.1 u.2.2.2.2.1 u.2.2.2.2.2)) A0) ([.ref (h 108)] : List Value).toArray s 0 0 A0) (F0 m 19 ls []) := by
      intro nf
      induction nf with
      | zero => intro n9 g2 g3 hm; exact absurd hm (Nat.not_lt_zero _)
      | succ nf ih_19 =>
        intro n9 g2 g3 hm_19 hn19 hL19 H locs ls hP hD hS hl
        refine lv_aload_n hx hb dX1_lead_19 rfl (lv_at hl 0 rfl) ?_
        refine va_get (D := (dC, dI)) (ci := 1) (v := .int (nI n9)) (C := RX1) (T := TX1) (N := 6) hx hb hts hinX1 hown hK hP 0 rfl rfl 4 (by decide) (hts (.fieldLink RX1 37 "MixedWords$Leader" "times" "I") (by decide +kernel)) (fun _ h9 => h9) rfl dX1_lead_20 ?_
        refine lv_sipush (v := nI 2000) hx hb dX1_lead_23 (by decide) ?_
        refine xn_ge (tgt := 49) hx hb dX1_lead_26 (by decide) (by omega) (by omega) (fun c_26_7 => ?_) (fun c_26_7 => ?_)
        · skip
          have hE : ∃ n : Nat, nI n9 = nI n ∧ n ≤ 2000 ∧ Ln R M (G 0) n g2 g3 ∧ (n = 2000 ∨ NoSt R M g2) := ⟨n9, rfl, hn19, hL19, Or.inl (by omega)⟩
          refine lv_aload_n hx hb dX1_lead_49 rfl (lv_at hl 0 rfl) ?_
          refine lv_aload_n hx hb dX1_lead_50 rfl (lv_at hl 0 rfl) ?_
          refine va_get (D := (dC, dI)) (ci := 1) (v := .ref (h 101)) (C := RX1) (T := TX1) (N := 6) hx hb hts hinX1 hown hK hP 0 rfl rfl 0 (by decide) (hts (.fieldLink RX1 27 "MixedWords$Leader" "mix" "LMixedWords$Mix;") (by decide +kernel)) (fun _ h9 => h9) rfl dX1_lead_51 ?_
          refine va_get (D := (dC, dI)) (ci := 3) (v := .int (I 123)) (C := RX3) (T := TX3) (N := 6) hx hb hts hinX3 hown hK hP 13 rfl rfl 3 (by decide) (hts (.fieldLink RX1 31 "MixedWords$Mix" "stamp" "I") (by decide +kernel)) (fun _ h9 => h9) rfl dX1_lead_54 ?_
          refine va_put (D := (dC, dI)) (ci := 1) (v := .int (I 123)) (ty := .int) (C := RX1) (T := TX1) (N := 6) hx hb hts hinX1 tyX1 tyX1_ok nmX1 hown hK hP hD hS 0 rfl rfl 5 (by decide) (hts (.fieldLink RX1 23 "MixedWords$Leader" "stamp" "I") (by decide +kernel)) (fun _ h9 => h9) rfl (by decide +kernel) rfl rfl (Nat.le_of_ble_eq_true rfl) dX1_lead_57 (fun H locs hP hD hS => ?_)
          have hP : va_P (dC, dI) vwCl (wLead h cs (va_up (va_up I 212 (nI n9)) 213 (I 123)) L A Q (va_up (va_up G 2 g2) 3 g3) J) H := hP
          have hD : va_D A0 (wLead h cs (va_up (va_up I 212 (nI n9)) 213 (I 123)) L A Q (va_up (va_up G 2 g2) 3 g3) J) := hD
          exact xr_v hx hb hr hlocks hK hS dX1_lead_60 ((va_up (va_up I 212 (nI n9)) 213 (I 123)), L, A, Q, (va_up (va_up G 2 g2) 3 g3), J) ⟨(nI n9), (I 123), g2, g3, (Or.inr ⟨by assumption, rfl, hE⟩), rfl⟩ hP hD
        · skip
          refine lv_aload_n hx hb dX1_lead_29 rfl (lv_at hl 0 rfl) ?_
          refine xj_i (wc := (wLead h cs (va_up I 212 (nI n9)) L A Q (va_up (va_up G 2 g2) 3 g3) J)) (wr := ([] : va_W)) hP hD hS hA [0, 1, 2, 3, 4, 5, 6, 7, 8, 9, 10, 11, 12, 13, 14, 15, 16, 17, 18, 19, 20] [] rfl rfl (by decide +kernel) (by decide +kernel) (va_runV (As := []) (rest := []) ⟨hx, hb, hml, hown, hts⟩ (k_X1_shortenFirst l dC dI h cs H.size (va_up I 212 (nI n9)) L A Q (va_up (va_up G 2 g2) 3 g3) J R M hR (by first | assumption | omega | exact hR1) (by first | assumption | omega | exact hR5) hM (by first | assumption | omega | exact hM1) (by first | assumption | omega | exact hM4)) (cwV 0 hts gX1_lead_X1_shortenFirst rfl rfl rfl (by decide +kernel) ⟨Nat.le_of_ble_eq_true rfl, Nat.le_of_ble_eq_true rfl⟩) (xpV (wc := (wLead h cs (va_up I 212 (nI n9)) L A Q (va_up (va_up G 2 g2) 3 g3) J)) hP hD hK hN [0, 1, 2, 3, 4, 5, 6, 7, 8, 9, 10, 11, 12, 13, 14, 15, 16, 17, 18, 19, 20] rfl (by decide) 0 (ci := 1) rfl rfl _) rfl rfl hl.1 rfl (lv_room (Nat.le_of_ble_eq_true rfl)) dX1_lead_30 ⟨Nat.zero_le _, Nat.zero_le _⟩) (fun r_10 u_9 H locs hw hP hD hS => ?_)
          obtain ⟨g2_11, g3_12, hf_13, rfl⟩ := hw
          have hP : va_P (dC, dI) vwCl (wLead h cs (va_up I 212 (nI n9)) L A Q (va_up (va_up G 2 g2_11) 3 g3_12) J) H := hP
          have hD : va_D A0 (wLead h cs (va_up I 212 (nI n9)) L A Q (va_up (va_up G 2 g2_11) 3 g3_12) J) := hD
          rcases hf_13 with ⟨rfl, e2, e3, hno⟩ | ⟨rfl, ia, ja, hfs, hs1, hs2⟩
          · skip
            have hE : ∃ n : Nat, nI n9 = nI n ∧ n ≤ 2000 ∧ Ln R M (G 0) n g2_11 g3_12 ∧ (n = 2000 ∨ NoSt R M g2_11) := ⟨n9, rfl, hn19, by rw [e2, e3]; exact hL19, Or.inr (by rw [e2]; exact hno)⟩
            refine lv_if_eq (tgt := 49) hx hb dX1_lead_33 (by decide) (fun _ => ?_) (fun c9 => False.elim (by revert c9; decide +kernel))
            refine lv_aload_n hx hb dX1_lead_49 rfl (lv_at hl 0 rfl) ?_
            refine lv_aload_n hx hb dX1_lead_50 rfl (lv_at hl 0 rfl) ?_
            refine va_get (D := (dC, dI)) (ci := 1) (v := .ref (h 101)) (C := RX1) (T := TX1) (N := 6) hx hb hts hinX1 hown hK hP 0 rfl rfl 0 (by decide) (hts (.fieldLink RX1 27 "MixedWords$Leader" "mix" "LMixedWords$Mix;") (by decide +kernel)) (fun _ h9 => h9) rfl dX1_lead_51 ?_
            refine va_get (D := (dC, dI)) (ci := 3) (v := .int (I 123)) (C := RX3) (T := TX3) (N := 6) hx hb hts hinX3 hown hK hP 13 rfl rfl 3 (by decide) (hts (.fieldLink RX1 31 "MixedWords$Mix" "stamp" "I") (by decide +kernel)) (fun _ h9 => h9) rfl dX1_lead_54 ?_
            refine va_put (D := (dC, dI)) (ci := 1) (v := .int (I 123)) (ty := .int) (C := RX1) (T := TX1) (N := 6) hx hb hts hinX1 tyX1 tyX1_ok nmX1 hown hK hP hD hS 0 rfl rfl 5 (by decide) (hts (.fieldLink RX1 23 "MixedWords$Leader" "stamp" "I") (by decide +kernel)) (fun _ h9 => h9) rfl (by decide +kernel) rfl rfl (Nat.le_of_ble_eq_true rfl) dX1_lead_57 (fun H locs hP hD hS => ?_)
            have hP : va_P (dC, dI) vwCl (wLead h cs (va_up (va_up I 212 (nI n9)) 213 (I 123)) L A Q (va_up (va_up G 2 g2_11) 3 g3_12) J) H := hP
            have hD : va_D A0 (wLead h cs (va_up (va_up I 212 (nI n9)) 213 (I 123)) L A Q (va_up (va_up G 2 g2_11) 3 g3_12) J) := hD
            exact xr_v hx hb hr hlocks hK hS dX1_lead_60 ((va_up (va_up I 212 (nI n9)) 213 (I 123)), L, A, Q, (va_up (va_up G 2 g2_11) 3 g3_12), J) ⟨(nI n9), (I 123), g2_11, g3_12, (Or.inr ⟨by assumption, rfl, hE⟩), rfl⟩ hP hD
          · skip
            refine lv_if_eq (tgt := 49) hx hb dX1_lead_33 (by decide) (fun c9 => False.elim (by revert c9; decide +kernel)) (fun _ => ?_)
            refine lv_aload_n hx hb dX1_lead_36 rfl (lv_at hl 0 rfl) ?_
            refine lv_dup hx hb dX1_lead_37 rfl ?_
            refine va_get (D := (dC, dI)) (ci := 1) (v := .int (nI n9)) (C := RX1) (T := TX1) (N := 6) hx hb hts hinX1 hown hK hP 0 rfl rfl 4 (by decide) (hts (.fieldLink RX1 37 "MixedWords$Leader" "times" "I") (by decide +kernel)) (fun _ h9 => h9) rfl dX1_lead_38 ?_
            refine lv_iconst (v := nI 1) hx hb dX1_lead_41 (by decide) ?_
            refine lv_iadd hx hb dX1_lead_42 ?_
            refine xt_i (y := nI (n9 + 1)) (nI_add _ _) ?_
            refine va_put (D := (dC, dI)) (ci := 1) (v := .int (nI (n9 + 1))) (ty := .int) (C := RX1) (T := TX1) (N := 6) hx hb hts hinX1 tyX1 tyX1_ok nmX1 hown hK hP hD hS 0 rfl rfl 4 (by decide) (hts (.fieldLink RX1 37 "MixedWords$Leader" "times" "I") (by decide +kernel)) (fun _ h9 => h9) rfl (by decide +kernel) rfl rfl (Nat.le_of_ble_eq_true rfl) dX1_lead_43 (fun H locs hP hD hS => ?_)
            have hP : va_P (dC, dI) vwCl (wLead h cs (va_up I 212 (nI (n9 + 1))) L A Q (va_up (va_up G 2 g2_11) 3 g3_12) J) H := hP
            have hD : va_D A0 (wLead h cs (va_up I 212 (nI (n9 + 1))) L A Q (va_up (va_up G 2 g2_11) 3 g3_12) J) := hD
            refine lv_goto (tgt := 19) hx hb dX1_lead_46 (by decide) ?_
            exact ih_19 (n9 + 1) g2_11 g3_12 (by omega) (by first | assumption | omega) (by first | exact ⟨fun r c hr hc => hbg1 r c (by omega) (by omega), fun k c hk hc => hbg2 k c (by omega) (by omega)⟩ | exact ⟨_, _, ia, ja, hL19, hfs, fun r c hr _ => hs1 r c hr, fun k c hk _ => hs2 k c hk⟩) _ _ _ hP hD hS (lv_sub hl [0] rfl)
    exact cut_19 _ 0 g2_5 g3_6 (Nat.lt_succ_self _) (by first | assumption | omega) (by first | exact ⟨fun r c hr hc => hbg1 r c (by omega) (by omega), fun k c hk hc => hbg2 k c (by omega) (by omega)⟩ | exact ⟨_, _, ia, ja, hL19, hfs, fun r c hr _ => hs1 r c hr, fun k c hk _ => hs2 k c hk⟩) _ _ _ hP hD hS (lv_sub hl [0] rfl)
  · skip
    exact xr_v hx hb hr hlocks hK hS dX1_lead_14 ((va_up (va_up I 212 (I 212)) 213 (I 213)), L, A, Q, (va_up (va_up G 2 (G 2)) 3 (G 3)), J) ⟨(I 212), (I 213), (G 2), (G 3), (Or.inl ⟨by assumption, rfl, rfl, rfl, rfl⟩), rfl⟩ hP hD
