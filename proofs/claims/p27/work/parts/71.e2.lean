theorem at_c {f : Nat → Int32} {T q : Nat} {r : Int32} (hq : q ≤ 90) (hT : T ≤ 90) (h : (∃ i : Nat, i < T ∧ nI q = nI i ∧ r = f i) ∨ (r = -1 ∧ ∀ i : Nat, i < T → nI q ≠ nI i)) : (q < T ∧ r = f q) ∨ (¬ q < T ∧ r = -1) := by
  rcases h with ⟨i, h1, h2, h3⟩ | ⟨h1, h2⟩
  · have e : q = i := (nI_eq (by omega) (by omega)).mp h2
    subst e
    exact Or.inl ⟨h1, h3⟩
  · exact Or.inr ⟨fun g => h2 q g rfl, h1⟩
theorem cmp_c {f : Nat → Int32} {T q k : Nat} {r : Int32} (hk : k < 256) (h : (q < T ∧ r = f q) ∨ (¬ q < T ∧ r = -1)) : r = nI k ↔ isC f T q k := by
  rcases h with ⟨h1, h2⟩ | ⟨h1, h2⟩
  · rw [h2]
    exact ⟨fun g => ⟨h1, g⟩, fun g => g.2⟩
  · exact ⟨fun g => absurd h2 (eq45 g hk), fun g => absurd g.1 h1⟩
theorem end_c {f : Nat → Int32} {T q : Nat} {r : Int32} (hf : ∀ u : Nat, u < T → ¬ f u = -1) (h : (q < T ∧ r = f q) ∨ (¬ q < T ∧ r = -1)) : r = -1 ↔ ¬ q < T := by
  rcases h with ⟨h1, h2⟩ | ⟨h1, h2⟩
  · rw [h2]
    exact ⟨fun g => absurd g (hf q h1), fun g => absurd h1 g⟩
  · exact ⟨fun _ => h1, fun _ => h2⟩
theorem dig_y {f : Nat → Int32} {T q : Nat} {r u : Int32} (h : (q < T ∧ r = f q) ∨ (¬ q < T ∧ r = -1)) (g : (q < T ∧ u = f q) ∨ (¬ q < T ∧ u = -1)) (c1 : ¬ r < nI 48) (c2 : ¬ nI 57 < u) : q < T ∧ IsDig (f q) := by
  have z1 : (nI 48).toInt = 48 := by decide
  have z2 : (nI 57).toInt = 57 := by decide
  rcases h with ⟨h1, h2⟩ | ⟨h1, h2⟩
  · rcases g with ⟨g1, g2⟩ | ⟨g1, g2⟩
    · rw [h2, Int32.lt_iff_toInt_lt, z1] at c1
      rw [g2, Int32.lt_iff_toInt_lt, z2] at c2
      unfold IsDig
      exact ⟨h1, by omega, by omega⟩
    · exact absurd h1 g1
  · rw [h2] at c1
    exact absurd (by decide) c1
theorem dig_n1 {f : Nat → Int32} {T q : Nat} {r : Int32} (h : (q < T ∧ r = f q) ∨ (¬ q < T ∧ r = -1)) (c1 : r < nI 48) : ¬ (q < T ∧ IsDig (f q)) := fun g => by
  have z1 : (nI 48).toInt = 48 := by decide
  rcases h with ⟨h1, h2⟩ | ⟨h1, h2⟩
  · rw [h2, Int32.lt_iff_toInt_lt, z1] at c1
    have := g.2.1
    omega
  · exact h1 g.1
theorem dig_n2 {f : Nat → Int32} {T q : Nat} {r : Int32} (h : (q < T ∧ r = f q) ∨ (¬ q < T ∧ r = -1)) (c1 : nI 57 < r) : ¬ (q < T ∧ IsDig (f q)) := fun g => by
  have z1 : (nI 57).toInt = 57 := by decide
  rcases h with ⟨h1, h2⟩ | ⟨h1, h2⟩
  · rw [h2, Int32.lt_iff_toInt_lt, z1] at c1
    have := g.2.2
    omega
  · exact h1 g.1
theorem at_v {f : Nat → Int32} {T q : Nat} {r : Int32} (hq : q < T) (h : (q < T ∧ r = f q) ∨ (¬ q < T ∧ r = -1)) : r = f q := by
  rcases h with ⟨h1, h2⟩ | ⟨h1, h2⟩
  · exact h2
  · exact absurd hq h1
def satV (x : Int32) : Int32 := if x ≤ nI 9 then x else nI 10
theorem satV_le {x : Int32} : satV x ≤ nI 9 ↔ x ≤ nI 9 := by
  unfold satV
  split
  · exact Iff.rfl
  · rename_i h
    exact ⟨fun g => absurd g (by decide), fun g => absurd g h⟩
theorem sat_s {t : Nat → Int32} {b j : Nat} {z : Int32} (hb : b ≤ j) (hd : ∀ u : Nat, b ≤ u → u < j → IsDig (t u)) (hj : IsDig (t j)) (hz : z = satV (digV t b (j - b))) : (if nI 10 < z * nI 10 + t j - nI 48 then nI 10 else z * nI 10 + t j - nI 48) = satV (digV t b (j + 1 - b)) := by
  have hr := digV_rng (t := t) (b := b) (j - b) (fun u h1 h2 => hd u h1 (by omega))
  have z9 : (nI 9).toInt = 9 := by decide
  have z10 : (nI 10).toInt = 10 := by decide
  have z48 : (nI 48).toInt = 48 := by decide
  unfold IsDig at hj
  rw [show j + 1 - b = (j - b) + 1 by omega, digV, show b + (j - b) = j by omega]
  generalize digV t b (j - b) = v at hr hz ⊢
  unfold satV at hz
  by_cases g : v ≤ nI 9
  · rw [if_pos g] at hz ⊢
    subst hz
    rw [Int32.le_iff_toInt_le, z9] at g
    have c : z * nI 10 = nI 10 * z := Int32.mul_comm _ _
    rw [c]
    have m1 := (mul32 (x := nI 10) (y := z) (a := 10) (b := 99) (by rw [z10]; decide) (by omega) (by decide)).1
    rw [z10] at m1
    have a1 := add32 (x := nI 10 * z) (y := t j) (by omega)
    have a2 := sub32 (x := nI 10 * z + t j) (y := nI 48) (by omega)
    generalize nI 10 * z + t j - nI 48 = y at a2 ⊢
    unfold satV
    by_cases k : y ≤ nI 9
    · rw [if_pos k]
      rw [Int32.le_iff_toInt_le, z9] at k
      rw [if_neg (by rw [Int32.lt_iff_toInt_lt, z10]; omega)]
    · rw [if_neg k]
      rw [Int32.le_iff_toInt_le, z9] at k
      by_cases k2 : nI 10 < y
      · rw [if_pos k2]
      · rw [if_neg k2]
        rw [Int32.lt_iff_toInt_lt, z10] at k2
        exact Int32.toInt_inj.mp (by rw [z10]; omega)
  · rw [if_neg g] at hz ⊢
    subst hz
    have m1 := (mul32 (x := nI 10) (y := nI 10) (a := 10) (b := 10) (by rw [z10]; decide) (by rw [z10]; decide) (by decide)).1
    rw [z10] at m1
    have a1 := add32 (x := nI 10 * nI 10) (y := t j) (by omega)
    have a2 := sub32 (x := nI 10 * nI 10 + t j) (y := nI 48) (by omega)
    rw [if_pos (by rw [Int32.lt_iff_toInt_lt, z10]; omega)]
    unfold satV
    rw [if_neg g]
def KP (t : Nat → Int32) (T n h w r p : Nat) (g : Nat → Nat → Int32) : Prop := ∀ (res : Int32) (H W : Nat) (V : Nat → Nat → Int32), (∀ i j : Nat, (i < h ∧ j < w) ∨ (i = h ∧ j < r) → V i j = g i j) → pR t T (20 - n) h w r p res H W V → pR t T 20 0 0 0 0 res H W V
theorem KP_0 {t : Nat → Int32} {T : Nat} {g : Nat → Nat → Int32} : KP t T 0 0 0 0 0 g := fun _ _ _ _ _ k => k
theorem KP_bad {t : Nat → Int32} {T n h w r p q : Nat} {g : Nat → Nat → Int32} (hn : n < 20) (k : KP t T n h w r p g) (hb : nmBad t T p q) : pR t T 20 0 0 0 0 (-20 - nI q) 0 0 g := k _ _ _ _ (fun _ _ _ => rfl) (by
  rw [show 20 - n = (20 - (n + 1)) + 1 by omega]
  exact Or.inl ⟨q, hb, rfl⟩)
theorem vu_ne9 {g : Nat → Nat → Int32} {h r i j : Nat} {v : Int32} (hne : ¬ (i = h ∧ j = r)) : va_up g h (upd (g h) r v) i j = g i j := by
  by_cases e : i = h
  · subst e
    simp only [va_up, if_true]
    exact pk_un (by omega)
  · simp only [va_up, if_neg e]
theorem va_is {g : Nat → Nat → Int32} {h r : Nat} {v : Int32} : va_up g h (upd (g h) r v) h r = v := by
  simp only [va_up, if_true]
  exact pk_us
theorem KP_sg {t : Nat → Int32} {T n h w r p p3 j : Nat} {v res : Int32} {H W : Nat} {g V : Nat → Nat → Int32} (hn : n < 20) (k : KP t T n h w r p g) (ho : nmOk t T p p3 v) (hs : IsSkip t T p3 j) (hV : ∀ i c : Nat, (i < h ∧ c < w) ∨ (i = h ∧ c < r + 1) → V i c = va_up g h (upd (g h) r v) i c)
    (hm : pM t T (fun h w r p => pR t T (20 - (n + 1)) h w r p res H W V) h w (r + 1) j res H W) : pR t T 20 0 0 0 0 res H W V := k _ _ _ _ (fun i c hc => by
  rw [hV i c (by omega)]
  exact vu_ne9 (by omega)) (by
  rw [show 20 - n = (20 - (n + 1)) + 1 by omega]
  exact Or.inr ⟨p3, v, j, ho, by rw [hV h r (by omega)]; exact va_is, hs, hm⟩)
theorem KP_end {t : Nat → Int32} {T n h w r p p3 j : Nat} {v : Int32} {g : Nat → Nat → Int32} (hn : n < 20) (k : KP t T n h w r p g) (ho : nmOk t T p p3 v) (hs : IsSkip t T p3 j) (hj : ¬ j < T) (hw : h = 0 ∨ r + 1 = w) : pR t T 20 0 0 0 0 (nI 0) (h + 1) (r + 1) (va_up g h (upd (g h) r v)) :=
  KP_sg hn k ho hs (fun _ _ _ => rfl) (Or.inl ⟨⟨hj, hw⟩, rfl, rfl, rfl⟩)
theorem KP_flt {t : Nat → Int32} {T n h w r p p3 j : Nat} {v : Int32} {g : Nat → Nat → Int32} (hn : n < 20) (k : KP t T n h w r p g) (ho : nmOk t T p p3 v) (hs : IsSkip t T p3 j) (h1 : ¬ (¬ j < T ∧ (h = 0 ∨ r + 1 = w))) (h2 : ¬ (isC t T j 44 ∧ r + 1 < (if h = 0 then 4 else w))) (h3 : ¬ (isC t T j 59 ∧ (h = 0 ∨ r + 1 = w) ∧ h < 4)) : pR t T 20 0 0 0 0 (-20 - nI j) 0 0 (va_up g h (upd (g h) r v)) :=
  KP_sg hn k ho hs (fun _ _ _ => rfl) (Or.inr (Or.inr (Or.inr ⟨h1, h2, h3, rfl⟩)))
theorem KP_com {t : Nat → Int32} {T n h w r p p3 j : Nat} {v : Int32} {g : Nat → Nat → Int32} (hn : n < 20) (k : KP t T n h w r p g) (ho : nmOk t T p p3 v) (hs : IsSkip t T p3 j) (h2 : isC t T j 44) (h3 : r + 1 < (if h = 0 then 4 else w)) : KP t T (n + 1) h w (r + 1) (j + 1) (va_up g h (upd (g h) r v)) := fun res H W V hV hp =>
  KP_sg hn k ho hs hV (Or.inr (Or.inl ⟨⟨h2, h3⟩, hp⟩))
theorem KP_sem {t : Nat → Int32} {T n h w r p p3 j : Nat} {v : Int32} {g : Nat → Nat → Int32} (hn : n < 20) (k : KP t T n h w r p g) (ho : nmOk t T p p3 v) (hs : IsSkip t T p3 j) (h2 : isC t T j 59) (hw : h = 0 ∨ r + 1 = w) (h4 : h < 4) : KP t T (n + 1) (h + 1) (r + 1) 0 (j + 1) (va_up g h (upd (g h) r v)) := fun res H W V hV hp =>
  KP_sg hn k ho hs (fun i c hc => hV i c (by omega)) (Or.inr (Or.inr (Or.inl ⟨⟨h2, hw, h4⟩, hp⟩)))
theorem num_com {n h w r : Nat} (e : n = h * w + r) : n + 1 = h * w + (r + 1) := by omega
theorem num_sem {n h w r : Nat} (e : n = h * w + r) (hw : h = 0 ∨ r + 1 = w) : n + 1 = (h + 1) * (r + 1) + 0 := by
  rcases hw with rfl | hw
  · rw [Nat.zero_mul] at e
    omega
  · rw [Nat.succ_mul, hw]
    omega
set_option maxRecDepth 20000 in
theorem ggX4_skipBlanks_X7_at : GoodIn wsX4_skipBlanks wsX7_at := goodIn_r _ [8, 9, 10, 17, 18] rfl (by decide +kernel)
set_option maxRecDepth 20000 in
theorem gX4_skipBlanks_X7_at : GoodIn wsX4_skipBlanks (wsV RX4 40 RX7 yX7_at wsX7_at) := goodIn_app (goodIn_of _ (by decide +kernel)) ggX4_skipBlanks_X7_at
theorem bdX4_skipBlanks_0 : (decode cX4_skipBlanks 0 = .ok (.aload_n 0, 1)) ∧ (decode cX4_skipBlanks 1 = .ok (.getfield 30, 3)) ∧ (decode cX4_skipBlanks 4 = .ok (.aload_n 0, 1)) ∧ (decode cX4_skipBlanks 5 = .ok (.getfield 16, 3)) ∧ (decode cX4_skipBlanks 8 = .ok (.getfield 55, 3)) ∧ (decode cX4_skipBlanks 11 = .ok (.if_icmp .ge 32, 3)) ∧ (decode cX4_skipBlanks 14 = .ok (.aload_n 0, 1)) ∧ (decode cX4_skipBlanks 15 = .ok (.getfield 16, 3)) ∧ (decode cX4_skipBlanks 18 = .ok (.aload_n 0, 1)) ∧ (decode cX4_skipBlanks 19 = .ok (.getfield 30, 3)) ∧ (decode cX4_skipBlanks 22 = .ok (.invokevirtual 40, 3)) ∧ (decode cX4_skipBlanks 25 = .ok (.bipush 32, 2)) ∧ (decode cX4_skipBlanks 27 = .ok (.if_icmp .ne 16, 3)) ∧ (decode cX4_skipBlanks 30 = .ok (.aload_n 0, 1)) ∧ (decode cX4_skipBlanks 31 = .ok (.dup, 1)) ∧ (decode cX4_skipBlanks 32 = .ok (.getfield 30, 3)) := by decide +kernel
theorem dX4_skipBlanks_0 : decode cX4_skipBlanks 0 = .ok (.aload_n 0, 1) := bdX4_skipBlanks_0.1
theorem dX4_skipBlanks_1 : decode cX4_skipBlanks 1 = .ok (.getfield 30, 3) := bdX4_skipBlanks_0.2.1
theorem dX4_skipBlanks_4 : decode cX4_skipBlanks 4 = .ok (.aload_n 0, 1) := bdX4_skipBlanks_0.2.2.1
theorem dX4_skipBlanks_5 : decode cX4_skipBlanks 5 = .ok (.getfield 16, 3) := bdX4_skipBlanks_0.2.2.2.1
theorem dX4_skipBlanks_8 : decode cX4_skipBlanks 8 = .ok (.getfield 55, 3) := bdX4_skipBlanks_0.2.2.2.2.1
theorem dX4_skipBlanks_11 : decode cX4_skipBlanks 11 = .ok (.if_icmp .ge 32, 3) := bdX4_skipBlanks_0.2.2.2.2.2.1
theorem dX4_skipBlanks_14 : decode cX4_skipBlanks 14 = .ok (.aload_n 0, 1) := bdX4_skipBlanks_0.2.2.2.2.2.2.1
theorem dX4_skipBlanks_15 : decode cX4_skipBlanks 15 = .ok (.getfield 16, 3) := bdX4_skipBlanks_0.2.2.2.2.2.2.2.1
theorem dX4_skipBlanks_18 : decode cX4_skipBlanks 18 = .ok (.aload_n 0, 1) := bdX4_skipBlanks_0.2.2.2.2.2.2.2.2.1
theorem dX4_skipBlanks_19 : decode cX4_skipBlanks 19 = .ok (.getfield 30, 3) := bdX4_skipBlanks_0.2.2.2.2.2.2.2.2.2.1
theorem dX4_skipBlanks_22 : decode cX4_skipBlanks 22 = .ok (.invokevirtual 40, 3) := bdX4_skipBlanks_0.2.2.2.2.2.2.2.2.2.2.1
theorem dX4_skipBlanks_25 : decode cX4_skipBlanks 25 = .ok (.bipush 32, 2) := bdX4_skipBlanks_0.2.2.2.2.2.2.2.2.2.2.2.1
theorem dX4_skipBlanks_27 : decode cX4_skipBlanks 27 = .ok (.if_icmp .ne 16, 3) := bdX4_skipBlanks_0.2.2.2.2.2.2.2.2.2.2.2.2.1
theorem dX4_skipBlanks_30 : decode cX4_skipBlanks 30 = .ok (.aload_n 0, 1) := bdX4_skipBlanks_0.2.2.2.2.2.2.2.2.2.2.2.2.2.1
theorem dX4_skipBlanks_31 : decode cX4_skipBlanks 31 = .ok (.dup, 1) := bdX4_skipBlanks_0.2.2.2.2.2.2.2.2.2.2.2.2.2.2.1
theorem dX4_skipBlanks_32 : decode cX4_skipBlanks 32 = .ok (.getfield 30, 3) := bdX4_skipBlanks_0.2.2.2.2.2.2.2.2.2.2.2.2.2.2.2
theorem bdX4_skipBlanks_35 : (decode cX4_skipBlanks 35 = .ok (.iconst 1, 1)) ∧ (decode cX4_skipBlanks 36 = .ok (.iadd, 1)) ∧ (decode cX4_skipBlanks 37 = .ok (.putfield 30, 3)) ∧ (decode cX4_skipBlanks 40 = .ok (.goto (-40), 3)) ∧ (decode cX4_skipBlanks 43 = .ok (.return_, 1)) := by decide +kernel
theorem dX4_skipBlanks_35 : decode cX4_skipBlanks 35 = .ok (.iconst 1, 1) := bdX4_skipBlanks_35.1
theorem dX4_skipBlanks_36 : decode cX4_skipBlanks 36 = .ok (.iadd, 1) := bdX4_skipBlanks_35.2.1
theorem dX4_skipBlanks_37 : decode cX4_skipBlanks 37 = .ok (.putfield 30, 3) := bdX4_skipBlanks_35.2.2.1
theorem dX4_skipBlanks_40 : decode cX4_skipBlanks 40 = .ok (.goto (-40), 3) := bdX4_skipBlanks_35.2.2.2.1
theorem dX4_skipBlanks_43 : decode cX4_skipBlanks 43 = .ok (.return_, 1) := bdX4_skipBlanks_35.2.2.2.2
set_option maxHeartbeats 4000000 in
set_option maxRecDepth 100000 in
theorem k_X4_skipBlanks (l : Launch) (dC : Nat → ClassId) (dI : Nat → Nat → Nat) (h : Nat → Nat) (cs : Nat → ClassId) (sz : Nat) (I : Nat → Int32) (L : Nat → Int64) (A : Nat → Nat → Int32) (Q : Nat → Nat → Int64) (G : Nat → Nat → Nat → Int32) (J : Nat → Nat → Nat → Int64) (T p9 : Nat) (hT : I 151 = nI T) (hT9 : T ≤ 90) (hp : I 169 = nI p9) (hpT : p9 ≤ T) : Met l yX4_skipBlanks wsX4_skipBlanks ({ frames := 1, cells := 0, slots := 0, locals := 21 }) (va_Pc [.ref (h 104)] (xPre (dC, dI) (wRead h cs I L A Q G J) (tysA cs) sz)) (va_Qv (fun (u : CS) => ∃ i169 : Int32, (∃ q : Nat, IsSkip (A 150) T p9 q ∧ i169 = nI q) ∧ u = ((va_up I 169 i169), L, A, Q, G, J)) (xB (dC, dI) (tysA cs) (va_A (wRead h cs I L A Q G J) sz) (fun u : CS => wRead h cs u.1 u.2.1 u.2.2.1 u.2.2.2.1 u.2.2.2.2.1 u.2.2.2.2.2)) (va_A (wRead h cs I L A Q G J) sz)) 0 0 (va_A (wRead h cs I L A Q G J) sz) := by
  refine Met.ofW (cc := cX4_skipBlanks) (maxL := 1) (ret := none) (by decide) rfl ?_
  intro p e s m args below meth c s₁ B hml hv
  obtain ⟨rfl, hsz, hP, hK, hD0, hN⟩ := hv
  have hx := B.exec
  have hb := B.bytes
  have hr := B.returns
  have hts := atoms_spec (ws := wsX4_skipBlanks) B.pre
  have hown : s.vm.findClass RX4 = some m.cls := findClass_of_methodNamed B.named
  have hlocks := B.notSynchronized
  subst hsz
  have hD := hD0.self (sz := s.heap.size)
  generalize hAe : va_A (wRead h cs I L A Q G J) s.heap.size = A0 at hD ⊢
  have hA : ∀ q : Nat, s.heap.size ≤ q → A0 q := fun q h => by rw [← hAe]; exact Or.inr h
  have hl := lv_entry ([.ref (h 104)]) (n := 1) (Nat.le_of_ble_eq_true rfl)
  rw [lg_entry_eq]
  generalize (lg_sl ([.ref (h 104)]) ++ List.replicate (1 - (lg_sl ([.ref (h 104)])).length) Slot.unset).toArray = ls at hl ⊢
  have hl : lv_has ls 1 [(0, .ref (h 104))] := hl
  generalize hH : s.heap = H at hP ⊢
  have hS : va_S A0 s.heap H [] := by rw [← hH]; exact va_S.rf
  have hinX4 : ∀ w ∈ wsX40, w ∈ wsX4_skipBlanks := by decide +kernel
  have hinX7 : ∀ w ∈ wsX70, w ∈ wsX4_skipBlanks := by decide +kernel
  have cut_0 : ∀ (nf : Nat) (n : Nat), (T - n) < nf → (n ≤ T) → (p9 ≤ n) → (∀ u : Nat, p9 ≤ u → u < n → A 150 u = nI 32) → ∀ (H : Heap) (locs : List Loc) (ls : Array Slot), va_P (dC, dI) vwCl (wRead h cs (va_up I 169 (nI n)) L A Q G J) H → va_D A0 (wRead h cs (va_up I 169 (nI n)) L A Q G J) → va_S A0 s.heap H locs → lv_has ls 1 [(0, .ref (h 104))] → W p l e (headSpec wsX4_skipBlanks ({ frames := 1, cells := 0, slots := 0, locals := 21 })).room s m ([.ref (h 104)] : List Value).toArray below meth c H locs 0 0 (MQ below (va_Qv (fun (u : CS) => ∃ i169 : Int32, (∃ q : Nat, IsSkip (A 150) T p9 q ∧ i169 = nI q) ∧ u = ((va_up I 169 i169), L, A, Q, G, J)) (xB (dC, dI) (tysA cs) A0 (fun u : CS => wRead h cs u.1 u.2.1 u.2.2.1 u.2.2.2.1 u.2.2.2.2.1 u.2.2.2.2.2)) A0) ([.ref (h 104)] : List Value).toArray s 0 0 A0) (F0 m 0 ls []) := by
    intro nf
    induction nf with
    | zero => intro n hm; exact absurd hm (Nat.not_lt_zero _)
    | succ nf ih_0 =>
      intro n hm_0 hn0 hn1 hs0 H locs ls hP hD hS hl
      refine lv_aload_n hx hb dX4_skipBlanks_0 rfl (lv_at hl 0 rfl) ?_
      refine va_get (D := (dC, dI)) (ci := 4) (v := .int (nI n)) (C := RX4) (T := TX4) (N := 6) hx hb hts hinX4 hown hK hP 0 rfl rfl 5 (by decide) (hts (.fieldLink RX4 30 "MixedWords$Reader" "place" "I") (by decide +kernel)) (fun _ h9 => h9) rfl dX4_skipBlanks_1 ?_
      refine lv_aload_n hx hb dX4_skipBlanks_4 rfl (lv_at hl 0 rfl) ?_
      refine va_get (D := (dC, dI)) (ci := 4) (v := .ref (h 103)) (C := RX4) (T := TX4) (N := 6) hx hb hts hinX4 hown hK hP 0 rfl rfl 0 (by decide) (hts (.fieldLink RX4 16 "MixedWords$Reader" "tape" "LMixedWords$Tape;") (by decide +kernel)) (fun _ h9 => h9) rfl dX4_skipBlanks_5 ?_
      refine va_get (D := (dC, dI)) (ci := 7) (v := .int (I 151)) (C := RX7) (T := TX7) (N := 2) hx hb hts hinX7 hown hK hP 7 rfl rfl 1 (by decide) (hts (.fieldLink RX4 55 "MixedWords$Tape" "length" "I") (by decide +kernel)) (fun _ h9 => h9) rfl dX4_skipBlanks_8 ?_
      refine xt_i (y := nI T) (hT) ?_
      refine xn_ge (tgt := 43) hx hb dX4_skipBlanks_11 (by decide) (by omega) (by omega) (fun c_11_0 => ?_) (fun c_11_0 => ?_)
      · skip
        exact xr_v hx hb hr hlocks hK hS dX4_skipBlanks_43 ((va_up I 169 (nI n)), L, A, Q, G, J) ⟨(nI n), ⟨n, ⟨hn1, hn0, hs0, fun g => by omega⟩, rfl⟩, rfl⟩ hP hD
      · skip
        refine lv_aload_n hx hb dX4_skipBlanks_14 rfl (lv_at hl 0 rfl) ?_
        refine va_get (D := (dC, dI)) (ci := 4) (v := .ref (h 103)) (C := RX4) (T := TX4) (N := 6) hx hb hts hinX4 hown hK hP 0 rfl rfl 0 (by decide) (hts (.fieldLink RX4 16 "MixedWords$Reader" "tape" "LMixedWords$Tape;") (by decide +kernel)) (fun _ h9 => h9) rfl dX4_skipBlanks_15 ?_
        refine lv_aload_n hx hb dX4_skipBlanks_18 rfl (lv_at hl 0 rfl) ?_
        refine va_get (D := (dC, dI)) (ci := 4) (v := .int (nI n)) (C := RX4) (T := TX4) (N := 6) hx hb hts hinX4 hown hK hP 0 rfl rfl 5 (by decide) (hts (.fieldLink RX4 30 "MixedWords$Reader" "place" "I") (by decide +kernel)) (fun _ h9 => h9) rfl dX4_skipBlanks_19 ?_
        refine xj_i (wc := (wTape h cs (va_up I 169 (nI n)) L A Q G J)) (wr := [(h 104, .inr (4, [.ref (h 103), .ref (h 160), .int (I 166), .int (I 167), .int (I 168), .int (nI n)])), (h 160, .inl (cs 3, 5, .inr (.inr (.inr (.inr (fun i => if i < 5 then some (h (i + 161)) else none)))))), (h 161, .inl (cs 0, 4, .inl ((G 1) 0))), (h 162, .inl (cs 0, 4, .inl ((G 1) 1))), (h 163, .inl (cs 0, 4, .inl ((G 1) 2))), (h 164, .inl (cs 0, 4, .inl ((G 1) 3))), (h 165, .inl (cs 0, 4, .inl ((G 1) 4)))]) hP hD hS hA [7, 8] [0, 1, 2, 3, 4, 5, 6] rfl rfl (by decide +kernel) (by decide +kernel) (va_runV (As := [.int (nI n)]) (rest := []) ⟨hx, hb, hml, hown, hts⟩ (k_X7_at l dC dI h cs H.size (va_up I 169 (nI n)) L A Q G J (nI n) T hT (by first | assumption | omega | exact hT9)) (cwV 1 hts gX4_skipBlanks_X7_at rfl rfl rfl (by decide +kernel) ⟨Nat.le_of_ble_eq_true rfl, Nat.le_of_ble_eq_true rfl⟩) (xpV (wc := (wTape h cs (va_up I 169 (nI n)) L A Q G J)) hP hD hK hN [7, 8] rfl (by decide) 7 (ci := 7) rfl rfl _) rfl rfl hl.1 rfl (lv_room (Nat.le_of_ble_eq_true rfl)) dX4_skipBlanks_22 ⟨Nat.zero_le _, Nat.zero_le _⟩) (fun r_3 u_2 H locs hw hP hD hS => ?_)
        obtain ⟨hf_4, rfl⟩ := hw
        have hP : va_P (dC, dI) vwCl (wRead h cs (va_up I 169 (nI n)) L A Q G J) H := hP
        have hD : va_D A0 (wRead h cs (va_up I 169 (nI n)) L A Q G J) := hD
        have hat_5 := at_c (by omega) (by omega) hf_4
        obtain rfl := at_v (by omega) hat_5
        clear hf_4 hat_5
        refine lv_bipush (v := nI 32) hx hb dX4_skipBlanks_25 (by decide) ?_
        refine lv_icmp_ne (tgt := 43) hx hb dX4_skipBlanks_27 (by decide) (fun c_27_5 => ?_) (fun c_27_5 => ?_)
        · skip
          exact xr_v hx hb hr hlocks hK hS dX4_skipBlanks_43 ((va_up I 169 (nI n)), L, A, Q, G, J) ⟨(nI n), ⟨n, ⟨hn1, hn0, hs0, fun _ => by assumption⟩, rfl⟩, rfl⟩ hP hD
        · skip
          refine lv_aload_n hx hb dX4_skipBlanks_30 rfl (lv_at hl 0 rfl) ?_
          refine lv_dup hx hb dX4_skipBlanks_31 rfl ?_
          refine va_get (D := (dC, dI)) (ci := 4) (v := .int (nI n)) (C := RX4) (T := TX4) (N := 6) hx hb hts hinX4 hown hK hP 0 rfl rfl 5 (by decide) (hts (.fieldLink RX4 30 "MixedWords$Reader" "place" "I") (by decide +kernel)) (fun _ h9 => h9) rfl dX4_skipBlanks_32 ?_
          refine lv_iconst (v := nI 1) hx hb dX4_skipBlanks_35 (by decide) ?_
          refine lv_iadd hx hb dX4_skipBlanks_36 ?_
          refine xt_i (y := nI (n + 1)) (nI_add _ _) ?_
          refine va_put (D := (dC, dI)) (ci := 4) (v := .int (nI (n + 1))) (ty := .int) (C := RX4) (T := TX4) (N := 6) hx hb hts hinX4 tyX4 tyX4_ok nmX4 hown hK hP hD hS 0 rfl rfl 5 (by decide) (hts (.fieldLink RX4 30 "MixedWords$Reader" "place" "I") (by decide +kernel)) (fun _ h9 => h9) rfl (by decide +kernel) rfl rfl (Nat.le_of_ble_eq_true rfl) dX4_skipBlanks_37 (fun H locs hP hD hS => ?_)
          have hP : va_P (dC, dI) vwCl (wRead h cs (va_up I 169 (nI (n + 1))) L A Q G J) H := hP
          have hD : va_D A0 (wRead h cs (va_up I 169 (nI (n + 1))) L A Q G J) := hD
          refine lv_goto (tgt := 0) hx hb dX4_skipBlanks_40 (by decide) ?_
          exact ih_0 (n + 1) (by omega) (by first | assumption | omega) (by first | assumption | omega) (by first | (intro u h1 h2; omega) | (intro u h1 h2; by_cases e : u = n; (· subst e; assumption); (· exact hs0 u h1 (by omega)))) _ _ _ hP hD hS (lv_sub hl [0] rfl)
  have hP : va_P (dC, dI) vwCl (wRead h cs (va_up I 169 (nI p9)) L A Q G J) H := by rw [← hp]; exact hP
  have hD : va_D A0 (wRead h cs (va_up I 169 (nI p9)) L A Q G J) := by rw [← hp]; exact hD
  exact cut_0 _ p9 (Nat.lt_succ_self _) (by first | assumption | omega) (by first | assumption | omega) (by first | (intro u h1 h2; omega) | (intro u h1 h2; by_cases e : u = n; (· subst e; assumption); (· exact hs0 u h1 (by omega)))) _ _ _ hP hD hS (lv_sub hl [0] rfl)
set_option maxRecDepth 20000 in
theorem ggX4_isDigit_X7_at : GoodIn wsX4_isDigit wsX7_at := goodIn_r _ [7, 8, 9, 16, 17] rfl (by decide +kernel)
set_option maxRecDepth 20000 in
theorem gX4_isDigit_X7_at : GoodIn wsX4_isDigit (wsV RX4 40 RX7 yX7_at wsX7_at) := goodIn_app (goodIn_of _ (by decide +kernel)) ggX4_isDigit_X7_at
theorem bdX4_isDigit_0 : (decode cX4_isDigit 0 = .ok (.aload_n 0, 1)) ∧ (decode cX4_isDigit 1 = .ok (.getfield 16, 3)) ∧ (decode cX4_isDigit 4 = .ok (.aload_n 0, 1)) ∧ (decode cX4_isDigit 5 = .ok (.getfield 30, 3)) ∧ (decode cX4_isDigit 8 = .ok (.invokevirtual 40, 3)) ∧ (decode cX4_isDigit 11 = .ok (.bipush 48, 2)) ∧ (decode cX4_isDigit 13 = .ok (.if_icmp .lt 23, 3)) ∧ (decode cX4_isDigit 16 = .ok (.aload_n 0, 1)) ∧ (decode cX4_isDigit 17 = .ok (.getfield 16, 3)) ∧ (decode cX4_isDigit 20 = .ok (.aload_n 0, 1)) ∧ (decode cX4_isDigit 21 = .ok (.getfield 30, 3)) ∧ (decode cX4_isDigit 24 = .ok (.invokevirtual 40, 3)) ∧ (decode cX4_isDigit 27 = .ok (.bipush 57, 2)) ∧ (decode cX4_isDigit 29 = .ok (.if_icmp .gt 7, 3)) ∧ (decode cX4_isDigit 32 = .ok (.iconst 1, 1)) ∧ (decode cX4_isDigit 33 = .ok (.goto 4, 3)) := by decide +kernel
theorem dX4_isDigit_0 : decode cX4_isDigit 0 = .ok (.aload_n 0, 1) := bdX4_isDigit_0.1
theorem dX4_isDigit_1 : decode cX4_isDigit 1 = .ok (.getfield 16, 3) := bdX4_isDigit_0.2.1
theorem dX4_isDigit_4 : decode cX4_isDigit 4 = .ok (.aload_n 0, 1) := bdX4_isDigit_0.2.2.1
theorem dX4_isDigit_5 : decode cX4_isDigit 5 = .ok (.getfield 30, 3) := bdX4_isDigit_0.2.2.2.1
theorem dX4_isDigit_8 : decode cX4_isDigit 8 = .ok (.invokevirtual 40, 3) := bdX4_isDigit_0.2.2.2.2.1
theorem dX4_isDigit_11 : decode cX4_isDigit 11 = .ok (.bipush 48, 2) := bdX4_isDigit_0.2.2.2.2.2.1
theorem dX4_isDigit_13 : decode cX4_isDigit 13 = .ok (.if_icmp .lt 23, 3) := bdX4_isDigit_0.2.2.2.2.2.2.1
theorem dX4_isDigit_16 : decode cX4_isDigit 16 = .ok (.aload_n 0, 1) := bdX4_isDigit_0.2.2.2.2.2.2.2.1
theorem dX4_isDigit_17 : decode cX4_isDigit 17 = .ok (.getfield 16, 3) := bdX4_isDigit_0.2.2.2.2.2.2.2.2.1
theorem dX4_isDigit_20 : decode cX4_isDigit 20 = .ok (.aload_n 0, 1) := bdX4_isDigit_0.2.2.2.2.2.2.2.2.2.1
theorem dX4_isDigit_21 : decode cX4_isDigit 21 = .ok (.getfield 30, 3) := bdX4_isDigit_0.2.2.2.2.2.2.2.2.2.2.1
theorem dX4_isDigit_24 : decode cX4_isDigit 24 = .ok (.invokevirtual 40, 3) := bdX4_isDigit_0.2.2.2.2.2.2.2.2.2.2.2.1
theorem dX4_isDigit_27 : decode cX4_isDigit 27 = .ok (.bipush 57, 2) := bdX4_isDigit_0.2.2.2.2.2.2.2.2.2.2.2.2.1
theorem dX4_isDigit_29 : decode cX4_isDigit 29 = .ok (.if_icmp .gt 7, 3) := bdX4_isDigit_0.2.2.2.2.2.2.2.2.2.2.2.2.2.1
theorem dX4_isDigit_32 : decode cX4_isDigit 32 = .ok (.iconst 1, 1) := bdX4_isDigit_0.2.2.2.2.2.2.2.2.2.2.2.2.2.2.1
theorem dX4_isDigit_33 : decode cX4_isDigit 33 = .ok (.goto 4, 3) := bdX4_isDigit_0.2.2.2.2.2.2.2.2.2.2.2.2.2.2.2
theorem dX4_isDigit_36 : decode cX4_isDigit 36 = .ok (.iconst 0, 1) := by decide +kernel
theorem dX4_isDigit_37 : decode cX4_isDigit 37 = .ok (.ireturn, 1) := by decide +kernel
set_option maxHeartbeats 4000000 in
set_option maxRecDepth 100000 in
theorem k_X4_isDigit (l : Launch) (dC : Nat → ClassId) (dI : Nat → Nat → Nat) (h : Nat → Nat) (cs : Nat → ClassId) (sz : Nat) (I : Nat → Int32) (L : Nat → Int64) (A : Nat → Nat → Int32) (Q : Nat → Nat → Int64) (G : Nat → Nat → Nat → Int32) (J : Nat → Nat → Nat → Int64) (T p9 : Nat) (hT : I 151 = nI T) (hT9 : T ≤ 90) (hp : I 169 = nI p9) (hpT : p9 ≤ T) : Met l yX4_isDigit wsX4_isDigit ({ frames := 1, cells := 0, slots := 0, locals := 21 }) (va_Pc [.ref (h 104)] (xPre (dC, dI) (wRead h cs I L A Q G J) (tysA cs) sz)) (va_Qi (fun (r : Int32) (u : CS) => ((r = nI 1 ∧ p9 < T ∧ IsDig (A 150 p9)) ∨ (r = nI 0 ∧ ¬ (p9 < T ∧ IsDig (A 150 p9)))) ∧ u = (I, L, A, Q, G, J)) (xB (dC, dI) (tysA cs) (va_A (wRead h cs I L A Q G J) sz) (fun u : CS => wRead h cs u.1 u.2.1 u.2.2.1 u.2.2.2.1 u.2.2.2.2.1 u.2.2.2.2.2)) (va_A (wRead h cs I L A Q G J) sz)) 0 0 (va_A (wRead h cs I L A Q G J) sz) := by
  refine Met.ofW (cc := cX4_isDigit) (maxL := 1) (ret := (some .boolean)) (by decide) rfl ?_
  intro p e s m args below meth c s₁ B hml hv
  obtain ⟨rfl, hsz, hP, hK, hD0, hN⟩ := hv
  have hx := B.exec
  have hb := B.bytes
  have hr := B.returns
  have hts := atoms_spec (ws := wsX4_isDigit) B.pre
  have hown : s.vm.findClass RX4 = some m.cls := findClass_of_methodNamed B.named
  have hlocks := B.notSynchronized
  subst hsz
  have hD := hD0.self (sz := s.heap.size)
  generalize hAe : va_A (wRead h cs I L A Q G J) s.heap.size = A0 at hD ⊢
  have hA : ∀ q : Nat, s.heap.size ≤ q → A0 q := fun q h => by rw [← hAe]; exact Or.inr h
  have hl := lv_entry ([.ref (h 104)]) (n := 1) (Nat.le_of_ble_eq_true rfl)
  rw [lg_entry_eq]
  generalize (lg_sl ([.ref (h 104)]) ++ List.replicate (1 - (lg_sl ([.ref (h 104)])).length) Slot.unset).toArray = ls at hl ⊢
  have hl : lv_has ls 1 [(0, .ref (h 104))] := hl
  generalize hH : s.heap = H at hP ⊢
  have hS : va_S A0 s.heap H [] := by rw [← hH]; exact va_S.rf
  have hinX4 : ∀ w ∈ wsX40, w ∈ wsX4_isDigit := by decide +kernel
  refine lv_aload_n hx hb dX4_isDigit_0 rfl (lv_at hl 0 rfl) ?_
  refine va_get (D := (dC, dI)) (ci := 4) (v := .ref (h 103)) (C := RX4) (T := TX4) (N := 6) hx hb hts hinX4 hown hK hP 0 rfl rfl 0 (by decide) (hts (.fieldLink RX4 16 "MixedWords$Reader" "tape" "LMixedWords$Tape;") (by decide +kernel)) (fun _ h9 => h9) rfl dX4_isDigit_1 ?_
  refine lv_aload_n hx hb dX4_isDigit_4 rfl (lv_at hl 0 rfl) ?_
  refine va_get (D := (dC, dI)) (ci := 4) (v := .int (I 169)) (C := RX4) (T := TX4) (N := 6) hx hb hts hinX4 hown hK hP 0 rfl rfl 5 (by decide) (hts (.fieldLink RX4 30 "MixedWords$Reader" "place" "I") (by decide +kernel)) (fun _ h9 => h9) rfl dX4_isDigit_5 ?_
  refine xt_i (y := nI p9) (hp) ?_
  refine xj_i (wc := (wTape h cs I L A Q G J)) (wr := [(h 104, .inr (4, [.ref (h 103), .ref (h 160), .int (I 166), .int (I 167), .int (I 168), .int (I 169)])), (h 160, .inl (cs 3, 5, .inr (.inr (.inr (.inr (fun i => if i < 5 then some (h (i + 161)) else none)))))), (h 161, .inl (cs 0, 4, .inl ((G 1) 0))), (h 162, .inl (cs 0, 4, .inl ((G 1) 1))), (h 163, .inl (cs 0, 4, .inl ((G 1) 2))), (h 164, .inl (cs 0, 4, .inl ((G 1) 3))), (h 165, .inl (cs 0, 4, .inl ((G 1) 4)))]) hP hD hS hA [7, 8] [0, 1, 2, 3, 4, 5, 6] rfl rfl (by decide +kernel) (by decide +kernel) (va_runV (As := [.int (nI p9)]) (rest := []) ⟨hx, hb, hml, hown, hts⟩ (k_X7_at l dC dI h cs H.size I L A Q G J (nI p9) T hT (by first | assumption | omega | exact hT9)) (cwV 1 hts gX4_isDigit_X7_at rfl rfl rfl (by decide +kernel) ⟨Nat.le_of_ble_eq_true rfl, Nat.le_of_ble_eq_true rfl⟩) (xpV (wc := (wTape h cs I L A Q G J)) hP hD hK hN [7, 8] rfl (by decide) 7 (ci := 7) rfl rfl _) rfl rfl hl.1 rfl (lv_room (Nat.le_of_ble_eq_true rfl)) dX4_isDigit_8 ⟨Nat.zero_le _, Nat.zero_le _⟩) (fun r_2 u_1 H locs hw hP hD hS => ?_)
  obtain ⟨hf_3, rfl⟩ := hw
  have hP : va_P (dC, dI) vwCl (wRead h cs I L A Q G J) H := hP
  have hD : va_D A0 (wRead h cs I L A Q G J) := hD
  have hat1 := at_c (by omega) (by omega) hf_3
  clear hf_3
  refine lv_bipush (v := nI 48) hx hb dX4_isDigit_11 (by decide) ?_
  refine lv_icmp_lt (tgt := 36) hx hb dX4_isDigit_13 (by decide) (fun c_13_3 => ?_) (fun c_13_3 => ?_)
  · skip
    refine lv_iconst (v := nI 0) hx hb dX4_isDigit_36 (by decide) ?_
    exact xr_z (v := (nI 0)) hx hb hr hlocks hK hS dX4_isDigit_37 (rfl) (I, L, A, Q, G, J) ⟨(Or.inr ⟨rfl, by first | exact dig_n1 hat1 (by assumption) | exact dig_n2 hat2 (by assumption)⟩), rfl⟩ hP hD
  · skip
    refine lv_aload_n hx hb dX4_isDigit_16 rfl (lv_at hl 0 rfl) ?_
    refine va_get (D := (dC, dI)) (ci := 4) (v := .ref (h 103)) (C := RX4) (T := TX4) (N := 6) hx hb hts hinX4 hown hK hP 0 rfl rfl 0 (by decide) (hts (.fieldLink RX4 16 "MixedWords$Reader" "tape" "LMixedWords$Tape;") (by decide +kernel)) (fun _ h9 => h9) rfl dX4_isDigit_17 ?_
    refine lv_aload_n hx hb dX4_isDigit_20 rfl (lv_at hl 0 rfl) ?_
    refine va_get (D := (dC, dI)) (ci := 4) (v := .int (I 169)) (C := RX4) (T := TX4) (N := 6) hx hb hts hinX4 hown hK hP 0 rfl rfl 5 (by decide) (hts (.fieldLink RX4 30 "MixedWords$Reader" "place" "I") (by decide +kernel)) (fun _ h9 => h9) rfl dX4_isDigit_21 ?_
    refine xt_i (y := nI p9) (hp) ?_
    refine xj_i (wc := (wTape h cs I L A Q G J)) (wr := [(h 104, .inr (4, [.ref (h 103), .ref (h 160), .int (I 166), .int (I 167), .int (I 168), .int (I 169)])), (h 160, .inl (cs 3, 5, .inr (.inr (.inr (.inr (fun i => if i < 5 then some (h (i + 161)) else none)))))), (h 161, .inl (cs 0, 4, .inl ((G 1) 0))), (h 162, .inl (cs 0, 4, .inl ((G 1) 1))), (h 163, .inl (cs 0, 4, .inl ((G 1) 2))), (h 164, .inl (cs 0, 4, .inl ((G 1) 3))), (h 165, .inl (cs 0, 4, .inl ((G 1) 4)))]) hP hD hS hA [7, 8] [0, 1, 2, 3, 4, 5, 6] rfl rfl (by decide +kernel) (by decide +kernel) (va_runV (As := [.int (nI p9)]) (rest := []) ⟨hx, hb, hml, hown, hts⟩ (k_X7_at l dC dI h cs H.size I L A Q G J (nI p9) T hT (by first | assumption | omega | exact hT9)) (cwV 1 hts gX4_isDigit_X7_at rfl rfl rfl (by decide +kernel) ⟨Nat.le_of_ble_eq_true rfl, Nat.le_of_ble_eq_true rfl⟩) (xpV (wc := (wTape h cs I L A Q G J)) hP hD hK hN [7, 8] rfl (by decide) 7 (ci := 7) rfl rfl _) rfl rfl hl.1 rfl (lv_room (Nat.le_of_ble_eq_true rfl)) dX4_isDigit_24 ⟨Nat.zero_le _, Nat.zero_le _⟩) (fun r_6 u_5 H locs hw hP hD hS => ?_)
    obtain ⟨hf_7, rfl⟩ := hw
    have hP : va_P (dC, dI) vwCl (wRead h cs I L A Q G J) H := hP
    have hD : va_D A0 (wRead h cs I L A Q G J) := hD
    have hat2 := at_c (by omega) (by omega) hf_7
    clear hf_7
    refine lv_bipush (v := nI 57) hx hb dX4_isDigit_27 (by decide) ?_
    refine lv_icmp_gt (tgt := 36) hx hb dX4_isDigit_29 (by decide) (fun c_29_7 => ?_) (fun c_29_7 => ?_)
    · skip
      refine lv_iconst (v := nI 0) hx hb dX4_isDigit_36 (by decide) ?_
      exact xr_z (v := (nI 0)) hx hb hr hlocks hK hS dX4_isDigit_37 (rfl) (I, L, A, Q, G, J) ⟨(Or.inr ⟨rfl, by first | exact dig_n1 hat1 (by assumption) | exact dig_n2 hat2 (by assumption)⟩), rfl⟩ hP hD
    · skip
      refine lv_iconst (v := nI 1) hx hb dX4_isDigit_32 (by decide) ?_
      refine lv_goto (tgt := 37) hx hb dX4_isDigit_33 (by decide) ?_
      exact xr_z (v := (nI 1)) hx hb hr hlocks hK hS dX4_isDigit_37 (rfl) (I, L, A, Q, G, J) ⟨(Or.inl ⟨rfl, dig_y hat1 hat2 (by assumption) (by assumption)⟩), rfl⟩ hP hD
theorem bdX4_isRowWhole_0 : (decode cX4_isRowWhole 0 = .ok (.aload_n 0, 1)) ∧ (decode cX4_isRowWhole 1 = .ok (.getfield 20, 3)) ∧ (decode cX4_isRowWhole 4 = .ok (.ifCond .eq 14, 3)) ∧ (decode cX4_isRowWhole 7 = .ok (.aload_n 0, 1)) ∧ (decode cX4_isRowWhole 8 = .ok (.getfield 27, 3)) ∧ (decode cX4_isRowWhole 11 = .ok (.aload_n 0, 1)) ∧ (decode cX4_isRowWhole 12 = .ok (.getfield 24, 3)) ∧ (decode cX4_isRowWhole 15 = .ok (.if_icmp .ne 7, 3)) ∧ (decode cX4_isRowWhole 18 = .ok (.iconst 1, 1)) ∧ (decode cX4_isRowWhole 19 = .ok (.goto 4, 3)) ∧ (decode cX4_isRowWhole 22 = .ok (.iconst 0, 1)) ∧ (decode cX4_isRowWhole 23 = .ok (.ireturn, 1)) := by decide +kernel
theorem dX4_isRowWhole_0 : decode cX4_isRowWhole 0 = .ok (.aload_n 0, 1) := bdX4_isRowWhole_0.1
theorem dX4_isRowWhole_1 : decode cX4_isRowWhole 1 = .ok (.getfield 20, 3) := bdX4_isRowWhole_0.2.1
theorem dX4_isRowWhole_4 : decode cX4_isRowWhole 4 = .ok (.ifCond .eq 14, 3) := bdX4_isRowWhole_0.2.2.1
theorem dX4_isRowWhole_7 : decode cX4_isRowWhole 7 = .ok (.aload_n 0, 1) := bdX4_isRowWhole_0.2.2.2.1
theorem dX4_isRowWhole_8 : decode cX4_isRowWhole 8 = .ok (.getfield 27, 3) := bdX4_isRowWhole_0.2.2.2.2.1
theorem dX4_isRowWhole_11 : decode cX4_isRowWhole 11 = .ok (.aload_n 0, 1) := bdX4_isRowWhole_0.2.2.2.2.2.1
theorem dX4_isRowWhole_12 : decode cX4_isRowWhole 12 = .ok (.getfield 24, 3) := bdX4_isRowWhole_0.2.2.2.2.2.2.1
theorem dX4_isRowWhole_15 : decode cX4_isRowWhole 15 = .ok (.if_icmp .ne 7, 3) := bdX4_isRowWhole_0.2.2.2.2.2.2.2.1
theorem dX4_isRowWhole_18 : decode cX4_isRowWhole 18 = .ok (.iconst 1, 1) := bdX4_isRowWhole_0.2.2.2.2.2.2.2.2.1
theorem dX4_isRowWhole_19 : decode cX4_isRowWhole 19 = .ok (.goto 4, 3) := bdX4_isRowWhole_0.2.2.2.2.2.2.2.2.2.1
theorem dX4_isRowWhole_22 : decode cX4_isRowWhole 22 = .ok (.iconst 0, 1) := bdX4_isRowWhole_0.2.2.2.2.2.2.2.2.2.2.1
theorem dX4_isRowWhole_23 : decode cX4_isRowWhole 23 = .ok (.ireturn, 1) := bdX4_isRowWhole_0.2.2.2.2.2.2.2.2.2.2.2
set_option maxHeartbeats 4000000 in
set_option maxRecDepth 100000 in
theorem k_X4_isRowWhole (l : Launch) (dC : Nat → ClassId) (dI : Nat → Nat → Nat) (h : Nat → Nat) (cs : Nat → ClassId) (sz : Nat) (I : Nat → Int32) (L : Nat → Int64) (A : Nat → Nat → Int32) (Q : Nat → Nat → Int64) (G : Nat → Nat → Nat → Int32) (J : Nat → Nat → Nat → Int64) (h6 w6 r6 : Nat) (hh : I 166 = nI h6) (hh4 : h6 ≤ 4) (hw : I 167 = nI w6) (hw4 : w6 ≤ 4) (hi6 : I 168 = nI r6) (hi4 : r6 ≤ 4) : Met l yX4_isRowWhole wsX4_isRowWhole ({ frames := 0, cells := 0, slots := 0, locals := 0 }) (va_Pc [.ref (h 104)] (xPre (dC, dI) (wRead h cs I L A Q G J) (tysA cs) sz)) (va_Qi (fun (r : Int32) (u : CS) => ((r = nI 1 ∧ (h6 = 0 ∨ r6 = w6)) ∨ (r = nI 0 ∧ ¬ (h6 = 0 ∨ r6 = w6))) ∧ u = (I, L, A, Q, G, J)) (xB (dC, dI) (tysA cs) (va_A (wRead h cs I L A Q G J) sz) (fun u : CS => wRead h cs u.1 u.2.1 u.2.2.1 u.2.2.2.1 u.2.2.2.2.1 u.2.2.2.2.2)) (va_A (wRead h cs I L A Q G J) sz)) 0 0 (va_A (wRead h cs I L A Q G J) sz) := by
  refine Met.ofW (cc := cX4_isRowWhole) (maxL := 1) (ret := (some .boolean)) (by decide) rfl ?_
  intro p e s m args below meth c s₁ B hml hv
  obtain ⟨rfl, hsz, hP, hK, hD0, hN⟩ := hv
  have hx := B.exec
  have hb := B.bytes
  have hr := B.returns
  have hts := atoms_spec (ws := wsX4_isRowWhole) B.pre
  have hown : s.vm.findClass RX4 = some m.cls := findClass_of_methodNamed B.named
  have hlocks := B.notSynchronized
  subst hsz
  have hD := hD0.self (sz := s.heap.size)
  generalize hAe : va_A (wRead h cs I L A Q G J) s.heap.size = A0 at hD ⊢
  have hA : ∀ q : Nat, s.heap.size ≤ q → A0 q := fun q h => by rw [← hAe]; exact Or.inr h
  have hl := lv_entry ([.ref (h 104)]) (n := 1) (Nat.le_of_ble_eq_true rfl)
  rw [lg_entry_eq]
  generalize (lg_sl ([.ref (h 104)]) ++ List.replicate (1 - (lg_sl ([.ref (h 104)])).length) Slot.unset).toArray = ls at hl ⊢
  have hl : lv_has ls 1 [(0, .ref (h 104))] := hl
  generalize hH : s.heap = H at hP ⊢
  have hS : va_S A0 s.heap H [] := by rw [← hH]; exact va_S.rf
  have hinX4 : ∀ w ∈ wsX40, w ∈ wsX4_isRowWhole := by decide +kernel
  refine lv_aload_n hx hb dX4_isRowWhole_0 rfl (lv_at hl 0 rfl) ?_
  refine va_get (D := (dC, dI)) (ci := 4) (v := .int (I 166)) (C := RX4) (T := TX4) (N := 6) hx hb hts hinX4 hown hK hP 0 rfl rfl 2 (by decide) (hts (.fieldLink RX4 20 "MixedWords$Reader" "height" "I") (by decide +kernel)) (fun _ h9 => h9) rfl dX4_isRowWhole_1 ?_
  refine xt_i (y := nI h6) (hh) ?_
  refine xz_eq (tgt := 18) hx hb dX4_isRowWhole_4 (by decide) (by omega) (fun c_4_0 => ?_) (fun c_4_0 => ?_)
  · skip
    refine lv_iconst (v := nI 1) hx hb dX4_isRowWhole_18 (by decide) ?_
    refine lv_goto (tgt := 23) hx hb dX4_isRowWhole_19 (by decide) ?_
    exact xr_z (v := (nI 1)) hx hb hr hlocks hK hS dX4_isRowWhole_23 (rfl) (I, L, A, Q, G, J) ⟨(Or.inl ⟨rfl, by omega⟩), rfl⟩ hP hD
  · skip
    refine lv_aload_n hx hb dX4_isRowWhole_7 rfl (lv_at hl 0 rfl) ?_
    refine va_get (D := (dC, dI)) (ci := 4) (v := .int (I 168)) (C := RX4) (T := TX4) (N := 6) hx hb hts hinX4 hown hK hP 0 rfl rfl 4 (by decide) (hts (.fieldLink RX4 27 "MixedWords$Reader" "inRow" "I") (by decide +kernel)) (fun _ h9 => h9) rfl dX4_isRowWhole_8 ?_
    refine xt_i (y := nI r6) (hi6) ?_
    refine lv_aload_n hx hb dX4_isRowWhole_11 rfl (lv_at hl 0 rfl) ?_
    refine va_get (D := (dC, dI)) (ci := 4) (v := .int (I 167)) (C := RX4) (T := TX4) (N := 6) hx hb hts hinX4 hown hK hP 0 rfl rfl 3 (by decide) (hts (.fieldLink RX4 24 "MixedWords$Reader" "width" "I") (by decide +kernel)) (fun _ h9 => h9) rfl dX4_isRowWhole_12 ?_
    refine xt_i (y := nI w6) (hw) ?_
    refine xn_ne (tgt := 22) hx hb dX4_isRowWhole_15 (by decide) (by omega) (by omega) (fun c_15_1 => ?_) (fun c_15_1 => ?_)
    · skip
      refine lv_iconst (v := nI 0) hx hb dX4_isRowWhole_22 (by decide) ?_
      exact xr_z (v := (nI 0)) hx hb hr hlocks hK hS dX4_isRowWhole_23 (rfl) (I, L, A, Q, G, J) ⟨(Or.inr ⟨rfl, by omega⟩), rfl⟩ hP hD
    · skip
      refine lv_iconst (v := nI 1) hx hb dX4_isRowWhole_18 (by decide) ?_
      refine lv_goto (tgt := 23) hx hb dX4_isRowWhole_19 (by decide) ?_
      exact xr_z (v := (nI 1)) hx hb hr hlocks hK hS dX4_isRowWhole_23 (rfl) (I, L, A, Q, G, J) ⟨(Or.inl ⟨rfl, by omega⟩), rfl⟩ hP hD
theorem bdX4_endRow_0 : (decode cX4_endRow 0 = .ok (.aload_n 0, 1)) ∧ (decode cX4_endRow 1 = .ok (.aload_n 0, 1)) ∧ (decode cX4_endRow 2 = .ok (.getfield 27, 3)) ∧ (decode cX4_endRow 5 = .ok (.putfield 24, 3)) ∧ (decode cX4_endRow 8 = .ok (.aload_n 0, 1)) ∧ (decode cX4_endRow 9 = .ok (.iconst 0, 1)) ∧ (decode cX4_endRow 10 = .ok (.putfield 27, 3)) ∧ (decode cX4_endRow 13 = .ok (.aload_n 0, 1)) ∧ (decode cX4_endRow 14 = .ok (.dup, 1)) ∧ (decode cX4_endRow 15 = .ok (.getfield 20, 3)) ∧ (decode cX4_endRow 18 = .ok (.iconst 1, 1)) ∧ (decode cX4_endRow 19 = .ok (.iadd, 1)) ∧ (decode cX4_endRow 20 = .ok (.putfield 20, 3)) ∧ (decode cX4_endRow 23 = .ok (.return_, 1)) := by decide +kernel
theorem dX4_endRow_0 : decode cX4_endRow 0 = .ok (.aload_n 0, 1) := bdX4_endRow_0.1
theorem dX4_endRow_1 : decode cX4_endRow 1 = .ok (.aload_n 0, 1) := bdX4_endRow_0.2.1
theorem dX4_endRow_2 : decode cX4_endRow 2 = .ok (.getfield 27, 3) := bdX4_endRow_0.2.2.1
theorem dX4_endRow_5 : decode cX4_endRow 5 = .ok (.putfield 24, 3) := bdX4_endRow_0.2.2.2.1
theorem dX4_endRow_8 : decode cX4_endRow 8 = .ok (.aload_n 0, 1) := bdX4_endRow_0.2.2.2.2.1
theorem dX4_endRow_9 : decode cX4_endRow 9 = .ok (.iconst 0, 1) := bdX4_endRow_0.2.2.2.2.2.1
theorem dX4_endRow_10 : decode cX4_endRow 10 = .ok (.putfield 27, 3) := bdX4_endRow_0.2.2.2.2.2.2.1
theorem dX4_endRow_13 : decode cX4_endRow 13 = .ok (.aload_n 0, 1) := bdX4_endRow_0.2.2.2.2.2.2.2.1
theorem dX4_endRow_14 : decode cX4_endRow 14 = .ok (.dup, 1) := bdX4_endRow_0.2.2.2.2.2.2.2.2.1
theorem dX4_endRow_15 : decode cX4_endRow 15 = .ok (.getfield 20, 3) := bdX4_endRow_0.2.2.2.2.2.2.2.2.2.1
theorem dX4_endRow_18 : decode cX4_endRow 18 = .ok (.iconst 1, 1) := bdX4_endRow_0.2.2.2.2.2.2.2.2.2.2.1
theorem dX4_endRow_19 : decode cX4_endRow 19 = .ok (.iadd, 1) := bdX4_endRow_0.2.2.2.2.2.2.2.2.2.2.2.1
theorem dX4_endRow_20 : decode cX4_endRow 20 = .ok (.putfield 20, 3) := bdX4_endRow_0.2.2.2.2.2.2.2.2.2.2.2.2.1
theorem dX4_endRow_23 : decode cX4_endRow 23 = .ok (.return_, 1) := bdX4_endRow_0.2.2.2.2.2.2.2.2.2.2.2.2.2
set_option maxHeartbeats 4000000 in
set_option maxRecDepth 100000 in
theorem k_X4_endRow (l : Launch) (dC : Nat → ClassId) (dI : Nat → Nat → Nat) (h : Nat → Nat) (cs : Nat → ClassId) (sz : Nat) (I : Nat → Int32) (L : Nat → Int64) (A : Nat → Nat → Int32) (Q : Nat → Nat → Int64) (G : Nat → Nat → Nat → Int32) (J : Nat → Nat → Nat → Int64) (h6 r6 : Nat) (hh : I 166 = nI h6) (hh4 : h6 ≤ 4) (hi6 : I 168 = nI r6) (hi4 : r6 ≤ 4) : Met l yX4_endRow wsX4_endRow ({ frames := 0, cells := 0, slots := 0, locals := 0 }) (va_Pc [.ref (h 104)] (xPre (dC, dI) (wRead h cs I L A Q G J) (tysA cs) sz)) (va_Qv (fun (u : CS) => ∃ i167 : Int32, ∃ i168 : Int32, ∃ i166 : Int32, (i166 = nI (h6 + 1) ∧ i167 = nI r6 ∧ i168 = nI 0) ∧ u = ((va_up (va_up (va_up I 167 i167) 168 i168) 166 i166), L, A, Q, G, J)) (xB (dC, dI) (tysA cs) (va_A (wRead h cs I L A Q G J) sz) (fun u : CS => wRead h cs u.1 u.2.1 u.2.2.1 u.2.2.2.1 u.2.2.2.2.1 u.2.2.2.2.2)) (va_A (wRead h cs I L A Q G J) sz)) 0 0 (va_A (wRead h cs I L A Q G J) sz) := by
  refine Met.ofW (cc := cX4_endRow) (maxL := 1) (ret := none) (by decide) rfl ?_
  intro p e s m args below meth c s₁ B hml hv
  obtain ⟨rfl, hsz, hP, hK, hD0, hN⟩ := hv
  have hx := B.exec
  have hb := B.bytes
  have hr := B.returns
  have hts := atoms_spec (ws := wsX4_endRow) B.pre
  have hown : s.vm.findClass RX4 = some m.cls := findClass_of_methodNamed B.named
  have hlocks := B.notSynchronized
  subst hsz
  have hD := hD0.self (sz := s.heap.size)
  generalize hAe : va_A (wRead h cs I L A Q G J) s.heap.size = A0 at hD ⊢
  have hA : ∀ q : Nat, s.heap.size ≤ q → A0 q := fun q h => by rw [← hAe]; exact Or.inr h
  have hl := lv_entry ([.ref (h 104)]) (n := 1) (Nat.le_of_ble_eq_true rfl)
  rw [lg_entry_eq]
  generalize (lg_sl ([.ref (h 104)]) ++ List.replicate (1 - (lg_sl ([.ref (h 104)])).length) Slot.unset).toArray = ls at hl ⊢
  have hl : lv_has ls 1 [(0, .ref (h 104))] := hl
  generalize hH : s.heap = H at hP ⊢
  have hS : va_S A0 s.heap H [] := by rw [← hH]; exact va_S.rf
  have hinX4 : ∀ w ∈ wsX40, w ∈ wsX4_endRow := by decide +kernel
  refine lv_aload_n hx hb dX4_endRow_0 rfl (lv_at hl 0 rfl) ?_
  refine lv_aload_n hx hb dX4_endRow_1 rfl (lv_at hl 0 rfl) ?_
  refine va_get (D := (dC, dI)) (ci := 4) (v := .int (I 168)) (C := RX4) (T := TX4) (N := 6) hx hb hts hinX4 hown hK hP 0 rfl rfl 4 (by decide) (hts (.fieldLink RX4 27 "MixedWords$Reader" "inRow" "I") (by decide +kernel)) (fun _ h9 => h9) rfl dX4_endRow_2 ?_
  refine xt_i (y := nI r6) (hi6) ?_
  refine va_put (D := (dC, dI)) (ci := 4) (v := .int (nI r6)) (ty := .int) (C := RX4) (T := TX4) (N := 6) hx hb hts hinX4 tyX4 tyX4_ok nmX4 hown hK hP hD hS 0 rfl rfl 3 (by decide) (hts (.fieldLink RX4 24 "MixedWords$Reader" "width" "I") (by decide +kernel)) (fun _ h9 => h9) rfl (by decide +kernel) rfl rfl (Nat.le_of_ble_eq_true rfl) dX4_endRow_5 (fun H locs hP hD hS => ?_)
  have hP : va_P (dC, dI) vwCl (wRead h cs (va_up I 167 (nI r6)) L A Q G J) H := hP
  have hD : va_D A0 (wRead h cs (va_up I 167 (nI r6)) L A Q G J) := hD
  refine lv_aload_n hx hb dX4_endRow_8 rfl (lv_at hl 0 rfl) ?_
  refine lv_iconst (v := nI 0) hx hb dX4_endRow_9 (by decide) ?_
  refine va_put (D := (dC, dI)) (ci := 4) (v := .int (nI 0)) (ty := .int) (C := RX4) (T := TX4) (N := 6) hx hb hts hinX4 tyX4 tyX4_ok nmX4 hown hK hP hD hS 0 rfl rfl 4 (by decide) (hts (.fieldLink RX4 27 "MixedWords$Reader" "inRow" "I") (by decide +kernel)) (fun _ h9 => h9) rfl (by decide +kernel) rfl rfl (Nat.le_of_ble_eq_true rfl) dX4_endRow_10 (fun H locs hP hD hS => ?_)
  have hP : va_P (dC, dI) vwCl (wRead h cs (va_up (va_up I 167 (nI r6)) 168 (nI 0)) L A Q G J) H := hP
  have hD : va_D A0 (wRead h cs (va_up (va_up I 167 (nI r6)) 168 (nI 0)) L A Q G J) := hD
  refine lv_aload_n hx hb dX4_endRow_13 rfl (lv_at hl 0 rfl) ?_
  refine lv_dup hx hb dX4_endRow_14 rfl ?_
  refine va_get (D := (dC, dI)) (ci := 4) (v := .int (I 166)) (C := RX4) (T := TX4) (N := 6) hx hb hts hinX4 hown hK hP 0 rfl rfl 2 (by decide) (hts (.fieldLink RX4 20 "MixedWords$Reader" "height" "I") (by decide +kernel)) (fun _ h9 => h9) rfl dX4_endRow_15 ?_
  refine xt_i (y := nI h6) (hh) ?_
  refine lv_iconst (v := nI 1) hx hb dX4_endRow_18 (by decide) ?_
  refine lv_iadd hx hb dX4_endRow_19 ?_
  refine xt_i (y := nI (h6 + 1)) (nI_add _ _) ?_
  refine va_put (D := (dC, dI)) (ci := 4) (v := .int (nI (h6 + 1))) (ty := .int) (C := RX4) (T := TX4) (N := 6) hx hb hts hinX4 tyX4 tyX4_ok nmX4 hown hK hP hD hS 0 rfl rfl 2 (by decide) (hts (.fieldLink RX4 20 "MixedWords$Reader" "height" "I") (by decide +kernel)) (fun _ h9 => h9) rfl (by decide +kernel) rfl rfl (Nat.le_of_ble_eq_true rfl) dX4_endRow_20 (fun H locs hP hD hS => ?_)
  have hP : va_P (dC, dI) vwCl (wRead h cs (va_up (va_up (va_up I 167 (nI r6)) 168 (nI 0)) 166 (nI (h6 + 1))) L A Q G J) H := hP
  have hD : va_D A0 (wRead h cs (va_up (va_up (va_up I 167 (nI r6)) 168 (nI 0)) 166 (nI (h6 + 1))) L A Q G J) := hD
  exact xr_v hx hb hr hlocks hK hS dX4_endRow_23 ((va_up (va_up (va_up I 167 (nI r6)) 168 (nI 0)) 166 (nI (h6 + 1))), L, A, Q, G, J) ⟨(nI r6), (nI 0), (nI (h6 + 1)), ⟨rfl, by first | rfl | assumption, rfl⟩, rfl⟩ hP hD
set_option maxRecDepth 20000 in
theorem ggX4_takeSign_X7_at : GoodIn wsX4_takeSign wsX7_at := goodIn_r _ [10, 11, 12, 28, 29] rfl (by decide +kernel)
set_option maxRecDepth 20000 in
theorem gX4_takeSign_X7_at : GoodIn wsX4_takeSign (wsV RX4 40 RX7 yX7_at wsX7_at) := goodIn_app (goodIn_of _ (by decide +kernel)) ggX4_takeSign_X7_at
set_option maxRecDepth 20000 in
theorem ggX4_takeSign_X4_isRowWhole : GoodIn wsX4_takeSign wsX4_isRowWhole := goodIn_r _ [17, 4, 3, 5, 22, 23, 24, 25, 26, 27] rfl (by decide +kernel)
set_option maxRecDepth 20000 in
theorem gX4_takeSign_X4_isRowWhole : GoodIn wsX4_takeSign (wsV RX4 46 RX4 yX4_isRowWhole wsX4_isRowWhole) := goodIn_app (goodIn_of _ (by decide +kernel)) ggX4_takeSign_X4_isRowWhole
set_option maxRecDepth 20000 in
theorem ggX4_takeSign_X4_endRow : GoodIn wsX4_takeSign wsX4_endRow := goodIn_r _ [21, 3, 5, 4, 22, 23, 24, 25, 26, 27] rfl (by decide +kernel)
set_option maxRecDepth 20000 in
theorem gX4_takeSign_X4_endRow : GoodIn wsX4_takeSign (wsV RX4 49 RX4 yX4_endRow wsX4_endRow) := goodIn_app (goodIn_of _ (by decide +kernel)) ggX4_takeSign_X4_endRow
theorem bdX4_takeSign_0 : (decode cX4_takeSign 0 = .ok (.aload_n 0, 1)) ∧ (decode cX4_takeSign 1 = .ok (.getfield 16, 3)) ∧ (decode cX4_takeSign 4 = .ok (.aload_n 0, 1)) ∧ (decode cX4_takeSign 5 = .ok (.getfield 30, 3)) ∧ (decode cX4_takeSign 8 = .ok (.invokevirtual 40, 3)) ∧ (decode cX4_takeSign 11 = .ok (.istore_n 1, 1)) ∧ (decode cX4_takeSign 12 = .ok (.iload_n 1, 1)) ∧ (decode cX4_takeSign 13 = .ok (.bipush 44, 2)) ∧ (decode cX4_takeSign 15 = .ok (.if_icmp .ne 37, 3)) ∧ (decode cX4_takeSign 18 = .ok (.aload_n 0, 1)) ∧ (decode cX4_takeSign 19 = .ok (.getfield 27, 3)) ∧ (decode cX4_takeSign 22 = .ok (.aload_n 0, 1)) ∧ (decode cX4_takeSign 23 = .ok (.getfield 20, 3)) ∧ (decode cX4_takeSign 26 = .ok (.ifCond .ne 7, 3)) ∧ (decode cX4_takeSign 29 = .ok (.iconst 4, 1)) ∧ (decode cX4_takeSign 30 = .ok (.goto 7, 3)) := by decide +kernel
theorem dX4_takeSign_0 : decode cX4_takeSign 0 = .ok (.aload_n 0, 1) := bdX4_takeSign_0.1
theorem dX4_takeSign_1 : decode cX4_takeSign 1 = .ok (.getfield 16, 3) := bdX4_takeSign_0.2.1
theorem dX4_takeSign_4 : decode cX4_takeSign 4 = .ok (.aload_n 0, 1) := bdX4_takeSign_0.2.2.1
theorem dX4_takeSign_5 : decode cX4_takeSign 5 = .ok (.getfield 30, 3) := bdX4_takeSign_0.2.2.2.1
theorem dX4_takeSign_8 : decode cX4_takeSign 8 = .ok (.invokevirtual 40, 3) := bdX4_takeSign_0.2.2.2.2.1
theorem dX4_takeSign_11 : decode cX4_takeSign 11 = .ok (.istore_n 1, 1) := bdX4_takeSign_0.2.2.2.2.2.1
theorem dX4_takeSign_12 : decode cX4_takeSign 12 = .ok (.iload_n 1, 1) := bdX4_takeSign_0.2.2.2.2.2.2.1
theorem dX4_takeSign_13 : decode cX4_takeSign 13 = .ok (.bipush 44, 2) := bdX4_takeSign_0.2.2.2.2.2.2.2.1
theorem dX4_takeSign_15 : decode cX4_takeSign 15 = .ok (.if_icmp .ne 37, 3) := bdX4_takeSign_0.2.2.2.2.2.2.2.2.1
theorem dX4_takeSign_18 : decode cX4_takeSign 18 = .ok (.aload_n 0, 1) := bdX4_takeSign_0.2.2.2.2.2.2.2.2.2.1
theorem dX4_takeSign_19 : decode cX4_takeSign 19 = .ok (.getfield 27, 3) := bdX4_takeSign_0.2.2.2.2.2.2.2.2.2.2.1
theorem dX4_takeSign_22 : decode cX4_takeSign 22 = .ok (.aload_n 0, 1) := bdX4_takeSign_0.2.2.2.2.2.2.2.2.2.2.2.1
theorem dX4_takeSign_23 : decode cX4_takeSign 23 = .ok (.getfield 20, 3) := bdX4_takeSign_0.2.2.2.2.2.2.2.2.2.2.2.2.1
theorem dX4_takeSign_26 : decode cX4_takeSign 26 = .ok (.ifCond .ne 7, 3) := bdX4_takeSign_0.2.2.2.2.2.2.2.2.2.2.2.2.2.1
theorem dX4_takeSign_29 : decode cX4_takeSign 29 = .ok (.iconst 4, 1) := bdX4_takeSign_0.2.2.2.2.2.2.2.2.2.2.2.2.2.2.1
theorem dX4_takeSign_30 : decode cX4_takeSign 30 = .ok (.goto 7, 3) := bdX4_takeSign_0.2.2.2.2.2.2.2.2.2.2.2.2.2.2.2
theorem bdX4_takeSign_33 : (decode cX4_takeSign 33 = .ok (.aload_n 0, 1)) ∧ (decode cX4_takeSign 34 = .ok (.getfield 24, 3)) ∧ (decode cX4_takeSign 37 = .ok (.if_icmp .ge 15, 3)) ∧ (decode cX4_takeSign 40 = .ok (.aload_n 0, 1)) ∧ (decode cX4_takeSign 41 = .ok (.dup, 1)) ∧ (decode cX4_takeSign 42 = .ok (.getfield 30, 3)) ∧ (decode cX4_takeSign 45 = .ok (.iconst 1, 1)) ∧ (decode cX4_takeSign 46 = .ok (.iadd, 1)) ∧ (decode cX4_takeSign 47 = .ok (.putfield 30, 3)) ∧ (decode cX4_takeSign 50 = .ok (.iconst 1, 1)) ∧ (decode cX4_takeSign 51 = .ok (.ireturn, 1)) ∧ (decode cX4_takeSign 52 = .ok (.iload_n 1, 1)) ∧ (decode cX4_takeSign 53 = .ok (.bipush 59, 2)) ∧ (decode cX4_takeSign 55 = .ok (.if_icmp .ne 34, 3)) ∧ (decode cX4_takeSign 58 = .ok (.aload_n 0, 1)) ∧ (decode cX4_takeSign 59 = .ok (.invokevirtual 46, 3)) := by decide +kernel
theorem dX4_takeSign_33 : decode cX4_takeSign 33 = .ok (.aload_n 0, 1) := bdX4_takeSign_33.1
theorem dX4_takeSign_34 : decode cX4_takeSign 34 = .ok (.getfield 24, 3) := bdX4_takeSign_33.2.1
theorem dX4_takeSign_37 : decode cX4_takeSign 37 = .ok (.if_icmp .ge 15, 3) := bdX4_takeSign_33.2.2.1
theorem dX4_takeSign_40 : decode cX4_takeSign 40 = .ok (.aload_n 0, 1) := bdX4_takeSign_33.2.2.2.1
theorem dX4_takeSign_41 : decode cX4_takeSign 41 = .ok (.dup, 1) := bdX4_takeSign_33.2.2.2.2.1
theorem dX4_takeSign_42 : decode cX4_takeSign 42 = .ok (.getfield 30, 3) := bdX4_takeSign_33.2.2.2.2.2.1
theorem dX4_takeSign_45 : decode cX4_takeSign 45 = .ok (.iconst 1, 1) := bdX4_takeSign_33.2.2.2.2.2.2.1
theorem dX4_takeSign_46 : decode cX4_takeSign 46 = .ok (.iadd, 1) := bdX4_takeSign_33.2.2.2.2.2.2.2.1
theorem dX4_takeSign_47 : decode cX4_takeSign 47 = .ok (.putfield 30, 3) := bdX4_takeSign_33.2.2.2.2.2.2.2.2.1
theorem dX4_takeSign_50 : decode cX4_takeSign 50 = .ok (.iconst 1, 1) := bdX4_takeSign_33.2.2.2.2.2.2.2.2.2.1
theorem dX4_takeSign_51 : decode cX4_takeSign 51 = .ok (.ireturn, 1) := bdX4_takeSign_33.2.2.2.2.2.2.2.2.2.2.1
theorem dX4_takeSign_52 : decode cX4_takeSign 52 = .ok (.iload_n 1, 1) := bdX4_takeSign_33.2.2.2.2.2.2.2.2.2.2.2.1
theorem dX4_takeSign_53 : decode cX4_takeSign 53 = .ok (.bipush 59, 2) := bdX4_takeSign_33.2.2.2.2.2.2.2.2.2.2.2.2.1
theorem dX4_takeSign_55 : decode cX4_takeSign 55 = .ok (.if_icmp .ne 34, 3) := bdX4_takeSign_33.2.2.2.2.2.2.2.2.2.2.2.2.2.1
theorem dX4_takeSign_58 : decode cX4_takeSign 58 = .ok (.aload_n 0, 1) := bdX4_takeSign_33.2.2.2.2.2.2.2.2.2.2.2.2.2.2.1
theorem dX4_takeSign_59 : decode cX4_takeSign 59 = .ok (.invokevirtual 46, 3) := bdX4_takeSign_33.2.2.2.2.2.2.2.2.2.2.2.2.2.2.2
theorem bdX4_takeSign_62 : (decode cX4_takeSign 62 = .ok (.ifCond .eq 27, 3)) ∧ (decode cX4_takeSign 65 = .ok (.aload_n 0, 1)) ∧ (decode cX4_takeSign 66 = .ok (.getfield 20, 3)) ∧ (decode cX4_takeSign 69 = .ok (.iconst 4, 1)) ∧ (decode cX4_takeSign 70 = .ok (.if_icmp .ge 19, 3)) ∧ (decode cX4_takeSign 73 = .ok (.aload_n 0, 1)) ∧ (decode cX4_takeSign 74 = .ok (.invokevirtual 49, 3)) ∧ (decode cX4_takeSign 77 = .ok (.aload_n 0, 1)) ∧ (decode cX4_takeSign 78 = .ok (.dup, 1)) ∧ (decode cX4_takeSign 79 = .ok (.getfield 30, 3)) ∧ (decode cX4_takeSign 82 = .ok (.iconst 1, 1)) ∧ (decode cX4_takeSign 83 = .ok (.iadd, 1)) ∧ (decode cX4_takeSign 84 = .ok (.putfield 30, 3)) ∧ (decode cX4_takeSign 87 = .ok (.iconst 1, 1)) ∧ (decode cX4_takeSign 88 = .ok (.ireturn, 1)) ∧ (decode cX4_takeSign 89 = .ok (.iconst 0, 1)) := by decide +kernel
theorem dX4_takeSign_62 : decode cX4_takeSign 62 = .ok (.ifCond .eq 27, 3) := bdX4_takeSign_62.1
theorem dX4_takeSign_65 : decode cX4_takeSign 65 = .ok (.aload_n 0, 1) := bdX4_takeSign_62.2.1
theorem dX4_takeSign_66 : decode cX4_takeSign 66 = .ok (.getfield 20, 3) := bdX4_takeSign_62.2.2.1
theorem dX4_takeSign_69 : decode cX4_takeSign 69 = .ok (.iconst 4, 1) := bdX4_takeSign_62.2.2.2.1
theorem dX4_takeSign_70 : decode cX4_takeSign 70 = .ok (.if_icmp .ge 19, 3) := bdX4_takeSign_62.2.2.2.2.1
theorem dX4_takeSign_73 : decode cX4_takeSign 73 = .ok (.aload_n 0, 1) := bdX4_takeSign_62.2.2.2.2.2.1
theorem dX4_takeSign_74 : decode cX4_takeSign 74 = .ok (.invokevirtual 49, 3) := bdX4_takeSign_62.2.2.2.2.2.2.1
theorem dX4_takeSign_77 : decode cX4_takeSign 77 = .ok (.aload_n 0, 1) := bdX4_takeSign_62.2.2.2.2.2.2.2.1
theorem dX4_takeSign_78 : decode cX4_takeSign 78 = .ok (.dup, 1) := bdX4_takeSign_62.2.2.2.2.2.2.2.2.1
theorem dX4_takeSign_79 : decode cX4_takeSign 79 = .ok (.getfield 30, 3) := bdX4_takeSign_62.2.2.2.2.2.2.2.2.2.1
theorem dX4_takeSign_82 : decode cX4_takeSign 82 = .ok (.iconst 1, 1) := bdX4_takeSign_62.2.2.2.2.2.2.2.2.2.2.1
theorem dX4_takeSign_83 : decode cX4_takeSign 83 = .ok (.iadd, 1) := bdX4_takeSign_62.2.2.2.2.2.2.2.2.2.2.2.1
theorem dX4_takeSign_84 : decode cX4_takeSign 84 = .ok (.putfield 30, 3) := bdX4_takeSign_62.2.2.2.2.2.2.2.2.2.2.2.2.1
theorem dX4_takeSign_87 : decode cX4_takeSign 87 = .ok (.iconst 1, 1) := bdX4_takeSign_62.2.2.2.2.2.2.2.2.2.2.2.2.2.1
theorem dX4_takeSign_88 : decode cX4_takeSign 88 = .ok (.ireturn, 1) := bdX4_takeSign_62.2.2.2.2.2.2.2.2.2.2.2.2.2.2.1
theorem dX4_takeSign_89 : decode cX4_takeSign 89 = .ok (.iconst 0, 1) := bdX4_takeSign_62.2.2.2.2.2.2.2.2.2.2.2.2.2.2.2
theorem dX4_takeSign_90 : decode cX4_takeSign 90 = .ok (.ireturn, 1) := by decide +kernel
set_option maxHeartbeats 4000000 in
set_option maxRecDepth 100000 in
theorem k_X4_takeSign (l : Launch) (dC : Nat → ClassId) (dI : Nat → Nat → Nat) (h : Nat → Nat) (cs : Nat → ClassId) (sz : Nat) (I : Nat → Int32) (L : Nat → Int64) (A : Nat → Nat → Int32) (Q : Nat → Nat → Int64) (G : Nat → Nat → Nat → Int32) (J : Nat → Nat → Nat → Int64) (T p9 h6 w6 r6 : Nat) (hT : I 151 = nI T) (hT9 : T ≤ 90) (hp : I 169 = nI p9) (hpT : p9 ≤ T) (hh : I 166 = nI h6) (hh4 : h6 ≤ 4) (hw : I 167 = nI w6) (hw4 : w6 ≤ 4) (hi6 : I 168 = nI r6) (hi4 : r6 ≤ 4) : Met l yX4_takeSign wsX4_takeSign ({ frames := 1, cells := 0, slots := 0, locals := 21 }) (va_Pc [.ref (h 104)] (xPre (dC, dI) (wRead h cs I L A Q G J) (tysA cs) sz)) (va_Qi (fun (r : Int32) (u : CS) => ∃ i166 : Int32, ∃ i167 : Int32, ∃ i168 : Int32, ∃ i169 : Int32, ((r = nI 1 ∧ isC (A 150) T p9 44 ∧ r6 < (if h6 = 0 then 4 else w6) ∧ i166 = I 166 ∧ i167 = I 167 ∧ i168 = I 168 ∧ i169 = nI (p9 + 1)) ∨ (r = nI 1 ∧ isC (A 150) T p9 59 ∧ (h6 = 0 ∨ r6 = w6) ∧ h6 < 4 ∧ i166 = nI (h6 + 1) ∧ i167 = nI r6 ∧ i168 = nI 0 ∧ i169 = nI (p9 + 1)) ∨ (r = nI 0 ∧ ¬ (isC (A 150) T p9 44 ∧ r6 < (if h6 = 0 then 4 else w6)) ∧ ¬ (isC (A 150) T p9 59 ∧ (h6 = 0 ∨ r6 = w6) ∧ h6 < 4) ∧ i166 = I 166 ∧ i167 = I 167 ∧ i168 = I 168 ∧ i169 = I 169)) ∧ u = ((va_up (va_up (va_up (va_up I 166 i166) 167 i167) 168 i168) 169 i169), L, A, Q, G, J)) (xB (dC, dI) (tysA cs) (va_A (wRead h cs I L A Q G J) sz) (fun u : CS => wRead h cs u.1 u.2.1 u.2.2.1 u.2.2.2.1 u.2.2.2.2.1 u.2.2.2.2.2)) (va_A (wRead h cs I L A Q G J) sz)) 0 0 (va_A (wRead h cs I L A Q G J) sz) := by
  refine Met.ofW (cc := cX4_takeSign) (maxL := 2) (ret := (some .boolean)) (by decide) rfl ?_
  intro p e s m args below meth c s₁ B hml hv
  obtain ⟨rfl, hsz, hP, hK, hD0, hN⟩ := hv
  have hx := B.exec
  have hb := B.bytes
  have hr := B.returns
  have hts := atoms_spec (ws := wsX4_takeSign) B.pre
  have hown : s.vm.findClass RX4 = some m.cls := findClass_of_methodNamed B.named
  have hlocks := B.notSynchronized
  subst hsz
  have hD := hD0.self (sz := s.heap.size)
  generalize hAe : va_A (wRead h cs I L A Q G J) s.heap.size = A0 at hD ⊢
  have hA : ∀ q : Nat, s.heap.size ≤ q → A0 q := fun q h => by rw [← hAe]; exact Or.inr h
  have hl := lv_entry ([.ref (h 104)]) (n := 2) (Nat.le_of_ble_eq_true rfl)
  rw [lg_entry_eq]
  generalize (lg_sl ([.ref (h 104)]) ++ List.replicate (2 - (lg_sl ([.ref (h 104)])).length) Slot.unset).toArray = ls at hl ⊢
  have hl : lv_has ls 2 [(0, .ref (h 104))] := hl
  generalize hH : s.heap = H at hP ⊢
  have hS : va_S A0 s.heap H [] := by rw [← hH]; exact va_S.rf
  have hinX4 : ∀ w ∈ wsX40, w ∈ wsX4_takeSign := by decide +kernel
  refine lv_aload_n hx hb dX4_takeSign_0 rfl (lv_at hl 0 rfl) ?_
  refine va_get (D := (dC, dI)) (ci := 4) (v := .ref (h 103)) (C := RX4) (T := TX4) (N := 6) hx hb hts hinX4 hown hK hP 0 rfl rfl 0 (by decide) (hts (.fieldLink RX4 16 "MixedWords$Reader" "tape" "LMixedWords$Tape;") (by decide +kernel)) (fun _ h9 => h9) rfl dX4_takeSign_1 ?_
  refine lv_aload_n hx hb dX4_takeSign_4 rfl (lv_at hl 0 rfl) ?_
  refine va_get (D := (dC, dI)) (ci := 4) (v := .int (I 169)) (C := RX4) (T := TX4) (N := 6) hx hb hts hinX4 hown hK hP 0 rfl rfl 5 (by decide) (hts (.fieldLink RX4 30 "MixedWords$Reader" "place" "I") (by decide +kernel)) (fun _ h9 => h9) rfl dX4_takeSign_5 ?_
  refine xt_i (y := nI p9) (hp) ?_
  refine xj_i (wc := (wTape h cs I L A Q G J)) (wr := [(h 104, .inr (4, [.ref (h 103), .ref (h 160), .int (I 166), .int (I 167), .int (I 168), .int (I 169)])), (h 160, .inl (cs 3, 5, .inr (.inr (.inr (.inr (fun i => if i < 5 then some (h (i + 161)) else none)))))), (h 161, .inl (cs 0, 4, .inl ((G 1) 0))), (h 162, .inl (cs 0, 4, .inl ((G 1) 1))), (h 163, .inl (cs 0, 4, .inl ((G 1) 2))), (h 164, .inl (cs 0, 4, .inl ((G 1) 3))), (h 165, .inl (cs 0, 4, .inl ((G 1) 4)))]) hP hD hS hA [7, 8] [0, 1, 2, 3, 4, 5, 6] rfl rfl (by decide +kernel) (by decide +kernel) (va_runV (As := [.int (nI p9)]) (rest := []) ⟨hx, hb, hml, hown, hts⟩ (k_X7_at l dC dI h cs H.size I L A Q G J (nI p9) T hT (by first | assumption | omega | exact hT9)) (cwV 1 hts gX4_takeSign_X7_at rfl rfl rfl (by decide +kernel) ⟨Nat.le_of_ble_eq_true rfl, Nat.le_of_ble_eq_true rfl⟩) (xpV (wc := (wTape h cs I L A Q G J)) hP hD hK hN [7, 8] rfl (by decide) 7 (ci := 7) rfl rfl _) rfl rfl hl.1 rfl (lv_room (Nat.le_of_ble_eq_true rfl)) dX4_takeSign_8 ⟨Nat.zero_le _, Nat.zero_le _⟩) (fun r_2 u_1 H locs hw hP hD hS => ?_)
  obtain ⟨hf_3, rfl⟩ := hw
  have hP : va_P (dC, dI) vwCl (wRead h cs I L A Q G J) H := hP
  have hD : va_D A0 (wRead h cs I L A Q G J) := hD
  have hat := at_c (by omega) (by omega) hf_3
  clear hf_3
  refine lv_istore_n (lv' := [(1, .int r_2), (0, .ref (h 104))]) hx hb dX4_takeSign_11 rfl hl (by decide) rfl (fun ls hl => ?_)
  refine lv_iload_n hx hb dX4_takeSign_12 rfl (lv_at hl 0 rfl) ?_
  refine lv_bipush (v := nI 44) hx hb dX4_takeSign_13 (by decide) ?_
  refine lv_icmp_ne (tgt := 52) hx hb dX4_takeSign_15 (by decide) (fun c_15_3 => ?_) (fun c_15_3 => ?_)
  · skip
    refine lv_iload_n hx hb dX4_takeSign_52 rfl (lv_at hl 0 rfl) ?_
    refine lv_bipush (v := nI 59) hx hb dX4_takeSign_53 (by decide) ?_
    refine lv_icmp_ne (tgt := 89) hx hb dX4_takeSign_55 (by decide) (fun c_55_4 => ?_) (fun c_55_4 => ?_)
    · skip
      refine lv_iconst (v := nI 0) hx hb dX4_takeSign_89 (by decide) ?_
      exact xr_z (v := (nI 0)) hx hb hr hlocks hK hS dX4_takeSign_90 (rfl) ((va_up (va_up (va_up (va_up I 166 (I 166)) 167 (I 167)) 168 (I 168)) 169 (I 169)), L, A, Q, G, J) ⟨(I 166), (I 167), (I 168), (I 169), (Or.inr (Or.inr ⟨rfl, fun q9 => by first | exact absurd ((cmp_c (by decide) hat).mpr q9.1) (by assumption) | (have q8 := q9.2; split at q8 <;> omega), fun q9 => by first | exact absurd ((cmp_c (by decide) hat).mpr q9.1) (by assumption) | exact absurd q9.2.1 hrw | omega, rfl, rfl, rfl, rfl⟩)), rfl⟩ hP hD
    · skip
      have hlt := ((cmp_c (by decide) hat).mp c_55_4).1
      refine lv_aload_n hx hb dX4_takeSign_58 rfl (lv_at hl 1 rfl) ?_
      refine xj_i (wc := (wRead h cs I L A Q G J)) (wr := ([] : va_W)) hP hD hS hA [0, 1, 2, 3, 4, 5, 6, 7, 8] [] rfl rfl (by decide +kernel) (by decide +kernel) (va_runV (As := []) (rest := []) ⟨hx, hb, hml, hown, hts⟩ (k_X4_isRowWhole l dC dI h cs H.size I L A Q G J h6 w6 r6 hh (by first | assumption | omega | exact hh4) hw (by first | assumption | omega | exact hw4) hi6 (by first | assumption | omega | exact hi4)) (cwV 0 hts gX4_takeSign_X4_isRowWhole rfl rfl rfl (by decide +kernel) ⟨Nat.le_of_ble_eq_true rfl, Nat.le_of_ble_eq_true rfl⟩) (xpV (wc := (wRead h cs I L A Q G J)) hP hD hK hN [0, 1, 2, 3, 4, 5, 6, 7, 8] rfl (by decide) 0 (ci := 4) rfl rfl _) rfl rfl hl.1 rfl (lv_room (Nat.le_of_ble_eq_true rfl)) dX4_takeSign_59 ⟨Nat.zero_le _, Nat.zero_le _⟩) (fun r_7 u_6 H locs hw hP hD hS => ?_)
      obtain ⟨hf_8, rfl⟩ := hw
      have hP : va_P (dC, dI) vwCl (wRead h cs I L A Q G J) H := hP
      have hD : va_D A0 (wRead h cs I L A Q G J) := hD
      rcases hf_8 with ⟨rfl, hrw⟩ | ⟨rfl, hrw⟩
      · skip
        refine lv_if_eq (tgt := 89) hx hb dX4_takeSign_62 (by decide) (fun c9 => False.elim (by revert c9; decide +kernel)) (fun _ => ?_)
        refine lv_aload_n hx hb dX4_takeSign_65 rfl (lv_at hl 1 rfl) ?_
        refine va_get (D := (dC, dI)) (ci := 4) (v := .int (I 166)) (C := RX4) (T := TX4) (N := 6) hx hb hts hinX4 hown hK hP 0 rfl rfl 2 (by decide) (hts (.fieldLink RX4 20 "MixedWords$Reader" "height" "I") (by decide +kernel)) (fun _ h9 => h9) rfl dX4_takeSign_66 ?_
        refine xt_i (y := nI h6) (hh) ?_
        refine lv_iconst (v := nI 4) hx hb dX4_takeSign_69 (by decide) ?_
        refine xn_ge (tgt := 89) hx hb dX4_takeSign_70 (by decide) (by omega) (by omega) (fun c_70_8 => ?_) (fun c_70_8 => ?_)
        · skip
          refine lv_iconst (v := nI 0) hx hb dX4_takeSign_89 (by decide) ?_
          exact xr_z (v := (nI 0)) hx hb hr hlocks hK hS dX4_takeSign_90 (rfl) ((va_up (va_up (va_up (va_up I 166 (I 166)) 167 (I 167)) 168 (I 168)) 169 (I 169)), L, A, Q, G, J) ⟨(I 166), (I 167), (I 168), (I 169), (Or.inr (Or.inr ⟨rfl, fun q9 => by first | exact absurd ((cmp_c (by decide) hat).mpr q9.1) (by assumption) | (have q8 := q9.2; split at q8 <;> omega), fun q9 => by first | exact absurd ((cmp_c (by decide) hat).mpr q9.1) (by assumption) | exact absurd q9.2.1 hrw | omega, rfl, rfl, rfl, rfl⟩)), rfl⟩ hP hD
        · skip
          refine lv_aload_n hx hb dX4_takeSign_73 rfl (lv_at hl 1 rfl) ?_
          refine xj_v (wc := (wRead h cs I L A Q G J)) (wr := ([] : va_W)) hP hD hS hA [0, 1, 2, 3, 4, 5, 6, 7, 8] [] rfl rfl (by decide +kernel) (by decide +kernel) (va_runV (As := []) (rest := []) ⟨hx, hb, hml, hown, hts⟩ (k_X4_endRow l dC dI h cs H.size I L A Q G J h6 r6 hh (by first | assumption | omega | exact hh4) hi6 (by first | assumption | omega | exact hi4)) (cwV 0 hts gX4_takeSign_X4_endRow rfl rfl rfl (by decide +kernel) ⟨Nat.le_of_ble_eq_true rfl, Nat.le_of_ble_eq_true rfl⟩) (xpV (wc := (wRead h cs I L A Q G J)) hP hD hK hN [0, 1, 2, 3, 4, 5, 6, 7, 8] rfl (by decide) 0 (ci := 4) rfl rfl _) rfl rfl hl.1 rfl (lv_room (Nat.le_of_ble_eq_true rfl)) dX4_takeSign_74 ⟨Nat.zero_le _, Nat.zero_le _⟩) (fun u_10 H locs hw hP hD hS => ?_)
          obtain ⟨i167_12, i168_13, i166_14, hf_15, rfl⟩ := hw
          have hP : va_P (dC, dI) vwCl (wRead h cs (va_up (va_up (va_up I 167 i167_12) 168 i168_13) 166 i166_14) L A Q G J) H := hP
          have hD : va_D A0 (wRead h cs (va_up (va_up (va_up I 167 i167_12) 168 i168_13) 166 i166_14) L A Q G J) := hD
          obtain ⟨rfl, rfl, rfl⟩ := hf_15
          refine lv_aload_n hx hb dX4_takeSign_77 rfl (lv_at hl 1 rfl) ?_
          refine lv_dup hx hb dX4_takeSign_78 rfl ?_
          refine va_get (D := (dC, dI)) (ci := 4) (v := .int (I 169)) (C := RX4) (T := TX4) (N := 6) hx hb hts hinX4 hown hK hP 0 rfl rfl 5 (by decide) (hts (.fieldLink RX4 30 "MixedWords$Reader" "place" "I") (by decide +kernel)) (fun _ h9 => h9) rfl dX4_takeSign_79 ?_
          refine xt_i (y := nI p9) (hp) ?_
          refine lv_iconst (v := nI 1) hx hb dX4_takeSign_82 (by decide) ?_
          refine lv_iadd hx hb dX4_takeSign_83 ?_
          refine xt_i (y := nI (p9 + 1)) (nI_add _ _) ?_
          refine va_put (D := (dC, dI)) (ci := 4) (v := .int (nI (p9 + 1))) (ty := .int) (C := RX4) (T := TX4) (N := 6) hx hb hts hinX4 tyX4 tyX4_ok nmX4 hown hK hP hD hS 0 rfl rfl 5 (by decide) (hts (.fieldLink RX4 30 "MixedWords$Reader" "place" "I") (by decide +kernel)) (fun _ h9 => h9) rfl (by decide +kernel) rfl rfl (Nat.le_of_ble_eq_true rfl) dX4_takeSign_84 (fun H locs hP hD hS => ?_)
          have hP : va_P (dC, dI) vwCl (wRead h cs (va_up (va_up (va_up (va_up I 166 (nI (h6 + 1))) 167 (nI r6)) 168 (nI 0)) 169 (nI (p9 + 1))) L A Q G J) H := hP
          have hD : va_D A0 (wRead h cs (va_up (va_up (va_up (va_up I 166 (nI (h6 + 1))) 167 (nI r6)) 168 (nI 0)) 169 (nI (p9 + 1))) L A Q G J) := hD
          refine lv_iconst (v := nI 1) hx hb dX4_takeSign_87 (by decide) ?_
          exact xr_z (v := (nI 1)) hx hb hr hlocks hK hS dX4_takeSign_88 (rfl) ((va_up (va_up (va_up (va_up I 166 (nI (h6 + 1))) 167 (nI r6)) 168 (nI 0)) 169 (nI (p9 + 1))), L, A, Q, G, J) ⟨(nI (h6 + 1)), (nI r6), (nI 0), (nI (p9 + 1)), (Or.inr (Or.inl ⟨rfl, (cmp_c (by decide) hat).mp (by assumption), hrw, by omega, rfl, rfl, rfl, rfl⟩)), rfl⟩ hP hD
      · skip
        refine lv_if_eq (tgt := 89) hx hb dX4_takeSign_62 (by decide) (fun _ => ?_) (fun c9 => False.elim (by revert c9; decide +kernel))
        refine lv_iconst (v := nI 0) hx hb dX4_takeSign_89 (by decide) ?_
        exact xr_z (v := (nI 0)) hx hb hr hlocks hK hS dX4_takeSign_90 (rfl) ((va_up (va_up (va_up (va_up I 166 (I 166)) 167 (I 167)) 168 (I 168)) 169 (I 169)), L, A, Q, G, J) ⟨(I 166), (I 167), (I 168), (I 169), (Or.inr (Or.inr ⟨rfl, fun q9 => by first | exact absurd ((cmp_c (by decide) hat).mpr q9.1) (by assumption) | (have q8 := q9.2; split at q8 <;> omega), fun q9 => by first | exact absurd ((cmp_c (by decide) hat).mpr q9.1) (by assumption) | exact absurd q9.2.1 hrw | omega, rfl, rfl, rfl, rfl⟩)), rfl⟩ hP hD
  · skip
    have hlt := ((cmp_c (by decide) hat).mp c_15_3).1
    refine lv_aload_n hx hb dX4_takeSign_18 rfl (lv_at hl 1 rfl) ?_
    refine va_get (D := (dC, dI)) (ci := 4) (v := .int (I 168)) (C := RX4) (T := TX4) (N := 6) hx hb hts hinX4 hown hK hP 0 rfl rfl 4 (by decide) (hts (.fieldLink RX4 27 "MixedWords$Reader" "inRow" "I") (by decide +kernel)) (fun _ h9 => h9) rfl dX4_takeSign_19 ?_
    refine xt_i (y := nI r6) (hi6) ?_
    refine lv_aload_n hx hb dX4_takeSign_22 rfl (lv_at hl 1 rfl) ?_
    refine va_get (D := (dC, dI)) (ci := 4) (v := .int (I 166)) (C := RX4) (T := TX4) (N := 6) hx hb hts hinX4 hown hK hP 0 rfl rfl 2 (by decide) (hts (.fieldLink RX4 20 "MixedWords$Reader" "height" "I") (by decide +kernel)) (fun _ h9 => h9) rfl dX4_takeSign_23 ?_
    refine xt_i (y := nI h6) (hh) ?_
    refine xz_ne (tgt := 33) hx hb dX4_takeSign_26 (by decide) (by omega) (fun c_26_15 => ?_) (fun c_26_15 => ?_)
    · skip
      refine lv_aload_n hx hb dX4_takeSign_33 rfl (lv_at hl 1 rfl) ?_
      refine va_get (D := (dC, dI)) (ci := 4) (v := .int (I 167)) (C := RX4) (T := TX4) (N := 6) hx hb hts hinX4 hown hK hP 0 rfl rfl 3 (by decide) (hts (.fieldLink RX4 24 "MixedWords$Reader" "width" "I") (by decide +kernel)) (fun _ h9 => h9) rfl dX4_takeSign_34 ?_
      refine xt_i (y := nI w6) (hw) ?_
      refine xn_ge (tgt := 52) hx hb dX4_takeSign_37 (by decide) (by omega) (by omega) (fun c_37_16 => ?_) (fun c_37_16 => ?_)
      · skip
        refine lv_iload_n hx hb dX4_takeSign_52 rfl (lv_at hl 0 rfl) ?_
        refine lv_bipush (v := nI 59) hx hb dX4_takeSign_53 (by decide) ?_
        refine lv_icmp_ne (tgt := 89) hx hb dX4_takeSign_55 (by decide) (fun c_55_17 => ?_) (fun c_55_17 => ?_)
        · skip
          refine lv_iconst (v := nI 0) hx hb dX4_takeSign_89 (by decide) ?_
          exact xr_z (v := (nI 0)) hx hb hr hlocks hK hS dX4_takeSign_90 (rfl) ((va_up (va_up (va_up (va_up I 166 (I 166)) 167 (I 167)) 168 (I 168)) 169 (I 169)), L, A, Q, G, J) ⟨(I 166), (I 167), (I 168), (I 169), (Or.inr (Or.inr ⟨rfl, fun q9 => by first | exact absurd ((cmp_c (by decide) hat).mpr q9.1) (by assumption) | (have q8 := q9.2; split at q8 <;> omega), fun q9 => by first | exact absurd ((cmp_c (by decide) hat).mpr q9.1) (by assumption) | exact absurd q9.2.1 hrw | omega, rfl, rfl, rfl, rfl⟩)), rfl⟩ hP hD
        · skip
          have hlt := ((cmp_c (by decide) hat).mp c_55_17).1
          refine lv_aload_n hx hb dX4_takeSign_58 rfl (lv_at hl 1 rfl) ?_
          refine xj_i (wc := (wRead h cs I L A Q G J)) (wr := ([] : va_W)) hP hD hS hA [0, 1, 2, 3, 4, 5, 6, 7, 8] [] rfl rfl (by decide +kernel) (by decide +kernel) (va_runV (As := []) (rest := []) ⟨hx, hb, hml, hown, hts⟩ (k_X4_isRowWhole l dC dI h cs H.size I L A Q G J h6 w6 r6 hh (by first | assumption | omega | exact hh4) hw (by first | assumption | omega | exact hw4) hi6 (by first | assumption | omega | exact hi4)) (cwV 0 hts gX4_takeSign_X4_isRowWhole rfl rfl rfl (by decide +kernel) ⟨Nat.le_of_ble_eq_true rfl, Nat.le_of_ble_eq_true rfl⟩) (xpV (wc := (wRead h cs I L A Q G J)) hP hD hK hN [0, 1, 2, 3, 4, 5, 6, 7, 8] rfl (by decide) 0 (ci := 4) rfl rfl _) rfl rfl hl.1 rfl (lv_room (Nat.le_of_ble_eq_true rfl)) dX4_takeSign_59 ⟨Nat.zero_le _, Nat.zero_le _⟩) (fun r_20 u_19 H locs hw hP hD hS => ?_)
          obtain ⟨hf_21, rfl⟩ := hw
          have hP : va_P (dC, dI) vwCl (wRead h cs I L A Q G J) H := hP
          have hD : va_D A0 (wRead h cs I L A Q G J) := hD
          rcases hf_21 with ⟨rfl, hrw⟩ | ⟨rfl, hrw⟩
          · skip
            refine lv_if_eq (tgt := 89) hx hb dX4_takeSign_62 (by decide) (fun c9 => False.elim (by revert c9; decide +kernel)) (fun _ => ?_)
            refine lv_aload_n hx hb dX4_takeSign_65 rfl (lv_at hl 1 rfl) ?_
            refine va_get (D := (dC, dI)) (ci := 4) (v := .int (I 166)) (C := RX4) (T := TX4) (N := 6) hx hb hts hinX4 hown hK hP 0 rfl rfl 2 (by decide) (hts (.fieldLink RX4 20 "MixedWords$Reader" "height" "I") (by decide +kernel)) (fun _ h9 => h9) rfl dX4_takeSign_66 ?_
            refine xt_i (y := nI h6) (hh) ?_
            refine lv_iconst (v := nI 4) hx hb dX4_takeSign_69 (by decide) ?_
            refine xn_ge (tgt := 89) hx hb dX4_takeSign_70 (by decide) (by omega) (by omega) (fun c_70_21 => ?_) (fun c_70_21 => ?_)
            · skip
              refine lv_iconst (v := nI 0) hx hb dX4_takeSign_89 (by decide) ?_
              exact xr_z (v := (nI 0)) hx hb hr hlocks hK hS dX4_takeSign_90 (rfl) ((va_up (va_up (va_up (va_up I 166 (I 166)) 167 (I 167)) 168 (I 168)) 169 (I 169)), L, A, Q, G, J) ⟨(I 166), (I 167), (I 168), (I 169), (Or.inr (Or.inr ⟨rfl, fun q9 => by first | exact absurd ((cmp_c (by decide) hat).mpr q9.1) (by assumption) | (have q8 := q9.2; split at q8 <;> omega), fun q9 => by first | exact absurd ((cmp_c (by decide) hat).mpr q9.1) (by assumption) | exact absurd q9.2.1 hrw | omega, rfl, rfl, rfl, rfl⟩)), rfl⟩ hP hD
            · skip
              refine lv_aload_n hx hb dX4_takeSign_73 rfl (lv_at hl 1 rfl) ?_
              refine xj_v (wc := (wRead h cs I L A Q G J)) (wr := ([] : va_W)) hP hD hS hA [0, 1, 2, 3, 4, 5, 6, 7, 8] [] rfl rfl (by decide +kernel) (by decide +kernel) (va_runV (As := []) (rest := []) ⟨hx, hb, hml, hown, hts⟩ (k_X4_endRow l dC dI h cs H.size I L A Q G J h6 r6 hh (by first | assumption | omega | exact hh4) hi6 (by first | assumption | omega | exact hi4)) (cwV 0 hts gX4_takeSign_X4_endRow rfl rfl rfl (by decide +kernel) ⟨Nat.le_of_ble_eq_true rfl, Nat.le_of_ble_eq_true rfl⟩) (xpV (wc := (wRead h cs I L A Q G J)) hP hD hK hN [0, 1, 2, 3, 4, 5, 6, 7, 8] rfl (by decide) 0 (ci := 4) rfl rfl _) rfl rfl hl.1 rfl (lv_room (Nat.le_of_ble_eq_true rfl)) dX4_takeSign_74 ⟨Nat.zero_le _, Nat.zero_le _⟩) (fun u_23 H locs hw hP hD hS => ?_)
              obtain ⟨i167_25, i168_26, i166_27, hf_28, rfl⟩ := hw
              have hP : va_P (dC, dI) vwCl (wRead h cs (va_up (va_up (va_up I 167 i167_25) 168 i168_26) 166 i166_27) L A Q G J) H := hP
              have hD : va_D A0 (wRead h cs (va_up (va_up (va_up I 167 i167_25) 168 i168_26) 166 i166_27) L A Q G J) := hD
              obtain ⟨rfl, rfl, rfl⟩ := hf_28
              refine lv_aload_n hx hb dX4_takeSign_77 rfl (lv_at hl 1 rfl) ?_
              refine lv_dup hx hb dX4_takeSign_78 rfl ?_
              refine va_get (D := (dC, dI)) (ci := 4) (v := .int (I 169)) (C := RX4) (T := TX4) (N := 6) hx hb hts hinX4 hown hK hP 0 rfl rfl 5 (by decide) (hts (.fieldLink RX4 30 "MixedWords$Reader" "place" "I") (by decide +kernel)) (fun _ h9 => h9) rfl dX4_takeSign_79 ?_
              refine xt_i (y := nI p9) (hp) ?_
              refine lv_iconst (v := nI 1) hx hb dX4_takeSign_82 (by decide) ?_
              refine lv_iadd hx hb dX4_takeSign_83 ?_
              refine xt_i (y := nI (p9 + 1)) (nI_add _ _) ?_
              refine va_put (D := (dC, dI)) (ci := 4) (v := .int (nI (p9 + 1))) (ty := .int) (C := RX4) (T := TX4) (N := 6) hx hb hts hinX4 tyX4 tyX4_ok nmX4 hown hK hP hD hS 0 rfl rfl 5 (by decide) (hts (.fieldLink RX4 30 "MixedWords$Reader" "place" "I") (by decide +kernel)) (fun _ h9 => h9) rfl (by decide +kernel) rfl rfl (Nat.le_of_ble_eq_true rfl) dX4_takeSign_84 (fun H locs hP hD hS => ?_)
              have hP : va_P (dC, dI) vwCl (wRead h cs (va_up (va_up (va_up (va_up I 166 (nI (h6 + 1))) 167 (nI r6)) 168 (nI 0)) 169 (nI (p9 + 1))) L A Q G J) H := hP
              have hD : va_D A0 (wRead h cs (va_up (va_up (va_up (va_up I 166 (nI (h6 + 1))) 167 (nI r6)) 168 (nI 0)) 169 (nI (p9 + 1))) L A Q G J) := hD
              refine lv_iconst (v := nI 1) hx hb dX4_takeSign_87 (by decide) ?_
              exact xr_z (v := (nI 1)) hx hb hr hlocks hK hS dX4_takeSign_88 (rfl) ((va_up (va_up (va_up (va_up I 166 (nI (h6 + 1))) 167 (nI r6)) 168 (nI 0)) 169 (nI (p9 + 1))), L, A, Q, G, J) ⟨(nI (h6 + 1)), (nI r6), (nI 0), (nI (p9 + 1)), (Or.inr (Or.inl ⟨rfl, (cmp_c (by decide) hat).mp (by assumption), hrw, by omega, rfl, rfl, rfl, rfl⟩)), rfl⟩ hP hD
          · skip
            refine lv_if_eq (tgt := 89) hx hb dX4_takeSign_62 (by decide) (fun _ => ?_) (fun c9 => False.elim (by revert c9; decide +kernel))
            refine lv_iconst (v := nI 0) hx hb dX4_takeSign_89 (by decide) ?_
            exact xr_z (v := (nI 0)) hx hb hr hlocks hK hS dX4_takeSign_90 (rfl) ((va_up (va_up (va_up (va_up I 166 (I 166)) 167 (I 167)) 168 (I 168)) 169 (I 169)), L, A, Q, G, J) ⟨(I 166), (I 167), (I 168), (I 169), (Or.inr (Or.inr ⟨rfl, fun q9 => by first | exact absurd ((cmp_c (by decide) hat).mpr q9.1) (by assumption) | (have q8 := q9.2; split at q8 <;> omega), fun q9 => by first | exact absurd ((cmp_c (by decide) hat).mpr q9.1) (by assumption) | exact absurd q9.2.1 hrw | omega, rfl, rfl, rfl, rfl⟩)), rfl⟩ hP hD
      · skip
        refine lv_aload_n hx hb dX4_takeSign_40 rfl (lv_at hl 1 rfl) ?_
        refine lv_dup hx hb dX4_takeSign_41 rfl ?_
        refine va_get (D := (dC, dI)) (ci := 4) (v := .int (I 169)) (C := RX4) (T := TX4) (N := 6) hx hb hts hinX4 hown hK hP 0 rfl rfl 5 (by decide) (hts (.fieldLink RX4 30 "MixedWords$Reader" "place" "I") (by decide +kernel)) (fun _ h9 => h9) rfl dX4_takeSign_42 ?_
        refine xt_i (y := nI p9) (hp) ?_
        refine lv_iconst (v := nI 1) hx hb dX4_takeSign_45 (by decide) ?_
        refine lv_iadd hx hb dX4_takeSign_46 ?_
        refine xt_i (y := nI (p9 + 1)) (nI_add _ _) ?_
        refine va_put (D := (dC, dI)) (ci := 4) (v := .int (nI (p9 + 1))) (ty := .int) (C := RX4) (T := TX4) (N := 6) hx hb hts hinX4 tyX4 tyX4_ok nmX4 hown hK hP hD hS 0 rfl rfl 5 (by decide) (hts (.fieldLink RX4 30 "MixedWords$Reader" "place" "I") (by decide +kernel)) (fun _ h9 => h9) rfl (by decide +kernel) rfl rfl (Nat.le_of_ble_eq_true rfl) dX4_takeSign_47 (fun H locs hP hD hS => ?_)
        have hP : va_P (dC, dI) vwCl (wRead h cs (va_up I 169 (nI (p9 + 1))) L A Q G J) H := hP
        have hD : va_D A0 (wRead h cs (va_up I 169 (nI (p9 + 1))) L A Q G J) := hD
        refine lv_iconst (v := nI 1) hx hb dX4_takeSign_50 (by decide) ?_
        exact xr_z (v := (nI 1)) hx hb hr hlocks hK hS dX4_takeSign_51 (rfl) ((va_up (va_up (va_up (va_up I 166 (I 166)) 167 (I 167)) 168 (I 168)) 169 (nI (p9 + 1))), L, A, Q, G, J) ⟨(I 166), (I 167), (I 168), (nI (p9 + 1)), (Or.inl ⟨rfl, (cmp_c (by decide) hat).mp (by assumption), by split <;> omega, rfl, rfl, rfl, rfl⟩), rfl⟩ hP hD
    · skip
      refine lv_iconst (v := nI 4) hx hb dX4_takeSign_29 (by decide) ?_
      refine lv_goto (tgt := 37) hx hb dX4_takeSign_30 (by decide) ?_
      refine xn_ge (tgt := 52) hx hb dX4_takeSign_37 (by decide) (by omega) (by omega) (fun c_37_28 => ?_) (fun c_37_28 => ?_)
      · skip
        refine lv_iload_n hx hb dX4_takeSign_52 rfl (lv_at hl 0 rfl) ?_
        refine lv_bipush (v := nI 59) hx hb dX4_takeSign_53 (by decide) ?_
        refine lv_icmp_ne (tgt := 89) hx hb dX4_takeSign_55 (by decide) (fun c_55_29 => ?_) (fun c_55_29 => ?_)
        · skip
          refine lv_iconst (v := nI 0) hx hb dX4_takeSign_89 (by decide) ?_
          exact xr_z (v := (nI 0)) hx hb hr hlocks hK hS dX4_takeSign_90 (rfl) ((va_up (va_up (va_up (va_up I 166 (I 166)) 167 (I 167)) 168 (I 168)) 169 (I 169)), L, A, Q, G, J) ⟨(I 166), (I 167), (I 168), (I 169), (Or.inr (Or.inr ⟨rfl, fun q9 => by first | exact absurd ((cmp_c (by decide) hat).mpr q9.1) (by assumption) | (have q8 := q9.2; split at q8 <;> omega), fun q9 => by first | exact absurd ((cmp_c (by decide) hat).mpr q9.1) (by assumption) | exact absurd q9.2.1 hrw | omega, rfl, rfl, rfl, rfl⟩)), rfl⟩ hP hD
        · skip
          have hlt := ((cmp_c (by decide) hat).mp c_55_29).1
          refine lv_aload_n hx hb dX4_takeSign_58 rfl (lv_at hl 1 rfl) ?_
          refine xj_i (wc := (wRead h cs I L A Q G J)) (wr := ([] : va_W)) hP hD hS hA [0, 1, 2, 3, 4, 5, 6, 7, 8] [] rfl rfl (by decide +kernel) (by decide +kernel) (va_runV (As := []) (rest := []) ⟨hx, hb, hml, hown, hts⟩ (k_X4_isRowWhole l dC dI h cs H.size I L A Q G J h6 w6 r6 hh (by first | assumption | omega | exact hh4) hw (by first | assumption | omega | exact hw4) hi6 (by first | assumption | omega | exact hi4)) (cwV 0 hts gX4_takeSign_X4_isRowWhole rfl rfl rfl (by decide +kernel) ⟨Nat.le_of_ble_eq_true rfl, Nat.le_of_ble_eq_true rfl⟩) (xpV (wc := (wRead h cs I L A Q G J)) hP hD hK hN [0, 1, 2, 3, 4, 5, 6, 7, 8] rfl (by decide) 0 (ci := 4) rfl rfl _) rfl rfl hl.1 rfl (lv_room (Nat.le_of_ble_eq_true rfl)) dX4_takeSign_59 ⟨Nat.zero_le _, Nat.zero_le _⟩) (fun r_32 u_31 H locs hw hP hD hS => ?_)
          obtain ⟨hf_33, rfl⟩ := hw
          have hP : va_P (dC, dI) vwCl (wRead h cs I L A Q G J) H := hP
          have hD : va_D A0 (wRead h cs I L A Q G J) := hD
          rcases hf_33 with ⟨rfl, hrw⟩ | ⟨rfl, hrw⟩
          · skip
            refine lv_if_eq (tgt := 89) hx hb dX4_takeSign_62 (by decide) (fun c9 => False.elim (by revert c9; decide +kernel)) (fun _ => ?_)
            refine lv_aload_n hx hb dX4_takeSign_65 rfl (lv_at hl 1 rfl) ?_
            refine va_get (D := (dC, dI)) (ci := 4) (v := .int (I 166)) (C := RX4) (T := TX4) (N := 6) hx hb hts hinX4 hown hK hP 0 rfl rfl 2 (by decide) (hts (.fieldLink RX4 20 "MixedWords$Reader" "height" "I") (by decide +kernel)) (fun _ h9 => h9) rfl dX4_takeSign_66 ?_
            refine xt_i (y := nI h6) (hh) ?_
            refine lv_iconst (v := nI 4) hx hb dX4_takeSign_69 (by decide) ?_
            refine xn_ge (tgt := 89) hx hb dX4_takeSign_70 (by decide) (by omega) (by omega) (fun c_70_33 => ?_) (fun c_70_33 => ?_)
            · skip
              refine lv_iconst (v := nI 0) hx hb dX4_takeSign_89 (by decide) ?_
              exact xr_z (v := (nI 0)) hx hb hr hlocks hK hS dX4_takeSign_90 (rfl) ((va_up (va_up (va_up (va_up I 166 (I 166)) 167 (I 167)) 168 (I 168)) 169 (I 169)), L, A, Q, G, J) ⟨(I 166), (I 167), (I 168), (I 169), (Or.inr (Or.inr ⟨rfl, fun q9 => by first | exact absurd ((cmp_c (by decide) hat).mpr q9.1) (by assumption) | (have q8 := q9.2; split at q8 <;> omega), fun q9 => by first | exact absurd ((cmp_c (by decide) hat).mpr q9.1) (by assumption) | exact absurd q9.2.1 hrw | omega, rfl, rfl, rfl, rfl⟩)), rfl⟩ hP hD
            · skip
              refine lv_aload_n hx hb dX4_takeSign_73 rfl (lv_at hl 1 rfl) ?_
              refine xj_v (wc := (wRead h cs I L A Q G J)) (wr := ([] : va_W)) hP hD hS hA [0, 1, 2, 3, 4, 5, 6, 7, 8] [] rfl rfl (by decide +kernel) (by decide +kernel) (va_runV (As := []) (rest := []) ⟨hx, hb, hml, hown, hts⟩ (k_X4_endRow l dC dI h cs H.size I L A Q G J h6 r6 hh (by first | assumption | omega | exact hh4) hi6 (by first | assumption | omega | exact hi4)) (cwV 0 hts gX4_takeSign_X4_endRow rfl rfl rfl (by decide +kernel) ⟨Nat.le_of_ble_eq_true rfl, Nat.le_of_ble_eq_true rfl⟩) (xpV (wc := (wRead h cs I L A Q G J)) hP hD hK hN [0, 1, 2, 3, 4, 5, 6, 7, 8] rfl (by decide) 0 (ci := 4) rfl rfl _) rfl rfl hl.1 rfl (lv_room (Nat.le_of_ble_eq_true rfl)) dX4_takeSign_74 ⟨Nat.zero_le _, Nat.zero_le _⟩) (fun u_35 H locs hw hP hD hS => ?_)
              obtain ⟨i167_37, i168_38, i166_39, hf_40, rfl⟩ := hw
              have hP : va_P (dC, dI) vwCl (wRead h cs (va_up (va_up (va_up I 167 i167_37) 168 i168_38) 166 i166_39) L A Q G J) H := hP
              have hD : va_D A0 (wRead h cs (va_up (va_up (va_up I 167 i167_37) 168 i168_38) 166 i166_39) L A Q G J) := hD
              obtain ⟨rfl, rfl, rfl⟩ := hf_40
              refine lv_aload_n hx hb dX4_takeSign_77 rfl (lv_at hl 1 rfl) ?_
              refine lv_dup hx hb dX4_takeSign_78 rfl ?_
              refine va_get (D := (dC, dI)) (ci := 4) (v := .int (I 169)) (C := RX4) (T := TX4) (N := 6) hx hb hts hinX4 hown hK hP 0 rfl rfl 5 (by decide) (hts (.fieldLink RX4 30 "MixedWords$Reader" "place" "I") (by decide +kernel)) (fun _ h9 => h9) rfl dX4_takeSign_79 ?_
              refine xt_i (y := nI p9) (hp) ?_
              refine lv_iconst (v := nI 1) hx hb dX4_takeSign_82 (by decide) ?_
              refine lv_iadd hx hb dX4_takeSign_83 ?_
              refine xt_i (y := nI (p9 + 1)) (nI_add _ _) ?_
              refine va_put (D := (dC, dI)) (ci := 4) (v := .int (nI (p9 + 1))) (ty := .int) (C := RX4) (T := TX4) (N := 6) hx hb hts hinX4 tyX4 tyX4_ok nmX4 hown hK hP hD hS 0 rfl rfl 5 (by decide) (hts (.fieldLink RX4 30 "MixedWords$Reader" "place" "I") (by decide +kernel)) (fun _ h9 => h9) rfl (by decide +kernel) rfl rfl (Nat.le_of_ble_eq_true rfl) dX4_takeSign_84 (fun H locs hP hD hS => ?_)
              have hP : va_P (dC, dI) vwCl (wRead h cs (va_up (va_up (va_up (va_up I 166 (nI (h6 + 1))) 167 (nI r6)) 168 (nI 0)) 169 (nI (p9 + 1))) L A Q G J) H := hP
              have hD : va_D A0 (wRead h cs (va_up (va_up (va_up (va_up I 166 (nI (h6 + 1))) 167 (nI r6)) 168 (nI 0)) 169 (nI (p9 + 1))) L A Q G J) := hD
              refine lv_iconst (v := nI 1) hx hb dX4_takeSign_87 (by decide) ?_
              exact xr_z (v := (nI 1)) hx hb hr hlocks hK hS dX4_takeSign_88 (rfl) ((va_up (va_up (va_up (va_up I 166 (nI (h6 + 1))) 167 (nI r6)) 168 (nI 0)) 169 (nI (p9 + 1))), L, A, Q, G, J) ⟨(nI (h6 + 1)), (nI r6), (nI 0), (nI (p9 + 1)), (Or.inr (Or.inl ⟨rfl, (cmp_c (by decide) hat).mp (by assumption), hrw, by omega, rfl, rfl, rfl, rfl⟩)), rfl⟩ hP hD
          · skip
            refine lv_if_eq (tgt := 89) hx hb dX4_takeSign_62 (by decide) (fun _ => ?_) (fun c9 => False.elim (by revert c9; decide +kernel))
            refine lv_iconst (v := nI 0) hx hb dX4_takeSign_89 (by decide) ?_
            exact xr_z (v := (nI 0)) hx hb hr hlocks hK hS dX4_takeSign_90 (rfl) ((va_up (va_up (va_up (va_up I 166 (I 166)) 167 (I 167)) 168 (I 168)) 169 (I 169)), L, A, Q, G, J) ⟨(I 166), (I 167), (I 168), (I 169), (Or.inr (Or.inr ⟨rfl, fun q9 => by first | exact absurd ((cmp_c (by decide) hat).mpr q9.1) (by assumption) | (have q8 := q9.2; split at q8 <;> omega), fun q9 => by first | exact absurd ((cmp_c (by decide) hat).mpr q9.1) (by assumption) | exact absurd q9.2.1 hrw | omega, rfl, rfl, rfl, rfl⟩)), rfl⟩ hP hD
      · skip
        refine lv_aload_n hx hb dX4_takeSign_40 rfl (lv_at hl 1 rfl) ?_
        refine lv_dup hx hb dX4_takeSign_41 rfl ?_
        refine va_get (D := (dC, dI)) (ci := 4) (v := .int (I 169)) (C := RX4) (T := TX4) (N := 6) hx hb hts hinX4 hown hK hP 0 rfl rfl 5 (by decide) (hts (.fieldLink RX4 30 "MixedWords$Reader" "place" "I") (by decide +kernel)) (fun _ h9 => h9) rfl dX4_takeSign_42 ?_
        refine xt_i (y := nI p9) (hp) ?_
        refine lv_iconst (v := nI 1) hx hb dX4_takeSign_45 (by decide) ?_
        refine lv_iadd hx hb dX4_takeSign_46 ?_
        refine xt_i (y := nI (p9 + 1)) (nI_add _ _) ?_
        refine va_put (D := (dC, dI)) (ci := 4) (v := .int (nI (p9 + 1))) (ty := .int) (C := RX4) (T := TX4) (N := 6) hx hb hts hinX4 tyX4 tyX4_ok nmX4 hown hK hP hD hS 0 rfl rfl 5 (by decide) (hts (.fieldLink RX4 30 "MixedWords$Reader" "place" "I") (by decide +kernel)) (fun _ h9 => h9) rfl (by decide +kernel) rfl rfl (Nat.le_of_ble_eq_true rfl) dX4_takeSign_47 (fun H locs hP hD hS => ?_)
        have hP : va_P (dC, dI) vwCl (wRead h cs (va_up I 169 (nI (p9 + 1))) L A Q G J) H := hP
        have hD : va_D A0 (wRead h cs (va_up I 169 (nI (p9 + 1))) L A Q G J) := hD
        refine lv_iconst (v := nI 1) hx hb dX4_takeSign_50 (by decide) ?_
        exact xr_z (v := (nI 1)) hx hb hr hlocks hK hS dX4_takeSign_51 (rfl) ((va_up (va_up (va_up (va_up I 166 (I 166)) 167 (I 167)) 168 (I 168)) 169 (nI (p9 + 1))), L, A, Q, G, J) ⟨(I 166), (I 167), (I 168), (nI (p9 + 1)), (Or.inl ⟨rfl, (cmp_c (by decide) hat).mp (by assumption), by split <;> omega, rfl, rfl, rfl, rfl⟩), rfl⟩ hP hD
set_option maxRecDepth 20000 in
theorem ggX4_takeNumber_X4_skipBlanks : GoodIn wsX4_takeNumber wsX4_skipBlanks := goodIn_r _ [15, 2, 1, 5, 16, 17, 18, 19, 20, 21, 22, 27, 28, 29, 30, 31, 32, 33, 34] rfl (by decide +kernel)
set_option maxRecDepth 20000 in
theorem gX4_takeNumber_X4_skipBlanks : GoodIn wsX4_takeNumber (wsV RX4 37 RX4 yX4_skipBlanks wsX4_skipBlanks) := goodIn_app (goodIn_of _ (by decide +kernel)) ggX4_takeNumber_X4_skipBlanks
set_option maxRecDepth 20000 in
theorem ggX4_takeNumber_X7_at : GoodIn wsX4_takeNumber wsX7_at := goodIn_r _ [20, 21, 22, 33, 34] rfl (by decide +kernel)
set_option maxRecDepth 20000 in
theorem gX4_takeNumber_X7_at : GoodIn wsX4_takeNumber (wsV RX4 40 RX7 yX7_at wsX7_at) := goodIn_app (goodIn_of _ (by decide +kernel)) ggX4_takeNumber_X7_at
set_option maxRecDepth 20000 in
theorem ggX4_takeNumber_X4_isDigit : GoodIn wsX4_takeNumber wsX4_isDigit := goodIn_r _ [26, 1, 2, 16, 17, 18, 19, 20, 21, 22, 27, 28, 29, 30, 31, 32, 33, 34] rfl (by decide +kernel)
set_option maxRecDepth 20000 in
theorem gX4_takeNumber_X4_isDigit : GoodIn wsX4_takeNumber (wsV RX4 58 RX4 yX4_isDigit wsX4_isDigit) := goodIn_app (goodIn_of _ (by decide +kernel)) ggX4_takeNumber_X4_isDigit
theorem bdX4_takeNumber_0 : (decode cX4_takeNumber 0 = .ok (.aload_n 0, 1)) ∧ (decode cX4_takeNumber 1 = .ok (.invokevirtual 37, 3)) ∧ (decode cX4_takeNumber 4 = .ok (.aload_n 0, 1)) ∧ (decode cX4_takeNumber 5 = .ok (.getfield 16, 3)) ∧ (decode cX4_takeNumber 8 = .ok (.aload_n 0, 1)) ∧ (decode cX4_takeNumber 9 = .ok (.getfield 30, 3)) ∧ (decode cX4_takeNumber 12 = .ok (.invokevirtual 40, 3)) ∧ (decode cX4_takeNumber 15 = .ok (.bipush 45, 2)) ∧ (decode cX4_takeNumber 17 = .ok (.if_icmp .ne 7, 3)) ∧ (decode cX4_takeNumber 20 = .ok (.iconst 1, 1)) ∧ (decode cX4_takeNumber 21 = .ok (.goto 4, 3)) ∧ (decode cX4_takeNumber 24 = .ok (.iconst 0, 1)) ∧ (decode cX4_takeNumber 25 = .ok (.istore_n 1, 1)) ∧ (decode cX4_takeNumber 26 = .ok (.iload_n 1, 1)) ∧ (decode cX4_takeNumber 27 = .ok (.ifCond .eq 17, 3)) ∧ (decode cX4_takeNumber 30 = .ok (.aload_n 0, 1)) := by decide +kernel
theorem dX4_takeNumber_0 : decode cX4_takeNumber 0 = .ok (.aload_n 0, 1) := bdX4_takeNumber_0.1
theorem dX4_takeNumber_1 : decode cX4_takeNumber 1 = .ok (.invokevirtual 37, 3) := bdX4_takeNumber_0.2.1
theorem dX4_takeNumber_4 : decode cX4_takeNumber 4 = .ok (.aload_n 0, 1) := bdX4_takeNumber_0.2.2.1
theorem dX4_takeNumber_5 : decode cX4_takeNumber 5 = .ok (.getfield 16, 3) := bdX4_takeNumber_0.2.2.2.1
theorem dX4_takeNumber_8 : decode cX4_takeNumber 8 = .ok (.aload_n 0, 1) := bdX4_takeNumber_0.2.2.2.2.1
theorem dX4_takeNumber_9 : decode cX4_takeNumber 9 = .ok (.getfield 30, 3) := bdX4_takeNumber_0.2.2.2.2.2.1
theorem dX4_takeNumber_12 : decode cX4_takeNumber 12 = .ok (.invokevirtual 40, 3) := bdX4_takeNumber_0.2.2.2.2.2.2.1
theorem dX4_takeNumber_15 : decode cX4_takeNumber 15 = .ok (.bipush 45, 2) := bdX4_takeNumber_0.2.2.2.2.2.2.2.1
theorem dX4_takeNumber_17 : decode cX4_takeNumber 17 = .ok (.if_icmp .ne 7, 3) := bdX4_takeNumber_0.2.2.2.2.2.2.2.2.1
theorem dX4_takeNumber_20 : decode cX4_takeNumber 20 = .ok (.iconst 1, 1) := bdX4_takeNumber_0.2.2.2.2.2.2.2.2.2.1
theorem dX4_takeNumber_21 : decode cX4_takeNumber 21 = .ok (.goto 4, 3) := bdX4_takeNumber_0.2.2.2.2.2.2.2.2.2.2.1
theorem dX4_takeNumber_24 : decode cX4_takeNumber 24 = .ok (.iconst 0, 1) := bdX4_takeNumber_0.2.2.2.2.2.2.2.2.2.2.2.1
theorem dX4_takeNumber_25 : decode cX4_takeNumber 25 = .ok (.istore_n 1, 1) := bdX4_takeNumber_0.2.2.2.2.2.2.2.2.2.2.2.2.1
theorem dX4_takeNumber_26 : decode cX4_takeNumber 26 = .ok (.iload_n 1, 1) := bdX4_takeNumber_0.2.2.2.2.2.2.2.2.2.2.2.2.2.1
theorem dX4_takeNumber_27 : decode cX4_takeNumber 27 = .ok (.ifCond .eq 17, 3) := bdX4_takeNumber_0.2.2.2.2.2.2.2.2.2.2.2.2.2.2.1
theorem dX4_takeNumber_30 : decode cX4_takeNumber 30 = .ok (.aload_n 0, 1) := bdX4_takeNumber_0.2.2.2.2.2.2.2.2.2.2.2.2.2.2.2
theorem bdX4_takeNumber_31 : (decode cX4_takeNumber 31 = .ok (.dup, 1)) ∧ (decode cX4_takeNumber 32 = .ok (.getfield 30, 3)) ∧ (decode cX4_takeNumber 35 = .ok (.iconst 1, 1)) ∧ (decode cX4_takeNumber 36 = .ok (.iadd, 1)) ∧ (decode cX4_takeNumber 37 = .ok (.putfield 30, 3)) ∧ (decode cX4_takeNumber 40 = .ok (.aload_n 0, 1)) ∧ (decode cX4_takeNumber 41 = .ok (.invokevirtual 37, 3)) ∧ (decode cX4_takeNumber 44 = .ok (.aload_n 0, 1)) ∧ (decode cX4_takeNumber 45 = .ok (.invokevirtual 58, 3)) ∧ (decode cX4_takeNumber 48 = .ok (.ifCond .eq 19, 3)) ∧ (decode cX4_takeNumber 51 = .ok (.aload_n 0, 1)) ∧ (decode cX4_takeNumber 52 = .ok (.getfield 20, 3)) ∧ (decode cX4_takeNumber 55 = .ok (.iconst 5, 1)) ∧ (decode cX4_takeNumber 56 = .ok (.if_icmp .ge 11, 3)) ∧ (decode cX4_takeNumber 59 = .ok (.aload_n 0, 1)) ∧ (decode cX4_takeNumber 60 = .ok (.getfield 27, 3)) := by decide +kernel
theorem dX4_takeNumber_31 : decode cX4_takeNumber 31 = .ok (.dup, 1) := bdX4_takeNumber_31.1
theorem dX4_takeNumber_32 : decode cX4_takeNumber 32 = .ok (.getfield 30, 3) := bdX4_takeNumber_31.2.1
theorem dX4_takeNumber_35 : decode cX4_takeNumber 35 = .ok (.iconst 1, 1) := bdX4_takeNumber_31.2.2.1
theorem dX4_takeNumber_36 : decode cX4_takeNumber 36 = .ok (.iadd, 1) := bdX4_takeNumber_31.2.2.2.1
theorem dX4_takeNumber_37 : decode cX4_takeNumber 37 = .ok (.putfield 30, 3) := bdX4_takeNumber_31.2.2.2.2.1
theorem dX4_takeNumber_40 : decode cX4_takeNumber 40 = .ok (.aload_n 0, 1) := bdX4_takeNumber_31.2.2.2.2.2.1
theorem dX4_takeNumber_41 : decode cX4_takeNumber 41 = .ok (.invokevirtual 37, 3) := bdX4_takeNumber_31.2.2.2.2.2.2.1
theorem dX4_takeNumber_44 : decode cX4_takeNumber 44 = .ok (.aload_n 0, 1) := bdX4_takeNumber_31.2.2.2.2.2.2.2.1
theorem dX4_takeNumber_45 : decode cX4_takeNumber 45 = .ok (.invokevirtual 58, 3) := bdX4_takeNumber_31.2.2.2.2.2.2.2.2.1
theorem dX4_takeNumber_48 : decode cX4_takeNumber 48 = .ok (.ifCond .eq 19, 3) := bdX4_takeNumber_31.2.2.2.2.2.2.2.2.2.1
theorem dX4_takeNumber_51 : decode cX4_takeNumber 51 = .ok (.aload_n 0, 1) := bdX4_takeNumber_31.2.2.2.2.2.2.2.2.2.2.1
theorem dX4_takeNumber_52 : decode cX4_takeNumber 52 = .ok (.getfield 20, 3) := bdX4_takeNumber_31.2.2.2.2.2.2.2.2.2.2.2.1
theorem dX4_takeNumber_55 : decode cX4_takeNumber 55 = .ok (.iconst 5, 1) := bdX4_takeNumber_31.2.2.2.2.2.2.2.2.2.2.2.2.1
theorem dX4_takeNumber_56 : decode cX4_takeNumber 56 = .ok (.if_icmp .ge 11, 3) := bdX4_takeNumber_31.2.2.2.2.2.2.2.2.2.2.2.2.2.1
theorem dX4_takeNumber_59 : decode cX4_takeNumber 59 = .ok (.aload_n 0, 1) := bdX4_takeNumber_31.2.2.2.2.2.2.2.2.2.2.2.2.2.2.1
theorem dX4_takeNumber_60 : decode cX4_takeNumber 60 = .ok (.getfield 27, 3) := bdX4_takeNumber_31.2.2.2.2.2.2.2.2.2.2.2.2.2.2.2
theorem bdX4_takeNumber_63 : (decode cX4_takeNumber 63 = .ok (.iconst 4, 1)) ∧ (decode cX4_takeNumber 64 = .ok (.if_icmp .lt 5, 3)) ∧ (decode cX4_takeNumber 67 = .ok (.iconst 0, 1)) ∧ (decode cX4_takeNumber 68 = .ok (.ireturn, 1)) ∧ (decode cX4_takeNumber 69 = .ok (.aload_n 0, 1)) ∧ (decode cX4_takeNumber 70 = .ok (.getfield 30, 3)) ∧ (decode cX4_takeNumber 73 = .ok (.istore_n 2, 1)) ∧ (decode cX4_takeNumber 74 = .ok (.iconst 0, 1)) ∧ (decode cX4_takeNumber 75 = .ok (.istore_n 3, 1)) ∧ (decode cX4_takeNumber 76 = .ok (.aload_n 0, 1)) ∧ (decode cX4_takeNumber 77 = .ok (.getfield 30, 3)) ∧ (decode cX4_takeNumber 80 = .ok (.aload_n 0, 1)) ∧ (decode cX4_takeNumber 81 = .ok (.getfield 16, 3)) ∧ (decode cX4_takeNumber 84 = .ok (.getfield 55, 3)) ∧ (decode cX4_takeNumber 87 = .ok (.if_icmp .ge 48, 3)) ∧ (decode cX4_takeNumber 90 = .ok (.aload_n 0, 1)) := by decide +kernel
theorem dX4_takeNumber_63 : decode cX4_takeNumber 63 = .ok (.iconst 4, 1) := bdX4_takeNumber_63.1
theorem dX4_takeNumber_64 : decode cX4_takeNumber 64 = .ok (.if_icmp .lt 5, 3) := bdX4_takeNumber_63.2.1
theorem dX4_takeNumber_67 : decode cX4_takeNumber 67 = .ok (.iconst 0, 1) := bdX4_takeNumber_63.2.2.1
theorem dX4_takeNumber_68 : decode cX4_takeNumber 68 = .ok (.ireturn, 1) := bdX4_takeNumber_63.2.2.2.1
theorem dX4_takeNumber_69 : decode cX4_takeNumber 69 = .ok (.aload_n 0, 1) := bdX4_takeNumber_63.2.2.2.2.1
theorem dX4_takeNumber_70 : decode cX4_takeNumber 70 = .ok (.getfield 30, 3) := bdX4_takeNumber_63.2.2.2.2.2.1
theorem dX4_takeNumber_73 : decode cX4_takeNumber 73 = .ok (.istore_n 2, 1) := bdX4_takeNumber_63.2.2.2.2.2.2.1
theorem dX4_takeNumber_74 : decode cX4_takeNumber 74 = .ok (.iconst 0, 1) := bdX4_takeNumber_63.2.2.2.2.2.2.2.1
theorem dX4_takeNumber_75 : decode cX4_takeNumber 75 = .ok (.istore_n 3, 1) := bdX4_takeNumber_63.2.2.2.2.2.2.2.2.1
theorem dX4_takeNumber_76 : decode cX4_takeNumber 76 = .ok (.aload_n 0, 1) := bdX4_takeNumber_63.2.2.2.2.2.2.2.2.2.1
theorem dX4_takeNumber_77 : decode cX4_takeNumber 77 = .ok (.getfield 30, 3) := bdX4_takeNumber_63.2.2.2.2.2.2.2.2.2.2.1
theorem dX4_takeNumber_80 : decode cX4_takeNumber 80 = .ok (.aload_n 0, 1) := bdX4_takeNumber_63.2.2.2.2.2.2.2.2.2.2.2.1
theorem dX4_takeNumber_81 : decode cX4_takeNumber 81 = .ok (.getfield 16, 3) := bdX4_takeNumber_63.2.2.2.2.2.2.2.2.2.2.2.2.1
theorem dX4_takeNumber_84 : decode cX4_takeNumber 84 = .ok (.getfield 55, 3) := bdX4_takeNumber_63.2.2.2.2.2.2.2.2.2.2.2.2.2.1
theorem dX4_takeNumber_87 : decode cX4_takeNumber 87 = .ok (.if_icmp .ge 48, 3) := bdX4_takeNumber_63.2.2.2.2.2.2.2.2.2.2.2.2.2.2.1
theorem dX4_takeNumber_90 : decode cX4_takeNumber 90 = .ok (.aload_n 0, 1) := bdX4_takeNumber_63.2.2.2.2.2.2.2.2.2.2.2.2.2.2.2
theorem bdX4_takeNumber_91 : (decode cX4_takeNumber 91 = .ok (.invokevirtual 58, 3)) ∧ (decode cX4_takeNumber 94 = .ok (.ifCond .eq 41, 3)) ∧ (decode cX4_takeNumber 97 = .ok (.iload_n 3, 1)) ∧ (decode cX4_takeNumber 98 = .ok (.bipush 10, 2)) ∧ (decode cX4_takeNumber 100 = .ok (.imul, 1)) ∧ (decode cX4_takeNumber 101 = .ok (.aload_n 0, 1)) ∧ (decode cX4_takeNumber 102 = .ok (.getfield 16, 3)) ∧ (decode cX4_takeNumber 105 = .ok (.aload_n 0, 1)) ∧ (decode cX4_takeNumber 106 = .ok (.getfield 30, 3)) ∧ (decode cX4_takeNumber 109 = .ok (.invokevirtual 40, 3)) ∧ (decode cX4_takeNumber 112 = .ok (.iadd, 1)) ∧ (decode cX4_takeNumber 113 = .ok (.bipush 48, 2)) ∧ (decode cX4_takeNumber 115 = .ok (.isub, 1)) ∧ (decode cX4_takeNumber 116 = .ok (.bipush 10, 2)) ∧ (decode cX4_takeNumber 118 = .ok (.invokestatic 61, 3)) ∧ (decode cX4_takeNumber 121 = .ok (.istore_n 3, 1)) := by decide +kernel
theorem dX4_takeNumber_91 : decode cX4_takeNumber 91 = .ok (.invokevirtual 58, 3) := bdX4_takeNumber_91.1
theorem dX4_takeNumber_94 : decode cX4_takeNumber 94 = .ok (.ifCond .eq 41, 3) := bdX4_takeNumber_91.2.1
theorem dX4_takeNumber_97 : decode cX4_takeNumber 97 = .ok (.iload_n 3, 1) := bdX4_takeNumber_91.2.2.1
theorem dX4_takeNumber_98 : decode cX4_takeNumber 98 = .ok (.bipush 10, 2) := bdX4_takeNumber_91.2.2.2.1
theorem dX4_takeNumber_100 : decode cX4_takeNumber 100 = .ok (.imul, 1) := bdX4_takeNumber_91.2.2.2.2.1
theorem dX4_takeNumber_101 : decode cX4_takeNumber 101 = .ok (.aload_n 0, 1) := bdX4_takeNumber_91.2.2.2.2.2.1
theorem dX4_takeNumber_102 : decode cX4_takeNumber 102 = .ok (.getfield 16, 3) := bdX4_takeNumber_91.2.2.2.2.2.2.1
theorem dX4_takeNumber_105 : decode cX4_takeNumber 105 = .ok (.aload_n 0, 1) := bdX4_takeNumber_91.2.2.2.2.2.2.2.1
theorem dX4_takeNumber_106 : decode cX4_takeNumber 106 = .ok (.getfield 30, 3) := bdX4_takeNumber_91.2.2.2.2.2.2.2.2.1
theorem dX4_takeNumber_109 : decode cX4_takeNumber 109 = .ok (.invokevirtual 40, 3) := bdX4_takeNumber_91.2.2.2.2.2.2.2.2.2.1
theorem dX4_takeNumber_112 : decode cX4_takeNumber 112 = .ok (.iadd, 1) := bdX4_takeNumber_91.2.2.2.2.2.2.2.2.2.2.1
theorem dX4_takeNumber_113 : decode cX4_takeNumber 113 = .ok (.bipush 48, 2) := bdX4_takeNumber_91.2.2.2.2.2.2.2.2.2.2.2.1
theorem dX4_takeNumber_115 : decode cX4_takeNumber 115 = .ok (.isub, 1) := bdX4_takeNumber_91.2.2.2.2.2.2.2.2.2.2.2.2.1
theorem dX4_takeNumber_116 : decode cX4_takeNumber 116 = .ok (.bipush 10, 2) := bdX4_takeNumber_91.2.2.2.2.2.2.2.2.2.2.2.2.2.1
theorem dX4_takeNumber_118 : decode cX4_takeNumber 118 = .ok (.invokestatic 61, 3) := bdX4_takeNumber_91.2.2.2.2.2.2.2.2.2.2.2.2.2.2.1
theorem dX4_takeNumber_121 : decode cX4_takeNumber 121 = .ok (.istore_n 3, 1) := bdX4_takeNumber_91.2.2.2.2.2.2.2.2.2.2.2.2.2.2.2
theorem bdX4_takeNumber_122 : (decode cX4_takeNumber 122 = .ok (.aload_n 0, 1)) ∧ (decode cX4_takeNumber 123 = .ok (.dup, 1)) ∧ (decode cX4_takeNumber 124 = .ok (.getfield 30, 3)) ∧ (decode cX4_takeNumber 127 = .ok (.iconst 1, 1)) ∧ (decode cX4_takeNumber 128 = .ok (.iadd, 1)) ∧ (decode cX4_takeNumber 129 = .ok (.putfield 30, 3)) ∧ (decode cX4_takeNumber 132 = .ok (.goto (-56), 3)) ∧ (decode cX4_takeNumber 135 = .ok (.iload_n 3, 1)) ∧ (decode cX4_takeNumber 136 = .ok (.bipush 9, 2)) ∧ (decode cX4_takeNumber 138 = .ok (.if_icmp .le 10, 3)) ∧ (decode cX4_takeNumber 141 = .ok (.aload_n 0, 1)) ∧ (decode cX4_takeNumber 142 = .ok (.iload_n 2, 1)) ∧ (decode cX4_takeNumber 143 = .ok (.putfield 30, 3)) ∧ (decode cX4_takeNumber 146 = .ok (.iconst 0, 1)) ∧ (decode cX4_takeNumber 147 = .ok (.ireturn, 1)) ∧ (decode cX4_takeNumber 148 = .ok (.aload_n 0, 1)) := by decide +kernel
theorem dX4_takeNumber_122 : decode cX4_takeNumber 122 = .ok (.aload_n 0, 1) := bdX4_takeNumber_122.1
theorem dX4_takeNumber_123 : decode cX4_takeNumber 123 = .ok (.dup, 1) := bdX4_takeNumber_122.2.1
theorem dX4_takeNumber_124 : decode cX4_takeNumber 124 = .ok (.getfield 30, 3) := bdX4_takeNumber_122.2.2.1
theorem dX4_takeNumber_127 : decode cX4_takeNumber 127 = .ok (.iconst 1, 1) := bdX4_takeNumber_122.2.2.2.1
theorem dX4_takeNumber_128 : decode cX4_takeNumber 128 = .ok (.iadd, 1) := bdX4_takeNumber_122.2.2.2.2.1
theorem dX4_takeNumber_129 : decode cX4_takeNumber 129 = .ok (.putfield 30, 3) := bdX4_takeNumber_122.2.2.2.2.2.1
theorem dX4_takeNumber_132 : decode cX4_takeNumber 132 = .ok (.goto (-56), 3) := bdX4_takeNumber_122.2.2.2.2.2.2.1
theorem dX4_takeNumber_135 : decode cX4_takeNumber 135 = .ok (.iload_n 3, 1) := bdX4_takeNumber_122.2.2.2.2.2.2.2.1
theorem dX4_takeNumber_136 : decode cX4_takeNumber 136 = .ok (.bipush 9, 2) := bdX4_takeNumber_122.2.2.2.2.2.2.2.2.1
theorem dX4_takeNumber_138 : decode cX4_takeNumber 138 = .ok (.if_icmp .le 10, 3) := bdX4_takeNumber_122.2.2.2.2.2.2.2.2.2.1
theorem dX4_takeNumber_141 : decode cX4_takeNumber 141 = .ok (.aload_n 0, 1) := bdX4_takeNumber_122.2.2.2.2.2.2.2.2.2.2.1
theorem dX4_takeNumber_142 : decode cX4_takeNumber 142 = .ok (.iload_n 2, 1) := bdX4_takeNumber_122.2.2.2.2.2.2.2.2.2.2.2.1
theorem dX4_takeNumber_143 : decode cX4_takeNumber 143 = .ok (.putfield 30, 3) := bdX4_takeNumber_122.2.2.2.2.2.2.2.2.2.2.2.2.1
theorem dX4_takeNumber_146 : decode cX4_takeNumber 146 = .ok (.iconst 0, 1) := bdX4_takeNumber_122.2.2.2.2.2.2.2.2.2.2.2.2.2.1
theorem dX4_takeNumber_147 : decode cX4_takeNumber 147 = .ok (.ireturn, 1) := bdX4_takeNumber_122.2.2.2.2.2.2.2.2.2.2.2.2.2.2.1
theorem dX4_takeNumber_148 : decode cX4_takeNumber 148 = .ok (.aload_n 0, 1) := bdX4_takeNumber_122.2.2.2.2.2.2.2.2.2.2.2.2.2.2.2
theorem bdX4_takeNumber_149 : (decode cX4_takeNumber 149 = .ok (.getfield 11, 3)) ∧ (decode cX4_takeNumber 152 = .ok (.aload_n 0, 1)) ∧ (decode cX4_takeNumber 153 = .ok (.getfield 20, 3)) ∧ (decode cX4_takeNumber 156 = .ok (.aaload, 1)) ∧ (decode cX4_takeNumber 157 = .ok (.aload_n 0, 1)) ∧ (decode cX4_takeNumber 158 = .ok (.getfield 27, 3)) ∧ (decode cX4_takeNumber 161 = .ok (.iload_n 1, 1)) ∧ (decode cX4_takeNumber 162 = .ok (.ifCond .eq 8, 3)) ∧ (decode cX4_takeNumber 165 = .ok (.iload_n 3, 1)) ∧ (decode cX4_takeNumber 166 = .ok (.ineg, 1)) ∧ (decode cX4_takeNumber 167 = .ok (.goto 4, 3)) ∧ (decode cX4_takeNumber 170 = .ok (.iload_n 3, 1)) ∧ (decode cX4_takeNumber 171 = .ok (.iastore, 1)) ∧ (decode cX4_takeNumber 172 = .ok (.aload_n 0, 1)) ∧ (decode cX4_takeNumber 173 = .ok (.dup, 1)) ∧ (decode cX4_takeNumber 174 = .ok (.getfield 27, 3)) := by decide +kernel
theorem dX4_takeNumber_149 : decode cX4_takeNumber 149 = .ok (.getfield 11, 3) := bdX4_takeNumber_149.1
theorem dX4_takeNumber_152 : decode cX4_takeNumber 152 = .ok (.aload_n 0, 1) := bdX4_takeNumber_149.2.1
theorem dX4_takeNumber_153 : decode cX4_takeNumber 153 = .ok (.getfield 20, 3) := bdX4_takeNumber_149.2.2.1
theorem dX4_takeNumber_156 : decode cX4_takeNumber 156 = .ok (.aaload, 1) := bdX4_takeNumber_149.2.2.2.1
theorem dX4_takeNumber_157 : decode cX4_takeNumber 157 = .ok (.aload_n 0, 1) := bdX4_takeNumber_149.2.2.2.2.1
theorem dX4_takeNumber_158 : decode cX4_takeNumber 158 = .ok (.getfield 27, 3) := bdX4_takeNumber_149.2.2.2.2.2.1
theorem dX4_takeNumber_161 : decode cX4_takeNumber 161 = .ok (.iload_n 1, 1) := bdX4_takeNumber_149.2.2.2.2.2.2.1
theorem dX4_takeNumber_162 : decode cX4_takeNumber 162 = .ok (.ifCond .eq 8, 3) := bdX4_takeNumber_149.2.2.2.2.2.2.2.1
theorem dX4_takeNumber_165 : decode cX4_takeNumber 165 = .ok (.iload_n 3, 1) := bdX4_takeNumber_149.2.2.2.2.2.2.2.2.1
theorem dX4_takeNumber_166 : decode cX4_takeNumber 166 = .ok (.ineg, 1) := bdX4_takeNumber_149.2.2.2.2.2.2.2.2.2.1
theorem dX4_takeNumber_167 : decode cX4_takeNumber 167 = .ok (.goto 4, 3) := bdX4_takeNumber_149.2.2.2.2.2.2.2.2.2.2.1
theorem dX4_takeNumber_170 : decode cX4_takeNumber 170 = .ok (.iload_n 3, 1) := bdX4_takeNumber_149.2.2.2.2.2.2.2.2.2.2.2.1
theorem dX4_takeNumber_171 : decode cX4_takeNumber 171 = .ok (.iastore, 1) := bdX4_takeNumber_149.2.2.2.2.2.2.2.2.2.2.2.2.1
theorem dX4_takeNumber_172 : decode cX4_takeNumber 172 = .ok (.aload_n 0, 1) := bdX4_takeNumber_149.2.2.2.2.2.2.2.2.2.2.2.2.2.1
theorem dX4_takeNumber_173 : decode cX4_takeNumber 173 = .ok (.dup, 1) := bdX4_takeNumber_149.2.2.2.2.2.2.2.2.2.2.2.2.2.2.1
theorem dX4_takeNumber_174 : decode cX4_takeNumber 174 = .ok (.getfield 27, 3) := bdX4_takeNumber_149.2.2.2.2.2.2.2.2.2.2.2.2.2.2.2
theorem bdX4_takeNumber_177 : (decode cX4_takeNumber 177 = .ok (.iconst 1, 1)) ∧ (decode cX4_takeNumber 178 = .ok (.iadd, 1)) ∧ (decode cX4_takeNumber 179 = .ok (.putfield 27, 3)) ∧ (decode cX4_takeNumber 182 = .ok (.iconst 1, 1)) ∧ (decode cX4_takeNumber 183 = .ok (.ireturn, 1)) := by decide +kernel
theorem dX4_takeNumber_177 : decode cX4_takeNumber 177 = .ok (.iconst 1, 1) := bdX4_takeNumber_177.1
theorem dX4_takeNumber_178 : decode cX4_takeNumber 178 = .ok (.iadd, 1) := bdX4_takeNumber_177.2.1
theorem dX4_takeNumber_179 : decode cX4_takeNumber 179 = .ok (.putfield 27, 3) := bdX4_takeNumber_177.2.2.1
theorem dX4_takeNumber_182 : decode cX4_takeNumber 182 = .ok (.iconst 1, 1) := bdX4_takeNumber_177.2.2.2.1
theorem dX4_takeNumber_183 : decode cX4_takeNumber 183 = .ok (.ireturn, 1) := bdX4_takeNumber_177.2.2.2.2
set_option maxHeartbeats 4000000 in
set_option maxRecDepth 100000 in
theorem k_X4_takeNumber (l : Launch) (dC : Nat → ClassId) (dI : Nat → Nat → Nat) (h : Nat → Nat) (cs : Nat → ClassId) (sz : Nat) (I : Nat → Int32) (L : Nat → Int64) (A : Nat → Nat → Int32) (Q : Nat → Nat → Int64) (G : Nat → Nat → Nat → Int32) (J : Nat → Nat → Nat → Int64) (T p9 h6 r6 : Nat) (hT : I 151 = nI T) (hT9 : T ≤ 90) (hp : I 169 = nI p9) (hpT : p9 ≤ T) (hh : I 166 = nI h6) (hh4 : h6 ≤ 4) (hi6 : I 168 = nI r6) (hi4 : r6 ≤ 3) : Met l yX4_takeNumber wsX4_takeNumber ({ frames := 2, cells := 0, slots := 0, locals := 60 }) (va_Pc [.ref (h 104)] (xPre (dC, dI) (wRead h cs I L A Q G J) (tysA cs) sz)) (va_Qi (fun (r : Int32) (u : CS) => ∃ i169 : Int32, ∃ i168 : Int32, ∃ g1 : Nat → Nat → Int32, ((r = nI 1 ∧ i168 = nI (r6 + 1) ∧ ∃ (q : Nat) (v : Int32), q ≤ T ∧ p9 < q ∧ i169 = nI q ∧ nmOk (A 150) T p9 q v ∧ g1 = va_up (G 1) h6 (upd (G 1 h6) r6 v)) ∨ (r = nI 0 ∧ i168 = I 168 ∧ g1 = G 1 ∧ ∃ q : Nat, q ≤ T ∧ i169 = nI q ∧ nmBad (A 150) T p9 q)) ∧ u = ((va_up (va_up I 169 i169) 168 i168), L, A, Q, (va_up G 1 g1), J)) (xB (dC, dI) (tysA cs) (va_A (wRead h cs I L A Q G J) sz) (fun u : CS => wRead h cs u.1 u.2.1 u.2.2.1 u.2.2.2.1 u.2.2.2.2.1 u.2.2.2.2.2)) (va_A (wRead h cs I L A Q G J) sz)) 0 0 (va_A (wRead h cs I L A Q G J) sz) := by
  refine Met.ofW (cc := cX4_takeNumber) (maxL := 4) (ret := (some .boolean)) (by decide) rfl ?_
  intro p e s m args below meth c s₁ B hml hv
  obtain ⟨rfl, hsz, hP, hK, hD0, hN⟩ := hv
  have hx := B.exec
  have hb := B.bytes
  have hr := B.returns
  have hts := atoms_spec (ws := wsX4_takeNumber) B.pre
  have hown : s.vm.findClass RX4 = some m.cls := findClass_of_methodNamed B.named
  have hlocks := B.notSynchronized
  subst hsz
  have hD := hD0.self (sz := s.heap.size)
  generalize hAe : va_A (wRead h cs I L A Q G J) s.heap.size = A0 at hD ⊢
  have hA : ∀ q : Nat, s.heap.size ≤ q → A0 q := fun q h => by rw [← hAe]; exact Or.inr h
  have hl := lv_entry ([.ref (h 104)]) (n := 4) (Nat.le_of_ble_eq_true rfl)
  rw [lg_entry_eq]
  generalize (lg_sl ([.ref (h 104)]) ++ List.replicate (4 - (lg_sl ([.ref (h 104)])).length) Slot.unset).toArray = ls at hl ⊢
  have hl : lv_has ls 4 [(0, .ref (h 104))] := hl
  generalize hH : s.heap = H at hP ⊢
  have hS : va_S A0 s.heap H [] := by rw [← hH]; exact va_S.rf
  have hinX4 : ∀ w ∈ wsX40, w ∈ wsX4_takeNumber := by decide +kernel
  have hinX7 : ∀ w ∈ wsX70, w ∈ wsX4_takeNumber := by decide +kernel
  refine lv_aload_n hx hb dX4_takeNumber_0 rfl (lv_at hl 0 rfl) ?_
  refine xj_v (wc := (wRead h cs I L A Q G J)) (wr := ([] : va_W)) hP hD hS hA [0, 1, 2, 3, 4, 5, 6, 7, 8] [] rfl rfl (by decide +kernel) (by decide +kernel) (va_runV (As := []) (rest := []) ⟨hx, hb, hml, hown, hts⟩ (k_X4_skipBlanks l dC dI h cs H.size I L A Q G J T p9 hT (by first | assumption | omega | exact hT9) hp (by first | assumption | omega | exact hpT)) (cwV 0 hts gX4_takeNumber_X4_skipBlanks rfl rfl rfl (by decide +kernel) ⟨Nat.le_of_ble_eq_true rfl, Nat.le_of_ble_eq_true rfl⟩) (xpV (wc := (wRead h cs I L A Q G J)) hP hD hK hN [0, 1, 2, 3, 4, 5, 6, 7, 8] rfl (by decide) 0 (ci := 4) rfl rfl _) rfl rfl hl.1 rfl (lv_room (Nat.le_of_ble_eq_true rfl)) dX4_takeNumber_1 ⟨Nat.zero_le _, Nat.zero_le _⟩) (fun u_1 H locs hw hP hD hS => ?_)
  obtain ⟨i169_3, hf_4, rfl⟩ := hw
  have hP : va_P (dC, dI) vwCl (wRead h cs (va_up I 169 i169_3) L A Q G J) H := hP
  have hD : va_D A0 (wRead h cs (va_up I 169 i169_3) L A Q G J) := hD
  obtain ⟨q_5, hs1, rfl⟩ := hf_4
  have hs1T := hs1.2.1
  have hs1A := hs1.1
  refine lv_aload_n hx hb dX4_takeNumber_4 rfl (lv_at hl 0 rfl) ?_
  refine va_get (D := (dC, dI)) (ci := 4) (v := .ref (h 103)) (C := RX4) (T := TX4) (N := 6) hx hb hts hinX4 hown hK hP 0 rfl rfl 0 (by decide) (hts (.fieldLink RX4 16 "MixedWords$Reader" "tape" "LMixedWords$Tape;") (by decide +kernel)) (fun _ h9 => h9) rfl dX4_takeNumber_5 ?_
  refine lv_aload_n hx hb dX4_takeNumber_8 rfl (lv_at hl 0 rfl) ?_
  refine va_get (D := (dC, dI)) (ci := 4) (v := .int (nI q_5)) (C := RX4) (T := TX4) (N := 6) hx hb hts hinX4 hown hK hP 0 rfl rfl 5 (by decide) (hts (.fieldLink RX4 30 "MixedWords$Reader" "place" "I") (by decide +kernel)) (fun _ h9 => h9) rfl dX4_takeNumber_9 ?_
  refine xj_i (wc := (wTape h cs (va_up I 169 (nI q_5)) L A Q G J)) (wr := [(h 104, .inr (4, [.ref (h 103), .ref (h 160), .int (I 166), .int (I 167), .int (I 168), .int (nI q_5)])), (h 160, .inl (cs 3, 5, .inr (.inr (.inr (.inr (fun i => if i < 5 then some (h (i + 161)) else none)))))), (h 161, .inl (cs 0, 4, .inl ((G 1) 0))), (h 162, .inl (cs 0, 4, .inl ((G 1) 1))), (h 163, .inl (cs 0, 4, .inl ((G 1) 2))), (h 164, .inl (cs 0, 4, .inl ((G 1) 3))), (h 165, .inl (cs 0, 4, .inl ((G 1) 4)))]) hP hD hS hA [7, 8] [0, 1, 2, 3, 4, 5, 6] rfl rfl (by decide +kernel) (by decide +kernel) (va_runV (As := [.int (nI q_5)]) (rest := []) ⟨hx, hb, hml, hown, hts⟩ (k_X7_at l dC dI h cs H.size (va_up I 169 (nI q_5)) L A Q G J (nI q_5) T hT (by first | assumption | omega | exact hT9)) (cwV 1 hts gX4_takeNumber_X7_at rfl rfl rfl (by decide +kernel) ⟨Nat.le_of_ble_eq_true rfl, Nat.le_of_ble_eq_true rfl⟩) (xpV (wc := (wTape h cs (va_up I 169 (nI q_5)) L A Q G J)) hP hD hK hN [7, 8] rfl (by decide) 7 (ci := 7) rfl rfl _) rfl rfl hl.1 rfl (lv_room (Nat.le_of_ble_eq_true rfl)) dX4_takeNumber_12 ⟨Nat.zero_le _, Nat.zero_le _⟩) (fun r_7 u_6 H locs hw hP hD hS => ?_)
  obtain ⟨hf_8, rfl⟩ := hw
  have hP : va_P (dC, dI) vwCl (wRead h cs (va_up I 169 (nI q_5)) L A Q G J) H := hP
  have hD : va_D A0 (wRead h cs (va_up I 169 (nI q_5)) L A Q G J) := hD
  have hat := at_c (by omega) (by omega) hf_8
  clear hf_8
  refine lv_bipush (v := nI 45) hx hb dX4_takeNumber_15 (by decide) ?_
  refine lv_icmp_ne (tgt := 24) hx hb dX4_takeNumber_17 (by decide) (fun c_17_8 => ?_) (fun c_17_8 => ?_)
  · skip
    have hN45 : ¬ isC _ _ _ _ := fun q9 => c_17_8 ((cmp_c (k := 45) (by decide) hat).mpr q9)
    refine lv_iconst (v := nI 0) hx hb dX4_takeNumber_24 (by decide) ?_
    refine lv_istore_n (lv' := [(1, .int (nI 0)), (0, .ref (h 104))]) hx hb dX4_takeNumber_25 rfl hl (by decide) rfl (fun ls hl => ?_)
    refine lv_iload_n hx hb dX4_takeNumber_26 rfl (lv_at hl 0 rfl) ?_
    refine lv_if_eq (tgt := 44) hx hb dX4_takeNumber_27 (by decide) (fun _ => ?_) (fun c9 => False.elim (by revert c9; decide +kernel))
    have cut_44 : ∀ (b1 : Nat) (q : Nat), (b1 ≤ 1) → (p9 ≤ q) → (q ≤ T) → (∃ (j1 : Nat) (ng : Bool), IsSkip (A 150) T p9 j1 ∧ (ng = true ↔ isC (A 150) T j1 45) ∧ IsSkip (A 150) T (if ng then j1 + 1 else j1) q ∧ (b1 = 1 ↔ ng = true)) → ∀ (H : Heap) (locs : List Loc) (ls : Array Slot), va_P (dC, dI) vwCl (wRead h cs (va_up I 169 (nI q)) L A Q G J) H → va_D A0 (wRead h cs (va_up I 169 (nI q)) L A Q G J) → va_S A0 s.heap H locs → lv_has ls 4 [(0, .ref (h 104)), (1, .int (nI b1))] → W p l e (headSpec wsX4_takeNumber ({ frames := 2, cells := 0, slots := 0, locals := 60 })).room s m ([.ref (h 104)] : List Value).toArray below meth c H locs 0 0 (MQ below (va_Qi (fun (r : Int32) (u : CS) => ∃ i169 : Int32, ∃ i168 : Int32, ∃ g1 : Nat → Nat → Int32, ((r = nI 1 ∧ i168 = nI (r6 + 1) ∧ ∃ (q : Nat) (v : Int32), q ≤ T ∧ p9 < q ∧ i169 = nI q ∧ nmOk (A 150) T p9 q v ∧ g1 = va_up (G 1) h6 (upd (G 1 h6) r6 v)) ∨ (r = nI 0 ∧ i168 = I 168 ∧ g1 = G 1 ∧ ∃ q : Nat, q ≤ T ∧ i169 = nI q ∧ nmBad (A 150) T p9 q)) ∧ u = ((va_up (va_up I 169 i169) 168 i168), L, A, Q, (va_up G 1 g1), J)) (xB (dC, dI) (tysA cs) A0 (fun u : CS => wRead h cs u.1 u.2.1 u.2.2.1 u.2.2.2.1 u.2.2.2.2.1 u.2.2.2.2.2)) A0) ([.ref (h 104)] : List Value).toArray s 0 0 A0) (F0 m 44 ls []) := by
      intro b1 q hb44 hq44 hqT44 hsk44 H locs ls hP hD hS hl
      refine lv_aload_n hx hb dX4_takeNumber_44 rfl (lv_at hl 0 rfl) ?_
      refine xj_i (wc := (wRead h cs (va_up I 169 (nI q)) L A Q G J)) (wr := ([] : va_W)) hP hD hS hA [0, 1, 2, 3, 4, 5, 6, 7, 8] [] rfl rfl (by decide +kernel) (by decide +kernel) (va_runV (As := []) (rest := []) ⟨hx, hb, hml, hown, hts⟩ (k_X4_isDigit l dC dI h cs H.size (va_up I 169 (nI q)) L A Q G J T q hT (by first | assumption | omega | exact hT9) rfl (by first | assumption | omega | exact hpT)) (cwV 0 hts gX4_takeNumber_X4_isDigit rfl rfl rfl (by decide +kernel) ⟨Nat.le_of_ble_eq_true rfl, Nat.le_of_ble_eq_true rfl⟩) (xpV (wc := (wRead h cs (va_up I 169 (nI q)) L A Q G J)) hP hD hK hN [0, 1, 2, 3, 4, 5, 6, 7, 8] rfl (by decide) 0 (ci := 4) rfl rfl _) rfl rfl hl.1 rfl (lv_room (Nat.le_of_ble_eq_true rfl)) dX4_takeNumber_45 ⟨Nat.zero_le _, Nat.zero_le _⟩) (fun r_11 u_10 H locs hw hP hD hS => ?_)
      obtain ⟨hf_12, rfl⟩ := hw
      have hP : va_P (dC, dI) vwCl (wRead h cs (va_up I 169 (nI q)) L A Q G J) H := hP
      have hD : va_D A0 (wRead h cs (va_up I 169 (nI q)) L A Q G J) := hD
      rcases hf_12 with ⟨rfl, hdy⟩ | ⟨rfl, hdn⟩
      · skip
        refine lv_if_eq (tgt := 67) hx hb dX4_takeNumber_48 (by decide) (fun c9 => False.elim (by revert c9; decide +kernel)) (fun _ => ?_)
        refine lv_aload_n hx hb dX4_takeNumber_51 rfl (lv_at hl 0 rfl) ?_
        refine va_get (D := (dC, dI)) (ci := 4) (v := .int (I 166)) (C := RX4) (T := TX4) (N := 6) hx hb hts hinX4 hown hK hP 0 rfl rfl 2 (by decide) (hts (.fieldLink RX4 20 "MixedWords$Reader" "height" "I") (by decide +kernel)) (fun _ h9 => h9) rfl dX4_takeNumber_52 ?_
        refine xt_i (y := nI h6) (hh) ?_
        refine lv_iconst (v := nI 5) hx hb dX4_takeNumber_55 (by decide) ?_
        refine xn_ge (tgt := 67) hx hb dX4_takeNumber_56 (by decide) (by omega) (by omega) (fun c_56_12 => ?_) (fun c_56_12 => ?_)
        · skip
          exact absurd c_56_12 (by omega)
        · skip
          refine lv_aload_n hx hb dX4_takeNumber_59 rfl (lv_at hl 0 rfl) ?_
          refine va_get (D := (dC, dI)) (ci := 4) (v := .int (I 168)) (C := RX4) (T := TX4) (N := 6) hx hb hts hinX4 hown hK hP 0 rfl rfl 4 (by decide) (hts (.fieldLink RX4 27 "MixedWords$Reader" "inRow" "I") (by decide +kernel)) (fun _ h9 => h9) rfl dX4_takeNumber_60 ?_
          refine xt_i (y := nI r6) (hi6) ?_
          refine lv_iconst (v := nI 4) hx hb dX4_takeNumber_63 (by decide) ?_
          refine xn_lt (tgt := 69) hx hb dX4_takeNumber_64 (by decide) (by omega) (by omega) (fun c_64_13 => ?_) (fun c_64_13 => ?_)
          · skip
            have hdg44 := hdy
            refine lv_aload_n hx hb dX4_takeNumber_69 rfl (lv_at hl 0 rfl) ?_
            refine va_get (D := (dC, dI)) (ci := 4) (v := .int (nI q)) (C := RX4) (T := TX4) (N := 6) hx hb hts hinX4 hown hK hP 0 rfl rfl 5 (by decide) (hts (.fieldLink RX4 30 "MixedWords$Reader" "place" "I") (by decide +kernel)) (fun _ h9 => h9) rfl dX4_takeNumber_70 ?_
            refine lv_istore_n (lv' := [(2, .int (nI q)), (0, .ref (h 104)), (1, .int (nI b1))]) hx hb dX4_takeNumber_73 rfl hl (by decide) rfl (fun ls hl => ?_)
            refine lv_iconst (v := nI 0) hx hb dX4_takeNumber_74 (by decide) ?_
            refine lv_istore_n (lv' := [(3, .int (nI 0)), (2, .int (nI q)), (0, .ref (h 104)), (1, .int (nI b1))]) hx hb dX4_takeNumber_75 rfl hl (by decide) rfl (fun ls hl => ?_)
            have cut_76 : ∀ (nf : Nat) (q2 : Nat) (z3 : Int32), (T - q2) < nf → (q ≤ q2) → (q2 ≤ T) → (∀ u : Nat, q ≤ u → u < q2 → IsDig (A 150 u)) → (z3 = satV (digV (A 150) q (q2 - q))) → (q2 = q → IsDig (A 150 q2) ∧ q2 < T) → ∀ (H : Heap) (locs : List Loc) (ls : Array Slot), va_P (dC, dI) vwCl (wRead h cs (va_up I 169 (nI q2)) L A Q G J) H → va_D A0 (wRead h cs (va_up I 169 (nI q2)) L A Q G J) → va_S A0 s.heap H locs → lv_has ls 4 [(0, .ref (h 104)), (1, .int (nI b1)), (2, .int (nI q)), (3, .int z3)] → W p l e (headSpec wsX4_takeNumber ({ frames := 2, cells := 0, slots := 0, locals := 60 })).room s m ([.ref (h 104)] : List Value).toArray below meth c H locs 0 0 (MQ below (va_Qi (fun (r : Int32) (u : CS) => ∃ i169 : Int32, ∃ i168 : Int32, ∃ g1 : Nat → Nat → Int32, ((r = nI 1 ∧ i168 = nI (r6 + 1) ∧ ∃ (q : Nat) (v : Int32), q ≤ T ∧ p9 < q ∧ i169 = nI q ∧ nmOk (A 150) T p9 q v ∧ g1 = va_up (G 1) h6 (upd (G 1 h6) r6 v)) ∨ (r = nI 0 ∧ i168 = I 168 ∧ g1 = G 1 ∧ ∃ q : Nat, q ≤ T ∧ i169 = nI q ∧ nmBad (A 150) T p9 q)) ∧ u = ((va_up (va_up I 169 i169) 168 i168), L, A, Q, (va_up G 1 g1), J)) (xB (dC, dI) (tysA cs) A0 (fun u : CS => wRead h cs u.1 u.2.1 u.2.2.1 u.2.2.2.1 u.2.2.2.2.1 u.2.2.2.2.2)) A0) ([.ref (h 104)] : List Value).toArray s 0 0 A0) (F0 m 76 ls []) := by
              intro nf
              induction nf with
              | zero => intro q2 z3 hm; exact absurd hm (Nat.not_lt_zero _)
              | succ nf ih_76 =>
                intro q2 z3 hm_76 hq76 hqT76 hd76 hz76 hlt76 H locs ls hP hD hS hl
                refine lv_aload_n hx hb dX4_takeNumber_76 rfl (lv_at hl 0 rfl) ?_
                refine va_get (D := (dC, dI)) (ci := 4) (v := .int (nI q2)) (C := RX4) (T := TX4) (N := 6) hx hb hts hinX4 hown hK hP 0 rfl rfl 5 (by decide) (hts (.fieldLink RX4 30 "MixedWords$Reader" "place" "I") (by decide +kernel)) (fun _ h9 => h9) rfl dX4_takeNumber_77 ?_
                refine lv_aload_n hx hb dX4_takeNumber_80 rfl (lv_at hl 0 rfl) ?_
                refine va_get (D := (dC, dI)) (ci := 4) (v := .ref (h 103)) (C := RX4) (T := TX4) (N := 6) hx hb hts hinX4 hown hK hP 0 rfl rfl 0 (by decide) (hts (.fieldLink RX4 16 "MixedWords$Reader" "tape" "LMixedWords$Tape;") (by decide +kernel)) (fun _ h9 => h9) rfl dX4_takeNumber_81 ?_
                refine va_get (D := (dC, dI)) (ci := 7) (v := .int (I 151)) (C := RX7) (T := TX7) (N := 2) hx hb hts hinX7 hown hK hP 7 rfl rfl 1 (by decide) (hts (.fieldLink RX4 55 "MixedWords$Tape" "length" "I") (by decide +kernel)) (fun _ h9 => h9) rfl dX4_takeNumber_84 ?_
                refine xt_i (y := nI T) (hT) ?_
                refine xn_ge (tgt := 135) hx hb dX4_takeNumber_87 (by decide) (by omega) (by omega) (fun c_87_14 => ?_) (fun c_87_14 => ?_)
                · skip
                  refine lv_iload_n hx hb dX4_takeNumber_135 rfl (lv_at hl 3 rfl) ?_
                  refine lv_bipush (v := nI 9) hx hb dX4_takeNumber_136 (by decide) ?_
                  refine lv_icmp_le (tgt := 148) hx hb dX4_takeNumber_138 (by decide) (fun c_138_15 => ?_) (fun c_138_15 => ?_)
                  · skip
                    refine lv_aload_n hx hb dX4_takeNumber_148 rfl (lv_at hl 0 rfl) ?_
                    refine va_get (D := (dC, dI)) (ci := 4) (v := .ref (h 160)) (C := RX4) (T := TX4) (N := 6) hx hb hts hinX4 hown hK hP 0 rfl rfl 1 (by decide) (hts (.fieldLink RX4 11 "MixedWords$Reader" "cells" "[[I") (by decide +kernel)) (fun _ h9 => h9) rfl dX4_takeNumber_149 ?_
                    refine lv_aload_n hx hb dX4_takeNumber_152 rfl (lv_at hl 0 rfl) ?_
                    refine va_get (D := (dC, dI)) (ci := 4) (v := .int (I 166)) (C := RX4) (T := TX4) (N := 6) hx hb hts hinX4 hown hK hP 0 rfl rfl 2 (by decide) (hts (.fieldLink RX4 20 "MixedWords$Reader" "height" "I") (by decide +kernel)) (fun _ h9 => h9) rfl dX4_takeNumber_153 ?_
                    refine xt_i (y := nI h6) (hh) ?_
                    refine xa_aald (b := h (h6 + 161)) hx hb hK hP 1 3 rfl rfl rfl (by omega) (by decide) (if_pos (by omega)) dX4_takeNumber_156 ?_
                    refine lv_aload_n hx hb dX4_takeNumber_157 rfl (lv_at hl 0 rfl) ?_
                    refine va_get (D := (dC, dI)) (ci := 4) (v := .int (I 168)) (C := RX4) (T := TX4) (N := 6) hx hb hts hinX4 hown hK hP 0 rfl rfl 4 (by decide) (hts (.fieldLink RX4 27 "MixedWords$Reader" "inRow" "I") (by decide +kernel)) (fun _ h9 => h9) rfl dX4_takeNumber_158 ?_
                    refine xt_i (y := nI r6) (hi6) ?_
                    refine lv_iload_n hx hb dX4_takeNumber_161 rfl (lv_at hl 1 rfl) ?_
                    refine xz_eq (tgt := 170) hx hb dX4_takeNumber_162 (by decide) (by omega) (fun c_162_16 => ?_) (fun c_162_16 => ?_)
                    · skip
                      refine lv_iload_n hx hb dX4_takeNumber_170 rfl (lv_at hl 3 rfl) ?_
                      refine xa_iast hx hb hK hP hD hS (2 + h6) 0 (wRead_atG1 (by omega)) rfl (by omega) (by decide) dX4_takeNumber_171 (fun H locs hP hD hS => ?_)
                      rw [wRead_setG1 (by omega)] at hP hD
                      have hP : va_P (dC, dI) vwCl (wRead h cs (va_up I 169 (nI q2)) L A Q (va_up G 1 (va_up (G 1) h6 (upd ((G 1) h6) r6 z3))) J) H := hP
                      have hD : va_D A0 (wRead h cs (va_up I 169 (nI q2)) L A Q (va_up G 1 (va_up (G 1) h6 (upd ((G 1) h6) r6 z3))) J) := hD
                      refine lv_aload_n hx hb dX4_takeNumber_172 rfl (lv_at hl 0 rfl) ?_
                      refine lv_dup hx hb dX4_takeNumber_173 rfl ?_
                      refine va_get (D := (dC, dI)) (ci := 4) (v := .int (I 168)) (C := RX4) (T := TX4) (N := 6) hx hb hts hinX4 hown hK hP 0 rfl rfl 4 (by decide) (hts (.fieldLink RX4 27 "MixedWords$Reader" "inRow" "I") (by decide +kernel)) (fun _ h9 => h9) rfl dX4_takeNumber_174 ?_
                      refine xt_i (y := nI r6) (hi6) ?_
                      refine lv_iconst (v := nI 1) hx hb dX4_takeNumber_177 (by decide) ?_
                      refine lv_iadd hx hb dX4_takeNumber_178 ?_
                      refine xt_i (y := nI (r6 + 1)) (nI_add _ _) ?_
                      refine va_put (D := (dC, dI)) (ci := 4) (v := .int (nI (r6 + 1))) (ty := .int) (C := RX4) (T := TX4) (N := 6) hx hb hts hinX4 tyX4 tyX4_ok nmX4 hown hK hP hD hS 0 rfl rfl 4 (by decide) (hts (.fieldLink RX4 27 "MixedWords$Reader" "inRow" "I") (by decide +kernel)) (fun _ h9 => h9) rfl (by decide +kernel) rfl rfl (Nat.le_of_ble_eq_true rfl) dX4_takeNumber_179 (fun H locs hP hD hS => ?_)
                      have hP : va_P (dC, dI) vwCl (wRead h cs (va_up (va_up I 169 (nI q2)) 168 (nI (r6 + 1))) L A Q (va_up G 1 (va_up (G 1) h6 (upd ((G 1) h6) r6 z3))) J) H := hP
                      have hD : va_D A0 (wRead h cs (va_up (va_up I 169 (nI q2)) 168 (nI (r6 + 1))) L A Q (va_up G 1 (va_up (G 1) h6 (upd ((G 1) h6) r6 z3))) J) := hD
                      refine lv_iconst (v := nI 1) hx hb dX4_takeNumber_182 (by decide) ?_
                      exact xr_z (v := (nI 1)) hx hb hr hlocks hK hS dX4_takeNumber_183 (rfl) ((va_up (va_up I 169 (nI q2)) 168 (nI (r6 + 1))), L, A, Q, (va_up G 1 (va_up (G 1) h6 (upd ((G 1) h6) r6 z3))), J) ⟨(nI q2), (nI (r6 + 1)), (va_up (G 1) h6 (upd ((G 1) h6) r6 z3)), (Or.inl ⟨rfl, rfl, q2, z3, hqT76, (by first | omega | exact Nat.lt_of_le_of_lt hq44 (Nat.lt_of_le_of_ne hq76 (fun e9 => hdn ⟨(hlt76 e9.symm).2, (hlt76 e9.symm).1⟩))), rfl, by
          obtain ⟨j1, ng, k1, k2, k3, k4⟩ := hsk44
          have h9 : digV (A 150) q (q2 - q) ≤ nI 9 := satV_le.mp (by rw [← hz76]; assumption)
          have hz9 : z3 = digV (A 150) q (q2 - q) := by rw [hz76, satV, if_pos h9]
          have hng : ng = false := (by cases ng; (· rfl); (· exact absurd (k4.mpr rfl) (by omega)))
          subst hng
          exact ⟨j1, q, false, k1, k2, k3, hdg44, ⟨hq76, hqT76, hd76, fun g9 => by omega⟩, h9, by rw [hz9]; rfl⟩, rfl⟩), rfl⟩ hP hD
                    · skip
                      refine lv_iload_n hx hb dX4_takeNumber_165 rfl (lv_at hl 3 rfl) ?_
                      refine lv_ineg hx hb dX4_takeNumber_166 ?_
                      refine lv_goto (tgt := 171) hx hb dX4_takeNumber_167 (by decide) ?_
                      refine xa_iast hx hb hK hP hD hS (2 + h6) 0 (wRead_atG1 (by omega)) rfl (by omega) (by decide) dX4_takeNumber_171 (fun H locs hP hD hS => ?_)
                      rw [wRead_setG1 (by omega)] at hP hD
                      have hP : va_P (dC, dI) vwCl (wRead h cs (va_up I 169 (nI q2)) L A Q (va_up G 1 (va_up (G 1) h6 (upd ((G 1) h6) r6 (-z3)))) J) H := hP
                      have hD : va_D A0 (wRead h cs (va_up I 169 (nI q2)) L A Q (va_up G 1 (va_up (G 1) h6 (upd ((G 1) h6) r6 (-z3)))) J) := hD
                      refine lv_aload_n hx hb dX4_takeNumber_172 rfl (lv_at hl 0 rfl) ?_
                      refine lv_dup hx hb dX4_takeNumber_173 rfl ?_
                      refine va_get (D := (dC, dI)) (ci := 4) (v := .int (I 168)) (C := RX4) (T := TX4) (N := 6) hx hb hts hinX4 hown hK hP 0 rfl rfl 4 (by decide) (hts (.fieldLink RX4 27 "MixedWords$Reader" "inRow" "I") (by decide +kernel)) (fun _ h9 => h9) rfl dX4_takeNumber_174 ?_
                      refine xt_i (y := nI r6) (hi6) ?_
                      refine lv_iconst (v := nI 1) hx hb dX4_takeNumber_177 (by decide) ?_
                      refine lv_iadd hx hb dX4_takeNumber_178 ?_
                      refine xt_i (y := nI (r6 + 1)) (nI_add _ _) ?_
                      refine va_put (D := (dC, dI)) (ci := 4) (v := .int (nI (r6 + 1))) (ty := .int) (C := RX4) (T := TX4) (N := 6) hx hb hts hinX4 tyX4 tyX4_ok nmX4 hown hK hP hD hS 0 rfl rfl 4 (by decide) (hts (.fieldLink RX4 27 "MixedWords$Reader" "inRow" "I") (by decide +kernel)) (fun _ h9 => h9) rfl (by decide +kernel) rfl rfl (Nat.le_of_ble_eq_true rfl) dX4_takeNumber_179 (fun H locs hP hD hS => ?_)
                      have hP : va_P (dC, dI) vwCl (wRead h cs (va_up (va_up I 169 (nI q2)) 168 (nI (r6 + 1))) L A Q (va_up G 1 (va_up (G 1) h6 (upd ((G 1) h6) r6 (-z3)))) J) H := hP
                      have hD : va_D A0 (wRead h cs (va_up (va_up I 169 (nI q2)) 168 (nI (r6 + 1))) L A Q (va_up G 1 (va_up (G 1) h6 (upd ((G 1) h6) r6 (-z3)))) J) := hD
                      refine lv_iconst (v := nI 1) hx hb dX4_takeNumber_182 (by decide) ?_
                      exact xr_z (v := (nI 1)) hx hb hr hlocks hK hS dX4_takeNumber_183 (rfl) ((va_up (va_up I 169 (nI q2)) 168 (nI (r6 + 1))), L, A, Q, (va_up G 1 (va_up (G 1) h6 (upd ((G 1) h6) r6 (-z3)))), J) ⟨(nI q2), (nI (r6 + 1)), (va_up (G 1) h6 (upd ((G 1) h6) r6 (-z3))), (Or.inl ⟨rfl, rfl, q2, -z3, hqT76, (by first | omega | exact Nat.lt_of_le_of_lt hq44 (Nat.lt_of_le_of_ne hq76 (fun e9 => hdn ⟨(hlt76 e9.symm).2, (hlt76 e9.symm).1⟩))), rfl, by
          obtain ⟨j1, ng, k1, k2, k3, k4⟩ := hsk44
          have h9 : digV (A 150) q (q2 - q) ≤ nI 9 := satV_le.mp (by rw [← hz76]; assumption)
          have hz9 : z3 = digV (A 150) q (q2 - q) := by rw [hz76, satV, if_pos h9]
          have hng : ng = true := (by cases ng; (· exact absurd (k4.mp (by omega)) (by decide)); (· rfl))
          subst hng
          exact ⟨j1, q, true, k1, k2, k3, hdg44, ⟨hq76, hqT76, hd76, fun g9 => by omega⟩, h9, by rw [hz9]; rfl⟩, rfl⟩), rfl⟩ hP hD
                  · skip
                    refine lv_aload_n hx hb dX4_takeNumber_141 rfl (lv_at hl 0 rfl) ?_
                    refine lv_iload_n hx hb dX4_takeNumber_142 rfl (lv_at hl 2 rfl) ?_
                    refine va_put (D := (dC, dI)) (ci := 4) (v := .int (nI q)) (ty := .int) (C := RX4) (T := TX4) (N := 6) hx hb hts hinX4 tyX4 tyX4_ok nmX4 hown hK hP hD hS 0 rfl rfl 5 (by decide) (hts (.fieldLink RX4 30 "MixedWords$Reader" "place" "I") (by decide +kernel)) (fun _ h9 => h9) rfl (by decide +kernel) rfl rfl (Nat.le_of_ble_eq_true rfl) dX4_takeNumber_143 (fun H locs hP hD hS => ?_)
                    have hP : va_P (dC, dI) vwCl (wRead h cs (va_up I 169 (nI q)) L A Q G J) H := hP
                    have hD : va_D A0 (wRead h cs (va_up I 169 (nI q)) L A Q G J) := hD
                    refine lv_iconst (v := nI 0) hx hb dX4_takeNumber_146 (by decide) ?_
                    exact xr_z (v := (nI 0)) hx hb hr hlocks hK hS dX4_takeNumber_147 (rfl) ((va_up (va_up I 169 (nI q)) 168 (I 168)), L, A, Q, (va_up G 1 (G 1)), J) ⟨(nI q), (I 168), (G 1), (Or.inr ⟨rfl, rfl, rfl, q, hqT44, rfl, by obtain ⟨j1, ng, k1, k2, k3, -⟩ := hsk44; exact ⟨j1, ng, k1, k2, k3, Or.inr ⟨q2, ⟨hq76, hqT76, hd76, fun g9 => by omega⟩, fun g9 => (by assumption : ¬ z3 ≤ nI 9) (by rw [hz76]; exact satV_le.mpr g9)⟩⟩⟩), rfl⟩ hP hD
                · skip
                  refine lv_aload_n hx hb dX4_takeNumber_90 rfl (lv_at hl 0 rfl) ?_
                  refine xj_i (wc := (wRead h cs (va_up I 169 (nI q2)) L A Q G J)) (wr := ([] : va_W)) hP hD hS hA [0, 1, 2, 3, 4, 5, 6, 7, 8] [] rfl rfl (by decide +kernel) (by decide +kernel) (va_runV (As := []) (rest := []) ⟨hx, hb, hml, hown, hts⟩ (k_X4_isDigit l dC dI h cs H.size (va_up I 169 (nI q2)) L A Q G J T q2 hT (by first | assumption | omega | exact hT9) rfl (by first | assumption | omega | exact hpT)) (cwV 0 hts gX4_takeNumber_X4_isDigit rfl rfl rfl (by decide +kernel) ⟨Nat.le_of_ble_eq_true rfl, Nat.le_of_ble_eq_true rfl⟩) (xpV (wc := (wRead h cs (va_up I 169 (nI q2)) L A Q G J)) hP hD hK hN [0, 1, 2, 3, 4, 5, 6, 7, 8] rfl (by decide) 0 (ci := 4) rfl rfl _) rfl rfl hl.1 rfl (lv_room (Nat.le_of_ble_eq_true rfl)) dX4_takeNumber_91 ⟨Nat.zero_le _, Nat.zero_le _⟩) (fun r_19 u_18 H locs hw hP hD hS => ?_)
                  obtain ⟨hf_20, rfl⟩ := hw
                  have hP : va_P (dC, dI) vwCl (wRead h cs (va_up I 169 (nI q2)) L A Q G J) H := hP
                  have hD : va_D A0 (wRead h cs (va_up I 169 (nI q2)) L A Q G J) := hD
                  rcases hf_20 with ⟨rfl, hdy⟩ | ⟨rfl, hdn⟩
                  · skip
                    refine lv_if_eq (tgt := 135) hx hb dX4_takeNumber_94 (by decide) (fun c9 => False.elim (by revert c9; decide +kernel)) (fun _ => ?_)
                    refine lv_iload_n hx hb dX4_takeNumber_97 rfl (lv_at hl 3 rfl) ?_
                    refine lv_bipush (v := nI 10) hx hb dX4_takeNumber_98 (by decide) ?_
                    refine lv_imul hx hb dX4_takeNumber_100 ?_
                    refine lv_aload_n hx hb dX4_takeNumber_101 rfl (lv_at hl 0 rfl) ?_
                    refine va_get (D := (dC, dI)) (ci := 4) (v := .ref (h 103)) (C := RX4) (T := TX4) (N := 6) hx hb hts hinX4 hown hK hP 0 rfl rfl 0 (by decide) (hts (.fieldLink RX4 16 "MixedWords$Reader" "tape" "LMixedWords$Tape;") (by decide +kernel)) (fun _ h9 => h9) rfl dX4_takeNumber_102 ?_
                    refine lv_aload_n hx hb dX4_takeNumber_105 rfl (lv_at hl 0 rfl) ?_
                    refine va_get (D := (dC, dI)) (ci := 4) (v := .int (nI q2)) (C := RX4) (T := TX4) (N := 6) hx hb hts hinX4 hown hK hP 0 rfl rfl 5 (by decide) (hts (.fieldLink RX4 30 "MixedWords$Reader" "place" "I") (by decide +kernel)) (fun _ h9 => h9) rfl dX4_takeNumber_106 ?_
                    refine xj_i (wc := (wTape h cs (va_up I 169 (nI q2)) L A Q G J)) (wr := [(h 104, .inr (4, [.ref (h 103), .ref (h 160), .int (I 166), .int (I 167), .int (I 168), .int (nI q2)])), (h 160, .inl (cs 3, 5, .inr (.inr (.inr (.inr (fun i => if i < 5 then some (h (i + 161)) else none)))))), (h 161, .inl (cs 0, 4, .inl ((G 1) 0))), (h 162, .inl (cs 0, 4, .inl ((G 1) 1))), (h 163, .inl (cs 0, 4, .inl ((G 1) 2))), (h 164, .inl (cs 0, 4, .inl ((G 1) 3))), (h 165, .inl (cs 0, 4, .inl ((G 1) 4)))]) hP hD hS hA [7, 8] [0, 1, 2, 3, 4, 5, 6] rfl rfl (by decide +kernel) (by decide +kernel) (va_runV (As := [.int (nI q2)]) (rest := [.int (z3 * (nI 10))]) ⟨hx, hb, hml, hown, hts⟩ (k_X7_at l dC dI h cs H.size (va_up I 169 (nI q2)) L A Q G J (nI q2) T hT (by first | assumption | omega | exact hT9)) (cwV 1 hts gX4_takeNumber_X7_at rfl rfl rfl (by decide +kernel) ⟨Nat.le_of_ble_eq_true rfl, Nat.le_of_ble_eq_true rfl⟩) (xpV (wc := (wTape h cs (va_up I 169 (nI q2)) L A Q G J)) hP hD hK hN [7, 8] rfl (by decide) 7 (ci := 7) rfl rfl _) rfl rfl hl.1 rfl (lv_room (Nat.le_of_ble_eq_true rfl)) dX4_takeNumber_109 ⟨Nat.zero_le _, Nat.zero_le _⟩) (fun r_22 u_21 H locs hw hP hD hS => ?_)
                    obtain ⟨hf_23, rfl⟩ := hw
                    have hP : va_P (dC, dI) vwCl (wRead h cs (va_up I 169 (nI q2)) L A Q G J) H := hP
                    have hD : va_D A0 (wRead h cs (va_up I 169 (nI q2)) L A Q G J) := hD
                    have hat_24 := at_c (by omega) (by omega) hf_23
                    obtain rfl := at_v (by omega) hat_24
                    clear hf_23 hat_24
                    refine lv_iadd hx hb dX4_takeNumber_112 ?_
                    refine lv_bipush (v := nI 48) hx hb dX4_takeNumber_113 (by decide) ?_
                    refine lv_isub hx hb dX4_takeNumber_115 ?_
                    refine lv_bipush (v := nI 10) hx hb dX4_takeNumber_116 (by decide) ?_
                    refine va_mmin hx hb (hml.trans hl.1.symm) hown (hts (.methodLink RX4 61 Lib.Math.min.name) (by decide +kernel)) (hts (.static Lib.Math.min.name) (by decide +kernel)) (hts (.initialized "java/lang/Math") (by decide +kernel)) (hts (.code Lib.Math.min.name Lib.Math.min.code 2 (some .int)) (by decide +kernel)) (Nat.le_of_ble_eq_true rfl) (Nat.le_of_ble_eq_true rfl) (Nat.zero_le _) (Nat.zero_le _) dX4_takeNumber_118 ?_
                    refine lv_istore_n (lv' := [(3, .int (if nI 10 < ((z3 * (nI 10)) + (A 150 q2)) - (nI 48) then nI 10 else ((z3 * (nI 10)) + (A 150 q2)) - (nI 48))), (0, .ref (h 104)), (1, .int (nI b1)), (2, .int (nI q))]) hx hb dX4_takeNumber_121 rfl hl (by decide) rfl (fun ls hl => ?_)
                    refine lv_aload_n hx hb dX4_takeNumber_122 rfl (lv_at hl 1 rfl) ?_
                    refine lv_dup hx hb dX4_takeNumber_123 rfl ?_
                    refine va_get (D := (dC, dI)) (ci := 4) (v := .int (nI q2)) (C := RX4) (T := TX4) (N := 6) hx hb hts hinX4 hown hK hP 0 rfl rfl 5 (by decide) (hts (.fieldLink RX4 30 "MixedWords$Reader" "place" "I") (by decide +kernel)) (fun _ h9 => h9) rfl dX4_takeNumber_124 ?_
                    refine lv_iconst (v := nI 1) hx hb dX4_takeNumber_127 (by decide) ?_
                    refine lv_iadd hx hb dX4_takeNumber_128 ?_
                    refine xt_i (y := nI (q2 + 1)) (nI_add _ _) ?_
                    refine va_put (D := (dC, dI)) (ci := 4) (v := .int (nI (q2 + 1))) (ty := .int) (C := RX4) (T := TX4) (N := 6) hx hb hts hinX4 tyX4 tyX4_ok nmX4 hown hK hP hD hS 0 rfl rfl 5 (by decide) (hts (.fieldLink RX4 30 "MixedWords$Reader" "place" "I") (by decide +kernel)) (fun _ h9 => h9) rfl (by decide +kernel) rfl rfl (Nat.le_of_ble_eq_true rfl) dX4_takeNumber_129 (fun H locs hP hD hS => ?_)
                    have hP : va_P (dC, dI) vwCl (wRead h cs (va_up I 169 (nI (q2 + 1))) L A Q G J) H := hP
                    have hD : va_D A0 (wRead h cs (va_up I 169 (nI (q2 + 1))) L A Q G J) := hD
                    refine lv_goto (tgt := 76) hx hb dX4_takeNumber_132 (by decide) ?_
                    exact ih_76 (q2 + 1) (if nI 10 < ((z3 * (nI 10)) + (A 150 q2)) - (nI 48) then nI 10 else ((z3 * (nI 10)) + (A 150 q2)) - (nI 48)) (by omega) (by first | assumption | omega) (by first | assumption | omega) (by first | (intro u h1 h2; omega) | (intro u h1 h2; by_cases e : u = q2; (· subst e; exact hdy.2); (· exact hd76 u h1 (by omega)))) (by first | (rw [Nat.sub_self]; rfl) | exact sat_s hq76 hd76 hdy.2 hz76) (by first | exact (fun _ => ⟨hdg44.2, hdg44.1⟩) | (intro h9; omega)) _ _ _ hP hD hS (lv_sub hl [1, 2, 3, 0] rfl)
                  · skip
                    refine lv_if_eq (tgt := 135) hx hb dX4_takeNumber_94 (by decide) (fun _ => ?_) (fun c9 => False.elim (by revert c9; decide +kernel))
                    refine lv_iload_n hx hb dX4_takeNumber_135 rfl (lv_at hl 3 rfl) ?_
                    refine lv_bipush (v := nI 9) hx hb dX4_takeNumber_136 (by decide) ?_
                    refine lv_icmp_le (tgt := 148) hx hb dX4_takeNumber_138 (by decide) (fun c_138_24 => ?_) (fun c_138_24 => ?_)
                    · skip
                      refine lv_aload_n hx hb dX4_takeNumber_148 rfl (lv_at hl 0 rfl) ?_
                      refine va_get (D := (dC, dI)) (ci := 4) (v := .ref (h 160)) (C := RX4) (T := TX4) (N := 6) hx hb hts hinX4 hown hK hP 0 rfl rfl 1 (by decide) (hts (.fieldLink RX4 11 "MixedWords$Reader" "cells" "[[I") (by decide +kernel)) (fun _ h9 => h9) rfl dX4_takeNumber_149 ?_
                      refine lv_aload_n hx hb dX4_takeNumber_152 rfl (lv_at hl 0 rfl) ?_
                      refine va_get (D := (dC, dI)) (ci := 4) (v := .int (I 166)) (C := RX4) (T := TX4) (N := 6) hx hb hts hinX4 hown hK hP 0 rfl rfl 2 (by decide) (hts (.fieldLink RX4 20 "MixedWords$Reader" "height" "I") (by decide +kernel)) (fun _ h9 => h9) rfl dX4_takeNumber_153 ?_
                      refine xt_i (y := nI h6) (hh) ?_
                      refine xa_aald (b := h (h6 + 161)) hx hb hK hP 1 3 rfl rfl rfl (by omega) (by decide) (if_pos (by omega)) dX4_takeNumber_156 ?_
                      refine lv_aload_n hx hb dX4_takeNumber_157 rfl (lv_at hl 0 rfl) ?_
                      refine va_get (D := (dC, dI)) (ci := 4) (v := .int (I 168)) (C := RX4) (T := TX4) (N := 6) hx hb hts hinX4 hown hK hP 0 rfl rfl 4 (by decide) (hts (.fieldLink RX4 27 "MixedWords$Reader" "inRow" "I") (by decide +kernel)) (fun _ h9 => h9) rfl dX4_takeNumber_158 ?_
                      refine xt_i (y := nI r6) (hi6) ?_
                      refine lv_iload_n hx hb dX4_takeNumber_161 rfl (lv_at hl 1 rfl) ?_
                      refine xz_eq (tgt := 170) hx hb dX4_takeNumber_162 (by decide) (by omega) (fun c_162_25 => ?_) (fun c_162_25 => ?_)
                      · skip
                        refine lv_iload_n hx hb dX4_takeNumber_170 rfl (lv_at hl 3 rfl) ?_
                        refine xa_iast hx hb hK hP hD hS (2 + h6) 0 (wRead_atG1 (by omega)) rfl (by omega) (by decide) dX4_takeNumber_171 (fun H locs hP hD hS => ?_)
                        rw [wRead_setG1 (by omega)] at hP hD
                        have hP : va_P (dC, dI) vwCl (wRead h cs (va_up I 169 (nI q2)) L A Q (va_up G 1 (va_up (G 1) h6 (upd ((G 1) h6) r6 z3))) J) H := hP
                        have hD : va_D A0 (wRead h cs (va_up I 169 (nI q2)) L A Q (va_up G 1 (va_up (G 1) h6 (upd ((G 1) h6) r6 z3))) J) := hD
                        refine lv_aload_n hx hb dX4_takeNumber_172 rfl (lv_at hl 0 rfl) ?_
                        refine lv_dup hx hb dX4_takeNumber_173 rfl ?_
                        refine va_get (D := (dC, dI)) (ci := 4) (v := .int (I 168)) (C := RX4) (T := TX4) (N := 6) hx hb hts hinX4 hown hK hP 0 rfl rfl 4 (by decide) (hts (.fieldLink RX4 27 "MixedWords$Reader" "inRow" "I") (by decide +kernel)) (fun _ h9 => h9) rfl dX4_takeNumber_174 ?_
                        refine xt_i (y := nI r6) (hi6) ?_
                        refine lv_iconst (v := nI 1) hx hb dX4_takeNumber_177 (by decide) ?_
                        refine lv_iadd hx hb dX4_takeNumber_178 ?_
                        refine xt_i (y := nI (r6 + 1)) (nI_add _ _) ?_
                        refine va_put (D := (dC, dI)) (ci := 4) (v := .int (nI (r6 + 1))) (ty := .int) (C := RX4) (T := TX4) (N := 6) hx hb hts hinX4 tyX4 tyX4_ok nmX4 hown hK hP hD hS 0 rfl rfl 4 (by decide) (hts (.fieldLink RX4 27 "MixedWords$Reader" "inRow" "I") (by decide +kernel)) (fun _ h9 => h9) rfl (by decide +kernel) rfl rfl (Nat.le_of_ble_eq_true rfl) dX4_takeNumber_179 (fun H locs hP hD hS => ?_)
                        have hP : va_P (dC, dI) vwCl (wRead h cs (va_up (va_up I 169 (nI q2)) 168 (nI (r6 + 1))) L A Q (va_up G 1 (va_up (G 1) h6 (upd ((G 1) h6) r6 z3))) J) H := hP
                        have hD : va_D A0 (wRead h cs (va_up (va_up I 169 (nI q2)) 168 (nI (r6 + 1))) L A Q (va_up G 1 (va_up (G 1) h6 (upd ((G 1) h6) r6 z3))) J) := hD
                        refine lv_iconst (v := nI 1) hx hb dX4_takeNumber_182 (by decide) ?_
                        exact xr_z (v := (nI 1)) hx hb hr hlocks hK hS dX4_takeNumber_183 (rfl) ((va_up (va_up I 169 (nI q2)) 168 (nI (r6 + 1))), L, A, Q, (va_up G 1 (va_up (G 1) h6 (upd ((G 1) h6) r6 z3))), J) ⟨(nI q2), (nI (r6 + 1)), (va_up (G 1) h6 (upd ((G 1) h6) r6 z3)), (Or.inl ⟨rfl, rfl, q2, z3, hqT76, (by first | omega | exact Nat.lt_of_le_of_lt hq44 (Nat.lt_of_le_of_ne hq76 (fun e9 => hdn ⟨(hlt76 e9.symm).2, (hlt76 e9.symm).1⟩))), rfl, by
          obtain ⟨j1, ng, k1, k2, k3, k4⟩ := hsk44
          have h9 : digV (A 150) q (q2 - q) ≤ nI 9 := satV_le.mp (by rw [← hz76]; assumption)
          have hz9 : z3 = digV (A 150) q (q2 - q) := by rw [hz76, satV, if_pos h9]
          have hng : ng = false := (by cases ng; (· rfl); (· exact absurd (k4.mpr rfl) (by omega)))
          subst hng
          exact ⟨j1, q, false, k1, k2, k3, hdg44, ⟨hq76, hqT76, hd76, fun g9 d9 => hdn ⟨g9, d9⟩⟩, h9, by rw [hz9]; rfl⟩, rfl⟩), rfl⟩ hP hD
                      · skip
                        refine lv_iload_n hx hb dX4_takeNumber_165 rfl (lv_at hl 3 rfl) ?_
                        refine lv_ineg hx hb dX4_takeNumber_166 ?_
                        refine lv_goto (tgt := 171) hx hb dX4_takeNumber_167 (by decide) ?_
                        refine xa_iast hx hb hK hP hD hS (2 + h6) 0 (wRead_atG1 (by omega)) rfl (by omega) (by decide) dX4_takeNumber_171 (fun H locs hP hD hS => ?_)
                        rw [wRead_setG1 (by omega)] at hP hD
                        have hP : va_P (dC, dI) vwCl (wRead h cs (va_up I 169 (nI q2)) L A Q (va_up G 1 (va_up (G 1) h6 (upd ((G 1) h6) r6 (-z3)))) J) H := hP
                        have hD : va_D A0 (wRead h cs (va_up I 169 (nI q2)) L A Q (va_up G 1 (va_up (G 1) h6 (upd ((G 1) h6) r6 (-z3)))) J) := hD
                        refine lv_aload_n hx hb dX4_takeNumber_172 rfl (lv_at hl 0 rfl) ?_
                        refine lv_dup hx hb dX4_takeNumber_173 rfl ?_
                        refine va_get (D := (dC, dI)) (ci := 4) (v := .int (I 168)) (C := RX4) (T := TX4) (N := 6) hx hb hts hinX4 hown hK hP 0 rfl rfl 4 (by decide) (hts (.fieldLink RX4 27 "MixedWords$Reader" "inRow" "I") (by decide +kernel)) (fun _ h9 => h9) rfl dX4_takeNumber_174 ?_
                        refine xt_i (y := nI r6) (hi6) ?_
                        refine lv_iconst (v := nI 1) hx hb dX4_takeNumber_177 (by decide) ?_
                        refine lv_iadd hx hb dX4_takeNumber_178 ?_
                        refine xt_i (y := nI (r6 + 1)) (nI_add _ _) ?_
                        refine va_put (D := (dC, dI)) (ci := 4) (v := .int (nI (r6 + 1))) (ty := .int) (C := RX4) (T := TX4) (N := 6) hx hb hts hinX4 tyX4 tyX4_ok nmX4 hown hK hP hD hS 0 rfl rfl 4 (by decide) (hts (.fieldLink RX4 27 "MixedWords$Reader" "inRow" "I") (by decide +kernel)) (fun _ h9 => h9) rfl (by decide +kernel) rfl rfl (Nat.le_of_ble_eq_true rfl) dX4_takeNumber_179 (fun H locs hP hD hS => ?_)
                        have hP : va_P (dC, dI) vwCl (wRead h cs (va_up (va_up I 169 (nI q2)) 168 (nI (r6 + 1))) L A Q (va_up G 1 (va_up (G 1) h6 (upd ((G 1) h6) r6 (-z3)))) J) H := hP
                        have hD : va_D A0 (wRead h cs (va_up (va_up I 169 (nI q2)) 168 (nI (r6 + 1))) L A Q (va_up G 1 (va_up (G 1) h6 (upd ((G 1) h6) r6 (-z3)))) J) := hD
                        refine lv_iconst (v := nI 1) hx hb dX4_takeNumber_182 (by decide) ?_
                        exact xr_z (v := (nI 1)) hx hb hr hlocks hK hS dX4_takeNumber_183 (rfl) ((va_up (va_up I 169 (nI q2)) 168 (nI (r6 + 1))), L, A, Q, (va_up G 1 (va_up (G 1) h6 (upd ((G 1) h6) r6 (-z3)))), J) ⟨(nI q2), (nI (r6 + 1)), (va_up (G 1) h6 (upd ((G 1) h6) r6 (-z3))), (Or.inl ⟨rfl, rfl, q2, -z3, hqT76, (by first | omega | exact Nat.lt_of_le_of_lt hq44 (Nat.lt_of_le_of_ne hq76 (fun e9 => hdn ⟨(hlt76 e9.symm).2, (hlt76 e9.symm).1⟩))), rfl, by
          obtain ⟨j1, ng, k1, k2, k3, k4⟩ := hsk44
          have h9 : digV (A 150) q (q2 - q) ≤ nI 9 := satV_le.mp (by rw [← hz76]; assumption)
          have hz9 : z3 = digV (A 150) q (q2 - q) := by rw [hz76, satV, if_pos h9]
          have hng : ng = true := (by cases ng; (· exact absurd (k4.mp (by omega)) (by decide)); (· rfl))
          subst hng
          exact ⟨j1, q, true, k1, k2, k3, hdg44, ⟨hq76, hqT76, hd76, fun g9 d9 => hdn ⟨g9, d9⟩⟩, h9, by rw [hz9]; rfl⟩, rfl⟩), rfl⟩ hP hD
                    · skip
                      refine lv_aload_n hx hb dX4_takeNumber_141 rfl (lv_at hl 0 rfl) ?_
                      refine lv_iload_n hx hb dX4_takeNumber_142 rfl (lv_at hl 2 rfl) ?_
                      refine va_put (D := (dC, dI)) (ci := 4) (v := .int (nI q)) (ty := .int) (C := RX4) (T := TX4) (N := 6) hx hb hts hinX4 tyX4 tyX4_ok nmX4 hown hK hP hD hS 0 rfl rfl 5 (by decide) (hts (.fieldLink RX4 30 "MixedWords$Reader" "place" "I") (by decide +kernel)) (fun _ h9 => h9) rfl (by decide +kernel) rfl rfl (Nat.le_of_ble_eq_true rfl) dX4_takeNumber_143 (fun H locs hP hD hS => ?_)
                      have hP : va_P (dC, dI) vwCl (wRead h cs (va_up I 169 (nI q)) L A Q G J) H := hP
                      have hD : va_D A0 (wRead h cs (va_up I 169 (nI q)) L A Q G J) := hD
                      refine lv_iconst (v := nI 0) hx hb dX4_takeNumber_146 (by decide) ?_
                      exact xr_z (v := (nI 0)) hx hb hr hlocks hK hS dX4_takeNumber_147 (rfl) ((va_up (va_up I 169 (nI q)) 168 (I 168)), L, A, Q, (va_up G 1 (G 1)), J) ⟨(nI q), (I 168), (G 1), (Or.inr ⟨rfl, rfl, rfl, q, hqT44, rfl, by obtain ⟨j1, ng, k1, k2, k3, -⟩ := hsk44; exact ⟨j1, ng, k1, k2, k3, Or.inr ⟨q2, ⟨hq76, hqT76, hd76, fun g9 d9 => hdn ⟨g9, d9⟩⟩, fun g9 => (by assumption : ¬ z3 ≤ nI 9) (by rw [hz76]; exact satV_le.mpr g9)⟩⟩⟩), rfl⟩ hP hD
            exact cut_76 _ q (nI 0) (Nat.lt_succ_self _) (by first | assumption | omega) (by first | assumption | omega) (by first | (intro u h1 h2; omega) | (intro u h1 h2; by_cases e : u = q2; (· subst e; exact hdy.2); (· exact hd76 u h1 (by omega)))) (by first | (rw [Nat.sub_self]; rfl) | exact sat_s hq76 hd76 hdy.2 hz76) (by first | exact (fun _ => ⟨hdg44.2, hdg44.1⟩) | (intro h9; omega)) _ _ _ hP hD hS (lv_sub hl [2, 3, 1, 0] rfl)
          · skip
            exact absurd c_64_13 (by omega)
      · skip
        refine lv_if_eq (tgt := 67) hx hb dX4_takeNumber_48 (by decide) (fun _ => ?_) (fun c9 => False.elim (by revert c9; decide +kernel))
        refine lv_iconst (v := nI 0) hx hb dX4_takeNumber_67 (by decide) ?_
        exact xr_z (v := (nI 0)) hx hb hr hlocks hK hS dX4_takeNumber_68 (rfl) ((va_up (va_up I 169 (nI q)) 168 (I 168)), L, A, Q, (va_up G 1 (G 1)), J) ⟨(nI q), (I 168), (G 1), (Or.inr ⟨rfl, rfl, rfl, q, hqT44, rfl, by obtain ⟨j1, ng, k1, k2, k3, -⟩ := hsk44; exact ⟨j1, ng, k1, k2, k3, Or.inl hdn⟩⟩), rfl⟩ hP hD
    exact cut_44 0 q_5 (by first | assumption | omega) (by first | assumption | omega) (by first | assumption | omega) (by first | exact ⟨_, true, hs1, ⟨fun _ => hC45, fun _ => rfl⟩, hs2, by decide⟩ | exact ⟨_, false, hs1, ⟨fun h9 => absurd h9 (by decide), fun h9 => absurd h9 hN45⟩, sk_id hs1, by decide⟩) _ _ _ hP hD hS (lv_sub hl [1, 0] rfl)
  · skip
    have hC45 := (cmp_c (by decide) hat).mp c_17_8
    have hlt := hC45.1
    refine lv_iconst (v := nI 1) hx hb dX4_takeNumber_20 (by decide) ?_
    refine lv_goto (tgt := 25) hx hb dX4_takeNumber_21 (by decide) ?_
    refine lv_istore_n (lv' := [(1, .int (nI 1)), (0, .ref (h 104))]) hx hb dX4_takeNumber_25 rfl hl (by decide) rfl (fun ls hl => ?_)
    refine lv_iload_n hx hb dX4_takeNumber_26 rfl (lv_at hl 0 rfl) ?_
    refine lv_if_eq (tgt := 44) hx hb dX4_takeNumber_27 (by decide) (fun c9 => False.elim (by revert c9; decide +kernel)) (fun _ => ?_)
    refine lv_aload_n hx hb dX4_takeNumber_30 rfl (lv_at hl 1 rfl) ?_
    refine lv_dup hx hb dX4_takeNumber_31 rfl ?_
    refine va_get (D := (dC, dI)) (ci := 4) (v := .int (nI q_5)) (C := RX4) (T := TX4) (N := 6) hx hb hts hinX4 hown hK hP 0 rfl rfl 5 (by decide) (hts (.fieldLink RX4 30 "MixedWords$Reader" "place" "I") (by decide +kernel)) (fun _ h9 => h9) rfl dX4_takeNumber_32 ?_
    refine lv_iconst (v := nI 1) hx hb dX4_takeNumber_35 (by decide) ?_
    refine lv_iadd hx hb dX4_takeNumber_36 ?_
    refine xt_i (y := nI (q_5 + 1)) (nI_add _ _) ?_
    refine va_put (D := (dC, dI)) (ci := 4) (v := .int (nI (q_5 + 1))) (ty := .int) (C := RX4) (T := TX4) (N := 6) hx hb hts hinX4 tyX4 tyX4_ok nmX4 hown hK hP hD hS 0 rfl rfl 5 (by decide) (hts (.fieldLink RX4 30 "MixedWords$Reader" "place" "I") (by decide +kernel)) (fun _ h9 => h9) rfl (by decide +kernel) rfl rfl (Nat.le_of_ble_eq_true rfl) dX4_takeNumber_37 (fun H locs hP hD hS => ?_)
    have hP : va_P (dC, dI) vwCl (wRead h cs (va_up I 169 (nI (q_5 + 1))) L A Q G J) H := hP
    have hD : va_D A0 (wRead h cs (va_up I 169 (nI (q_5 + 1))) L A Q G J) := hD
    refine lv_aload_n hx hb dX4_takeNumber_40 rfl (lv_at hl 1 rfl) ?_
    refine xj_v (wc := (wRead h cs (va_up I 169 (nI (q_5 + 1))) L A Q G J)) (wr := ([] : va_W)) hP hD hS hA [0, 1, 2, 3, 4, 5, 6, 7, 8] [] rfl rfl (by decide +kernel) (by decide +kernel) (va_runV (As := []) (rest := []) ⟨hx, hb, hml, hown, hts⟩ (k_X4_skipBlanks l dC dI h cs H.size (va_up I 169 (nI (q_5 + 1))) L A Q G J T (q_5 + 1) hT (by first | assumption | omega | exact hT9) rfl (by first | assumption | omega | exact hpT)) (cwV 0 hts gX4_takeNumber_X4_skipBlanks rfl rfl rfl (by decide +kernel) ⟨Nat.le_of_ble_eq_true rfl, Nat.le_of_ble_eq_true rfl⟩) (xpV (wc := (wRead h cs (va_up I 169 (nI (q_5 + 1))) L A Q G J)) hP hD hK hN [0, 1, 2, 3, 4, 5, 6, 7, 8] rfl (by decide) 0 (ci := 4) rfl rfl _) rfl rfl hl.1 rfl (lv_room (Nat.le_of_ble_eq_true rfl)) dX4_takeNumber_41 ⟨Nat.zero_le _, Nat.zero_le _⟩) (fun u_27 H locs hw hP hD hS => ?_)
    obtain ⟨i169_29, hf_30, rfl⟩ := hw
    have hP : va_P (dC, dI) vwCl (wRead h cs (va_up I 169 i169_29) L A Q G J) H := hP
    have hD : va_D A0 (wRead h cs (va_up I 169 i169_29) L A Q G J) := hD
    obtain ⟨q_31, hs2, rfl⟩ := hf_30
    have hs2T := hs2.2.1
    have hs2A := hs2.1
    have cut_44 : ∀ (b1 : Nat) (q : Nat), (b1 ≤ 1) → (p9 ≤ q) → (q ≤ T) → (∃ (j1 : Nat) (ng : Bool), IsSkip (A 150) T p9 j1 ∧ (ng = true ↔ isC (A 150) T j1 45) ∧ IsSkip (A 150) T (if ng then j1 + 1 else j1) q ∧ (b1 = 1 ↔ ng = true)) → ∀ (H : Heap) (locs : List Loc) (ls : Array Slot), va_P (dC, dI) vwCl (wRead h cs (va_up I 169 (nI q)) L A Q G J) H → va_D A0 (wRead h cs (va_up I 169 (nI q)) L A Q G J) → va_S A0 s.heap H locs → lv_has ls 4 [(0, .ref (h 104)), (1, .int (nI b1))] → W p l e (headSpec wsX4_takeNumber ({ frames := 2, cells := 0, slots := 0, locals := 60 })).room s m ([.ref (h 104)] : List Value).toArray below meth c H locs 0 0 (MQ below (va_Qi (fun (r : Int32) (u : CS) => ∃ i169 : Int32, ∃ i168 : Int32, ∃ g1 : Nat → Nat → Int32, ((r = nI 1 ∧ i168 = nI (r6 + 1) ∧ ∃ (q : Nat) (v : Int32), q ≤ T ∧ p9 < q ∧ i169 = nI q ∧ nmOk (A 150) T p9 q v ∧ g1 = va_up (G 1) h6 (upd (G 1 h6) r6 v)) ∨ (r = nI 0 ∧ i168 = I 168 ∧ g1 = G 1 ∧ ∃ q : Nat, q ≤ T ∧ i169 = nI q ∧ nmBad (A 150) T p9 q)) ∧ u = ((va_up (va_up I 169 i169) 168 i168), L, A, Q, (va_up G 1 g1), J)) (xB (dC, dI) (tysA cs) A0 (fun u : CS => wRead h cs u.1 u.2.1 u.2.2.1 u.2.2.2.1 u.2.2.2.2.1 u.2.2.2.2.2)) A0) ([.ref (h 104)] : List Value).toArray s 0 0 A0) (F0 m 44 ls []) := by
      intro b1 q hb44 hq44 hqT44 hsk44 H locs ls hP hD hS hl
      refine lv_aload_n hx hb dX4_takeNumber_44 rfl (lv_at hl 0 rfl) ?_
      refine xj_i (wc := (wRead h cs (va_up I 169 (nI q)) L A Q G J)) (wr := ([] : va_W)) hP hD hS hA [0, 1, 2, 3, 4, 5, 6, 7, 8] [] rfl rfl (by decide +kernel) (by decide +kernel) (va_runV (As := []) (rest := []) ⟨hx, hb, hml, hown, hts⟩ (k_X4_isDigit l dC dI h cs H.size (va_up I 169 (nI q)) L A Q G J T q hT (by first | assumption | omega | exact hT9) rfl (by first | assumption | omega | exact hpT)) (cwV 0 hts gX4_takeNumber_X4_isDigit rfl rfl rfl (by decide +kernel) ⟨Nat.le_of_ble_eq_true rfl, Nat.le_of_ble_eq_true rfl⟩) (xpV (wc := (wRead h cs (va_up I 169 (nI q)) L A Q G J)) hP hD hK hN [0, 1, 2, 3, 4, 5, 6, 7, 8] rfl (by decide) 0 (ci := 4) rfl rfl _) rfl rfl hl.1 rfl (lv_room (Nat.le_of_ble_eq_true rfl)) dX4_takeNumber_45 ⟨Nat.zero_le _, Nat.zero_le _⟩) (fun r_33 u_32 H locs hw hP hD hS => ?_)
      obtain ⟨hf_34, rfl⟩ := hw
      have hP : va_P (dC, dI) vwCl (wRead h cs (va_up I 169 (nI q)) L A Q G J) H := hP
      have hD : va_D A0 (wRead h cs (va_up I 169 (nI q)) L A Q G J) := hD
      rcases hf_34 with ⟨rfl, hdy⟩ | ⟨rfl, hdn⟩
      · skip
        refine lv_if_eq (tgt := 67) hx hb dX4_takeNumber_48 (by decide) (fun c9 => False.elim (by revert c9; decide +kernel)) (fun _ => ?_)
        refine lv_aload_n hx hb dX4_takeNumber_51 rfl (lv_at hl 0 rfl) ?_
        refine va_get (D := (dC, dI)) (ci := 4) (v := .int (I 166)) (C := RX4) (T := TX4) (N := 6) hx hb hts hinX4 hown hK hP 0 rfl rfl 2 (by decide) (hts (.fieldLink RX4 20 "MixedWords$Reader" "height" "I") (by decide +kernel)) (fun _ h9 => h9) rfl dX4_takeNumber_52 ?_
        refine xt_i (y := nI h6) (hh) ?_
        refine lv_iconst (v := nI 5) hx hb dX4_takeNumber_55 (by decide) ?_
        refine xn_ge (tgt := 67) hx hb dX4_takeNumber_56 (by decide) (by omega) (by omega) (fun c_56_34 => ?_) (fun c_56_34 => ?_)
        · skip
          exact absurd c_56_34 (by omega)
        · skip
          refine lv_aload_n hx hb dX4_takeNumber_59 rfl (lv_at hl 0 rfl) ?_
          refine va_get (D := (dC, dI)) (ci := 4) (v := .int (I 168)) (C := RX4) (T := TX4) (N := 6) hx hb hts hinX4 hown hK hP 0 rfl rfl 4 (by decide) (hts (.fieldLink RX4 27 "MixedWords$Reader" "inRow" "I") (by decide +kernel)) (fun _ h9 => h9) rfl dX4_takeNumber_60 ?_
          refine xt_i (y := nI r6) (hi6) ?_
          refine lv_iconst (v := nI 4) hx hb dX4_takeNumber_63 (by decide) ?_
          refine xn_lt (tgt := 69) hx hb dX4_takeNumber_64 (by decide) (by omega) (by omega) (fun c_64_35 => ?_) (fun c_64_35 => ?_)
          · skip
            have hdg44 := hdy
            refine lv_aload_n hx hb dX4_takeNumber_69 rfl (lv_at hl 0 rfl) ?_
            refine va_get (D := (dC, dI)) (ci := 4) (v := .int (nI q)) (C := RX4) (T := TX4) (N := 6) hx hb hts hinX4 hown hK hP 0 rfl rfl 5 (by decide) (hts (.fieldLink RX4 30 "MixedWords$Reader" "place" "I") (by decide +kernel)) (fun _ h9 => h9) rfl dX4_takeNumber_70 ?_
            refine lv_istore_n (lv' := [(2, .int (nI q)), (0, .ref (h 104)), (1, .int (nI b1))]) hx hb dX4_takeNumber_73 rfl hl (by decide) rfl (fun ls hl => ?_)
            refine lv_iconst (v := nI 0) hx hb dX4_takeNumber_74 (by decide) ?_
            refine lv_istore_n (lv' := [(3, .int (nI 0)), (2, .int (nI q)), (0, .ref (h 104)), (1, .int (nI b1))]) hx hb dX4_takeNumber_75 rfl hl (by decide) rfl (fun ls hl => ?_)
            have cut_76 : ∀ (nf : Nat) (q2 : Nat) (z3 : Int32), (T - q2) < nf → (q ≤ q2) → (q2 ≤ T) → (∀ u : Nat, q ≤ u → u < q2 → IsDig (A 150 u)) → (z3 = satV (digV (A 150) q (q2 - q))) → (q2 = q → IsDig (A 150 q2) ∧ q2 < T) → ∀ (H : Heap) (locs : List Loc) (ls : Array Slot), va_P (dC, dI) vwCl (wRead h cs (va_up I 169 (nI q2)) L A Q G J) H → va_D A0 (wRead h cs (va_up I 169 (nI q2)) L A Q G J) → va_S A0 s.heap H locs → lv_has ls 4 [(0, .ref (h 104)), (1, .int (nI b1)), (2, .int (nI q)), (3, .int z3)] → W p l e (headSpec wsX4_takeNumber ({ frames := 2, cells := 0, slots := 0, locals := 60 })).room s m ([.ref (h 104)] : List Value).toArray below meth c H locs 0 0 (MQ below (va_Qi (fun (r : Int32) (u : CS) => ∃ i169 : Int32, ∃ i168 : Int32, ∃ g1 : Nat → Nat → Int32, ((r = nI 1 ∧ i168 = nI (r6 + 1) ∧ ∃ (q : Nat) (v : Int32), q ≤ T ∧ p9 < q ∧ i169 = nI q ∧ nmOk (A 150) T p9 q v ∧ g1 = va_up (G 1) h6 (upd (G 1 h6) r6 v)) ∨ (r = nI 0 ∧ i168 = I 168 ∧ g1 = G 1 ∧ ∃ q : Nat, q ≤ T ∧ i169 = nI q ∧ nmBad (A 150) T p9 q)) ∧ u = ((va_up (va_up I 169 i169) 168 i168), L, A, Q, (va_up G 1 g1), J)) (xB (dC, dI) (tysA cs) A0 (fun u : CS => wRead h cs u.1 u.2.1 u.2.2.1 u.2.2.2.1 u.2.2.2.2.1 u.2.2.2.2.2)) A0) ([.ref (h 104)] : List Value).toArray s 0 0 A0) (F0 m 76 ls []) := by
              intro nf
              induction nf with
              | zero => intro q2 z3 hm; exact absurd hm (Nat.not_lt_zero _)
              | succ nf ih_76 =>
                intro q2 z3 hm_76 hq76 hqT76 hd76 hz76 hlt76 H locs ls hP hD hS hl
                refine lv_aload_n hx hb dX4_takeNumber_76 rfl (lv_at hl 0 rfl) ?_
                refine va_get (D := (dC, dI)) (ci := 4) (v := .int (nI q2)) (C := RX4) (T := TX4) (N := 6) hx hb hts hinX4 hown hK hP 0 rfl rfl 5 (by decide) (hts (.fieldLink RX4 30 "MixedWords$Reader" "place" "I") (by decide +kernel)) (fun _ h9 => h9) rfl dX4_takeNumber_77 ?_
                refine lv_aload_n hx hb dX4_takeNumber_80 rfl (lv_at hl 0 rfl) ?_
                refine va_get (D := (dC, dI)) (ci := 4) (v := .ref (h 103)) (C := RX4) (T := TX4) (N := 6) hx hb hts hinX4 hown hK hP 0 rfl rfl 0 (by decide) (hts (.fieldLink RX4 16 "MixedWords$Reader" "tape" "LMixedWords$Tape;") (by decide +kernel)) (fun _ h9 => h9) rfl dX4_takeNumber_81 ?_
                refine va_get (D := (dC, dI)) (ci := 7) (v := .int (I 151)) (C := RX7) (T := TX7) (N := 2) hx hb hts hinX7 hown hK hP 7 rfl rfl 1 (by decide) (hts (.fieldLink RX4 55 "MixedWords$Tape" "length" "I") (by decide +kernel)) (fun _ h9 => h9) rfl dX4_takeNumber_84 ?_
                refine xt_i (y := nI T) (hT) ?_
                refine xn_ge (tgt := 135) hx hb dX4_takeNumber_87 (by decide) (by omega) (by omega) (fun c_87_36 => ?_) (fun c_87_36 => ?_)
                · skip
                  refine lv_iload_n hx hb dX4_takeNumber_135 rfl (lv_at hl 3 rfl) ?_
                  refine lv_bipush (v := nI 9) hx hb dX4_takeNumber_136 (by decide) ?_
                  refine lv_icmp_le (tgt := 148) hx hb dX4_takeNumber_138 (by decide) (fun c_138_37 => ?_) (fun c_138_37 => ?_)
                  · skip
                    refine lv_aload_n hx hb dX4_takeNumber_148 rfl (lv_at hl 0 rfl) ?_
                    refine va_get (D := (dC, dI)) (ci := 4) (v := .ref (h 160)) (C := RX4) (T := TX4) (N := 6) hx hb hts hinX4 hown hK hP 0 rfl rfl 1 (by decide) (hts (.fieldLink RX4 11 "MixedWords$Reader" "cells" "[[I") (by decide +kernel)) (fun _ h9 => h9) rfl dX4_takeNumber_149 ?_
                    refine lv_aload_n hx hb dX4_takeNumber_152 rfl (lv_at hl 0 rfl) ?_
                    refine va_get (D := (dC, dI)) (ci := 4) (v := .int (I 166)) (C := RX4) (T := TX4) (N := 6) hx hb hts hinX4 hown hK hP 0 rfl rfl 2 (by decide) (hts (.fieldLink RX4 20 "MixedWords$Reader" "height" "I") (by decide +kernel)) (fun _ h9 => h9) rfl dX4_takeNumber_153 ?_
                    refine xt_i (y := nI h6) (hh) ?_
                    refine xa_aald (b := h (h6 + 161)) hx hb hK hP 1 3 rfl rfl rfl (by omega) (by decide) (if_pos (by omega)) dX4_takeNumber_156 ?_
                    refine lv_aload_n hx hb dX4_takeNumber_157 rfl (lv_at hl 0 rfl) ?_
                    refine va_get (D := (dC, dI)) (ci := 4) (v := .int (I 168)) (C := RX4) (T := TX4) (N := 6) hx hb hts hinX4 hown hK hP 0 rfl rfl 4 (by decide) (hts (.fieldLink RX4 27 "MixedWords$Reader" "inRow" "I") (by decide +kernel)) (fun _ h9 => h9) rfl dX4_takeNumber_158 ?_
                    refine xt_i (y := nI r6) (hi6) ?_
                    refine lv_iload_n hx hb dX4_takeNumber_161 rfl (lv_at hl 1 rfl) ?_
                    refine xz_eq (tgt := 170) hx hb dX4_takeNumber_162 (by decide) (by omega) (fun c_162_38 => ?_) (fun c_162_38 => ?_)
                    · skip
                      refine lv_iload_n hx hb dX4_takeNumber_170 rfl (lv_at hl 3 rfl) ?_
                      refine xa_iast hx hb hK hP hD hS (2 + h6) 0 (wRead_atG1 (by omega)) rfl (by omega) (by decide) dX4_takeNumber_171 (fun H locs hP hD hS => ?_)
                      rw [wRead_setG1 (by omega)] at hP hD
                      have hP : va_P (dC, dI) vwCl (wRead h cs (va_up I 169 (nI q2)) L A Q (va_up G 1 (va_up (G 1) h6 (upd ((G 1) h6) r6 z3))) J) H := hP
                      have hD : va_D A0 (wRead h cs (va_up I 169 (nI q2)) L A Q (va_up G 1 (va_up (G 1) h6 (upd ((G 1) h6) r6 z3))) J) := hD
                      refine lv_aload_n hx hb dX4_takeNumber_172 rfl (lv_at hl 0 rfl) ?_
                      refine lv_dup hx hb dX4_takeNumber_173 rfl ?_
                      refine va_get (D := (dC, dI)) (ci := 4) (v := .int (I 168)) (C := RX4) (T := TX4) (N := 6) hx hb hts hinX4 hown hK hP 0 rfl rfl 4 (by decide) (hts (.fieldLink RX4 27 "MixedWords$Reader" "inRow" "I") (by decide +kernel)) (fun _ h9 => h9) rfl dX4_takeNumber_174 ?_
                      refine xt_i (y := nI r6) (hi6) ?_
                      refine lv_iconst (v := nI 1) hx hb dX4_takeNumber_177 (by decide) ?_
                      refine lv_iadd hx hb dX4_takeNumber_178 ?_
                      refine xt_i (y := nI (r6 + 1)) (nI_add _ _) ?_
                      refine va_put (D := (dC, dI)) (ci := 4) (v := .int (nI (r6 + 1))) (ty := .int) (C := RX4) (T := TX4) (N := 6) hx hb hts hinX4 tyX4 tyX4_ok nmX4 hown hK hP hD hS 0 rfl rfl 4 (by decide) (hts (.fieldLink RX4 27 "MixedWords$Reader" "inRow" "I") (by decide +kernel)) (fun _ h9 => h9) rfl (by decide +kernel) rfl rfl (Nat.le_of_ble_eq_true rfl) dX4_takeNumber_179 (fun H locs hP hD hS => ?_)
                      have hP : va_P (dC, dI) vwCl (wRead h cs (va_up (va_up I 169 (nI q2)) 168 (nI (r6 + 1))) L A Q (va_up G 1 (va_up (G 1) h6 (upd ((G 1) h6) r6 z3))) J) H := hP
                      have hD : va_D A0 (wRead h cs (va_up (va_up I 169 (nI q2)) 168 (nI (r6 + 1))) L A Q (va_up G 1 (va_up (G 1) h6 (upd ((G 1) h6) r6 z3))) J) := hD
                      refine lv_iconst (v := nI 1) hx hb dX4_takeNumber_182 (by decide) ?_
                      exact xr_z (v := (nI 1)) hx hb hr hlocks hK hS dX4_takeNumber_183 (rfl) ((va_up (va_up I 169 (nI q2)) 168 (nI (r6 + 1))), L, A, Q, (va_up G 1 (va_up (G 1) h6 (upd ((G 1) h6) r6 z3))), J) ⟨(nI q2), (nI (r6 + 1)), (va_up (G 1) h6 (upd ((G 1) h6) r6 z3)), (Or.inl ⟨rfl, rfl, q2, z3, hqT76, (by first | omega | exact Nat.lt_of_le_of_lt hq44 (Nat.lt_of_le_of_ne hq76 (fun e9 => hdn ⟨(hlt76 e9.symm).2, (hlt76 e9.symm).1⟩))), rfl, by
          obtain ⟨j1, ng, k1, k2, k3, k4⟩ := hsk44
          have h9 : digV (A 150) q (q2 - q) ≤ nI 9 := satV_le.mp (by rw [← hz76]; assumption)
          have hz9 : z3 = digV (A 150) q (q2 - q) := by rw [hz76, satV, if_pos h9]
          have hng : ng = false := (by cases ng; (· rfl); (· exact absurd (k4.mpr rfl) (by omega)))
          subst hng
          exact ⟨j1, q, false, k1, k2, k3, hdg44, ⟨hq76, hqT76, hd76, fun g9 => by omega⟩, h9, by rw [hz9]; rfl⟩, rfl⟩), rfl⟩ hP hD
                    · skip
                      refine lv_iload_n hx hb dX4_takeNumber_165 rfl (lv_at hl 3 rfl) ?_
                      refine lv_ineg hx hb dX4_takeNumber_166 ?_
                      refine lv_goto (tgt := 171) hx hb dX4_takeNumber_167 (by decide) ?_
                      refine xa_iast hx hb hK hP hD hS (2 + h6) 0 (wRead_atG1 (by omega)) rfl (by omega) (by decide) dX4_takeNumber_171 (fun H locs hP hD hS => ?_)
                      rw [wRead_setG1 (by omega)] at hP hD
                      have hP : va_P (dC, dI) vwCl (wRead h cs (va_up I 169 (nI q2)) L A Q (va_up G 1 (va_up (G 1) h6 (upd ((G 1) h6) r6 (-z3)))) J) H := hP
                      have hD : va_D A0 (wRead h cs (va_up I 169 (nI q2)) L A Q (va_up G 1 (va_up (G 1) h6 (upd ((G 1) h6) r6 (-z3)))) J) := hD
                      refine lv_aload_n hx hb dX4_takeNumber_172 rfl (lv_at hl 0 rfl) ?_
                      refine lv_dup hx hb dX4_takeNumber_173 rfl ?_
                      refine va_get (D := (dC, dI)) (ci := 4) (v := .int (I 168)) (C := RX4) (T := TX4) (N := 6) hx hb hts hinX4 hown hK hP 0 rfl rfl 4 (by decide) (hts (.fieldLink RX4 27 "MixedWords$Reader" "inRow" "I") (by decide +kernel)) (fun _ h9 => h9) rfl dX4_takeNumber_174 ?_
                      refine xt_i (y := nI r6) (hi6) ?_
                      refine lv_iconst (v := nI 1) hx hb dX4_takeNumber_177 (by decide) ?_
                      refine lv_iadd hx hb dX4_takeNumber_178 ?_
                      refine xt_i (y := nI (r6 + 1)) (nI_add _ _) ?_
                      refine va_put (D := (dC, dI)) (ci := 4) (v := .int (nI (r6 + 1))) (ty := .int) (C := RX4) (T := TX4) (N := 6) hx hb hts hinX4 tyX4 tyX4_ok nmX4 hown hK hP hD hS 0 rfl rfl 4 (by decide) (hts (.fieldLink RX4 27 "MixedWords$Reader" "inRow" "I") (by decide +kernel)) (fun _ h9 => h9) rfl (by decide +kernel) rfl rfl (Nat.le_of_ble_eq_true rfl) dX4_takeNumber_179 (fun H locs hP hD hS => ?_)
                      have hP : va_P (dC, dI) vwCl (wRead h cs (va_up (va_up I 169 (nI q2)) 168 (nI (r6 + 1))) L A Q (va_up G 1 (va_up (G 1) h6 (upd ((G 1) h6) r6 (-z3)))) J) H := hP
                      have hD : va_D A0 (wRead h cs (va_up (va_up I 169 (nI q2)) 168 (nI (r6 + 1))) L A Q (va_up G 1 (va_up (G 1) h6 (upd ((G 1) h6) r6 (-z3)))) J) := hD
                      refine lv_iconst (v := nI 1) hx hb dX4_takeNumber_182 (by decide) ?_
                      exact xr_z (v := (nI 1)) hx hb hr hlocks hK hS dX4_takeNumber_183 (rfl) ((va_up (va_up I 169 (nI q2)) 168 (nI (r6 + 1))), L, A, Q, (va_up G 1 (va_up (G 1) h6 (upd ((G 1) h6) r6 (-z3)))), J) ⟨(nI q2), (nI (r6 + 1)), (va_up (G 1) h6 (upd ((G 1) h6) r6 (-z3))), (Or.inl ⟨rfl, rfl, q2, -z3, hqT76, (by first | omega | exact Nat.lt_of_le_of_lt hq44 (Nat.lt_of_le_of_ne hq76 (fun e9 => hdn ⟨(hlt76 e9.symm).2, (hlt76 e9.symm).1⟩))), rfl, by
          obtain ⟨j1, ng, k1, k2, k3, k4⟩ := hsk44
          have h9 : digV (A 150) q (q2 - q) ≤ nI 9 := satV_le.mp (by rw [← hz76]; assumption)
          have hz9 : z3 = digV (A 150) q (q2 - q) := by rw [hz76, satV, if_pos h9]
          have hng : ng = true := (by cases ng; (· exact absurd (k4.mp (by omega)) (by decide)); (· rfl))
          subst hng
          exact ⟨j1, q, true, k1, k2, k3, hdg44, ⟨hq76, hqT76, hd76, fun g9 => by omega⟩, h9, by rw [hz9]; rfl⟩, rfl⟩), rfl⟩ hP hD
                  · skip
                    refine lv_aload_n hx hb dX4_takeNumber_141 rfl (lv_at hl 0 rfl) ?_
                    refine lv_iload_n hx hb dX4_takeNumber_142 rfl (lv_at hl 2 rfl) ?_
                    refine va_put (D := (dC, dI)) (ci := 4) (v := .int (nI q)) (ty := .int) (C := RX4) (T := TX4) (N := 6) hx hb hts hinX4 tyX4 tyX4_ok nmX4 hown hK hP hD hS 0 rfl rfl 5 (by decide) (hts (.fieldLink RX4 30 "MixedWords$Reader" "place" "I") (by decide +kernel)) (fun _ h9 => h9) rfl (by decide +kernel) rfl rfl (Nat.le_of_ble_eq_true rfl) dX4_takeNumber_143 (fun H locs hP hD hS => ?_)
                    have hP : va_P (dC, dI) vwCl (wRead h cs (va_up I 169 (nI q)) L A Q G J) H := hP
                    have hD : va_D A0 (wRead h cs (va_up I 169 (nI q)) L A Q G J) := hD
                    refine lv_iconst (v := nI 0) hx hb dX4_takeNumber_146 (by decide) ?_
                    exact xr_z (v := (nI 0)) hx hb hr hlocks hK hS dX4_takeNumber_147 (rfl) ((va_up (va_up I 169 (nI q)) 168 (I 168)), L, A, Q, (va_up G 1 (G 1)), J) ⟨(nI q), (I 168), (G 1), (Or.inr ⟨rfl, rfl, rfl, q, hqT44, rfl, by obtain ⟨j1, ng, k1, k2, k3, -⟩ := hsk44; exact ⟨j1, ng, k1, k2, k3, Or.inr ⟨q2, ⟨hq76, hqT76, hd76, fun g9 => by omega⟩, fun g9 => (by assumption : ¬ z3 ≤ nI 9) (by rw [hz76]; exact satV_le.mpr g9)⟩⟩⟩), rfl⟩ hP hD
                · skip
                  refine lv_aload_n hx hb dX4_takeNumber_90 rfl (lv_at hl 0 rfl) ?_
                  refine xj_i (wc := (wRead h cs (va_up I 169 (nI q2)) L A Q G J)) (wr := ([] : va_W)) hP hD hS hA [0, 1, 2, 3, 4, 5, 6, 7, 8] [] rfl rfl (by decide +kernel) (by decide +kernel) (va_runV (As := []) (rest := []) ⟨hx, hb, hml, hown, hts⟩ (k_X4_isDigit l dC dI h cs H.size (va_up I 169 (nI q2)) L A Q G J T q2 hT (by first | assumption | omega | exact hT9) rfl (by first | assumption | omega | exact hpT)) (cwV 0 hts gX4_takeNumber_X4_isDigit rfl rfl rfl (by decide +kernel) ⟨Nat.le_of_ble_eq_true rfl, Nat.le_of_ble_eq_true rfl⟩) (xpV (wc := (wRead h cs (va_up I 169 (nI q2)) L A Q G J)) hP hD hK hN [0, 1, 2, 3, 4, 5, 6, 7, 8] rfl (by decide) 0 (ci := 4) rfl rfl _) rfl rfl hl.1 rfl (lv_room (Nat.le_of_ble_eq_true rfl)) dX4_takeNumber_91 ⟨Nat.zero_le _, Nat.zero_le _⟩) (fun r_41 u_40 H locs hw hP hD hS => ?_)
                  obtain ⟨hf_42, rfl⟩ := hw
                  have hP : va_P (dC, dI) vwCl (wRead h cs (va_up I 169 (nI q2)) L A Q G J) H := hP
                  have hD : va_D A0 (wRead h cs (va_up I 169 (nI q2)) L A Q G J) := hD
                  rcases hf_42 with ⟨rfl, hdy⟩ | ⟨rfl, hdn⟩
                  · skip
                    refine lv_if_eq (tgt := 135) hx hb dX4_takeNumber_94 (by decide) (fun c9 => False.elim (by revert c9; decide +kernel)) (fun _ => ?_)
                    refine lv_iload_n hx hb dX4_takeNumber_97 rfl (lv_at hl 3 rfl) ?_
                    refine lv_bipush (v := nI 10) hx hb dX4_takeNumber_98 (by decide) ?_
                    refine lv_imul hx hb dX4_takeNumber_100 ?_
                    refine lv_aload_n hx hb dX4_takeNumber_101 rfl (lv_at hl 0 rfl) ?_
                    refine va_get (D := (dC, dI)) (ci := 4) (v := .ref (h 103)) (C := RX4) (T := TX4) (N := 6) hx hb hts hinX4 hown hK hP 0 rfl rfl 0 (by decide) (hts (.fieldLink RX4 16 "MixedWords$Reader" "tape" "LMixedWords$Tape;") (by decide +kernel)) (fun _ h9 => h9) rfl dX4_takeNumber_102 ?_
                    refine lv_aload_n hx hb dX4_takeNumber_105 rfl (lv_at hl 0 rfl) ?_
                    refine va_get (D := (dC, dI)) (ci := 4) (v := .int (nI q2)) (C := RX4) (T := TX4) (N := 6) hx hb hts hinX4 hown hK hP 0 rfl rfl 5 (by decide) (hts (.fieldLink RX4 30 "MixedWords$Reader" "place" "I") (by decide +kernel)) (fun _ h9 => h9) rfl dX4_takeNumber_106 ?_
                    refine xj_i (wc := (wTape h cs (va_up I 169 (nI q2)) L A Q G J)) (wr := [(h 104, .inr (4, [.ref (h 103), .ref (h 160), .int (I 166), .int (I 167), .int (I 168), .int (nI q2)])), (h 160, .inl (cs 3, 5, .inr (.inr (.inr (.inr (fun i => if i < 5 then some (h (i + 161)) else none)))))), (h 161, .inl (cs 0, 4, .inl ((G 1) 0))), (h 162, .inl (cs 0, 4, .inl ((G 1) 1))), (h 163, .inl (cs 0, 4, .inl ((G 1) 2))), (h 164, .inl (cs 0, 4, .inl ((G 1) 3))), (h 165, .inl (cs 0, 4, .inl ((G 1) 4)))]) hP hD hS hA [7, 8] [0, 1, 2, 3, 4, 5, 6] rfl rfl (by decide +kernel) (by decide +kernel) (va_runV (As := [.int (nI q2)]) (rest := [.int (z3 * (nI 10))]) ⟨hx, hb, hml, hown, hts⟩ (k_X7_at l dC dI h cs H.size (va_up I 169 (nI q2)) L A Q G J (nI q2) T hT (by first | assumption | omega | exact hT9)) (cwV 1 hts gX4_takeNumber_X7_at rfl rfl rfl (by decide +kernel) ⟨Nat.le_of_ble_eq_true rfl, Nat.le_of_ble_eq_true rfl⟩) (xpV (wc := (wTape h cs (va_up I 169 (nI q2)) L A Q G J)) hP hD hK hN [7, 8] rfl (by decide) 7 (ci := 7) rfl rfl _) rfl rfl hl.1 rfl (lv_room (Nat.le_of_ble_eq_true rfl)) dX4_takeNumber_109 ⟨Nat.zero_le _, Nat.zero_le _⟩) (fun r_44 u_43 H locs hw hP hD hS => ?_)
                    obtain ⟨hf_45, rfl⟩ := hw
                    have hP : va_P (dC, dI) vwCl (wRead h cs (va_up I 169 (nI q2)) L A Q G J) H := hP
                    have hD : va_D A0 (wRead h cs (va_up I 169 (nI q2)) L A Q G J) := hD
                    have hat_46 := at_c (by omega) (by omega) hf_45
                    obtain rfl := at_v (by omega) hat_46
                    clear hf_45 hat_46
                    refine lv_iadd hx hb dX4_takeNumber_112 ?_
                    refine lv_bipush (v := nI 48) hx hb dX4_takeNumber_113 (by decide) ?_
                    refine lv_isub hx hb dX4_takeNumber_115 ?_
                    refine lv_bipush (v := nI 10) hx hb dX4_takeNumber_116 (by decide) ?_
                    refine va_mmin hx hb (hml.trans hl.1.symm) hown (hts (.methodLink RX4 61 Lib.Math.min.name) (by decide +kernel)) (hts (.static Lib.Math.min.name) (by decide +kernel)) (hts (.initialized "java/lang/Math") (by decide +kernel)) (hts (.code Lib.Math.min.name Lib.Math.min.code 2 (some .int)) (by decide +kernel)) (Nat.le_of_ble_eq_true rfl) (Nat.le_of_ble_eq_true rfl) (Nat.zero_le _) (Nat.zero_le _) dX4_takeNumber_118 ?_
                    refine lv_istore_n (lv' := [(3, .int (if nI 10 < ((z3 * (nI 10)) + (A 150 q2)) - (nI 48) then nI 10 else ((z3 * (nI 10)) + (A 150 q2)) - (nI 48))), (0, .ref (h 104)), (1, .int (nI b1)), (2, .int (nI q))]) hx hb dX4_takeNumber_121 rfl hl (by decide) rfl (fun ls hl => ?_)
                    refine lv_aload_n hx hb dX4_takeNumber_122 rfl (lv_at hl 1 rfl) ?_
                    refine lv_dup hx hb dX4_takeNumber_123 rfl ?_
                    refine va_get (D := (dC, dI)) (ci := 4) (v := .int (nI q2)) (C := RX4) (T := TX4) (N := 6) hx hb hts hinX4 hown hK hP 0 rfl rfl 5 (by decide) (hts (.fieldLink RX4 30 "MixedWords$Reader" "place" "I") (by decide +kernel)) (fun _ h9 => h9) rfl dX4_takeNumber_124 ?_
                    refine lv_iconst (v := nI 1) hx hb dX4_takeNumber_127 (by decide) ?_
                    refine lv_iadd hx hb dX4_takeNumber_128 ?_
                    refine xt_i (y := nI (q2 + 1)) (nI_add _ _) ?_
                    refine va_put (D := (dC, dI)) (ci := 4) (v := .int (nI (q2 + 1))) (ty := .int) (C := RX4) (T := TX4) (N := 6) hx hb hts hinX4 tyX4 tyX4_ok nmX4 hown hK hP hD hS 0 rfl rfl 5 (by decide) (hts (.fieldLink RX4 30 "MixedWords$Reader" "place" "I") (by decide +kernel)) (fun _ h9 => h9) rfl (by decide +kernel) rfl rfl (Nat.le_of_ble_eq_true rfl) dX4_takeNumber_129 (fun H locs hP hD hS => ?_)
                    have hP : va_P (dC, dI) vwCl (wRead h cs (va_up I 169 (nI (q2 + 1))) L A Q G J) H := hP
                    have hD : va_D A0 (wRead h cs (va_up I 169 (nI (q2 + 1))) L A Q G J) := hD
                    refine lv_goto (tgt := 76) hx hb dX4_takeNumber_132 (by decide) ?_
                    exact ih_76 (q2 + 1) (if nI 10 < ((z3 * (nI 10)) + (A 150 q2)) - (nI 48) then nI 10 else ((z3 * (nI 10)) + (A 150 q2)) - (nI 48)) (by omega) (by first | assumption | omega) (by first | assumption | omega) (by first | (intro u h1 h2; omega) | (intro u h1 h2; by_cases e : u = q2; (· subst e; exact hdy.2); (· exact hd76 u h1 (by omega)))) (by first | (rw [Nat.sub_self]; rfl) | exact sat_s hq76 hd76 hdy.2 hz76) (by first | exact (fun _ => ⟨hdg44.2, hdg44.1⟩) | (intro h9; omega)) _ _ _ hP hD hS (lv_sub hl [1, 2, 3, 0] rfl)
                  · skip
                    refine lv_if_eq (tgt := 135) hx hb dX4_takeNumber_94 (by decide) (fun _ => ?_) (fun c9 => False.elim (by revert c9; decide +kernel))
                    refine lv_iload_n hx hb dX4_takeNumber_135 rfl (lv_at hl 3 rfl) ?_
                    refine lv_bipush (v := nI 9) hx hb dX4_takeNumber_136 (by decide) ?_
                    refine lv_icmp_le (tgt := 148) hx hb dX4_takeNumber_138 (by decide) (fun c_138_46 => ?_) (fun c_138_46 => ?_)
                    · skip
                      refine lv_aload_n hx hb dX4_takeNumber_148 rfl (lv_at hl 0 rfl) ?_
                      refine va_get (D := (dC, dI)) (ci := 4) (v := .ref (h 160)) (C := RX4) (T := TX4) (N := 6) hx hb hts hinX4 hown hK hP 0 rfl rfl 1 (by decide) (hts (.fieldLink RX4 11 "MixedWords$Reader" "cells" "[[I") (by decide +kernel)) (fun _ h9 => h9) rfl dX4_takeNumber_149 ?_
                      refine lv_aload_n hx hb dX4_takeNumber_152 rfl (lv_at hl 0 rfl) ?_
                      refine va_get (D := (dC, dI)) (ci := 4) (v := .int (I 166)) (C := RX4) (T := TX4) (N := 6) hx hb hts hinX4 hown hK hP 0 rfl rfl 2 (by decide) (hts (.fieldLink RX4 20 "MixedWords$Reader" "height" "I") (by decide +kernel)) (fun _ h9 => h9) rfl dX4_takeNumber_153 ?_
                      refine xt_i (y := nI h6) (hh) ?_
                      refine xa_aald (b := h (h6 + 161)) hx hb hK hP 1 3 rfl rfl rfl (by omega) (by decide) (if_pos (by omega)) dX4_takeNumber_156 ?_
                      refine lv_aload_n hx hb dX4_takeNumber_157 rfl (lv_at hl 0 rfl) ?_
                      refine va_get (D := (dC, dI)) (ci := 4) (v := .int (I 168)) (C := RX4) (T := TX4) (N := 6) hx hb hts hinX4 hown hK hP 0 rfl rfl 4 (by decide) (hts (.fieldLink RX4 27 "MixedWords$Reader" "inRow" "I") (by decide +kernel)) (fun _ h9 => h9) rfl dX4_takeNumber_158 ?_
                      refine xt_i (y := nI r6) (hi6) ?_
                      refine lv_iload_n hx hb dX4_takeNumber_161 rfl (lv_at hl 1 rfl) ?_
                      refine xz_eq (tgt := 170) hx hb dX4_takeNumber_162 (by decide) (by omega) (fun c_162_47 => ?_) (fun c_162_47 => ?_)
                      · skip
                        refine lv_iload_n hx hb dX4_takeNumber_170 rfl (lv_at hl 3 rfl) ?_
                        refine xa_iast hx hb hK hP hD hS (2 + h6) 0 (wRead_atG1 (by omega)) rfl (by omega) (by decide) dX4_takeNumber_171 (fun H locs hP hD hS => ?_)
                        rw [wRead_setG1 (by omega)] at hP hD
                        have hP : va_P (dC, dI) vwCl (wRead h cs (va_up I 169 (nI q2)) L A Q (va_up G 1 (va_up (G 1) h6 (upd ((G 1) h6) r6 z3))) J) H := hP
                        have hD : va_D A0 (wRead h cs (va_up I 169 (nI q2)) L A Q (va_up G 1 (va_up (G 1) h6 (upd ((G 1) h6) r6 z3))) J) := hD
                        refine lv_aload_n hx hb dX4_takeNumber_172 rfl (lv_at hl 0 rfl) ?_
                        refine lv_dup hx hb dX4_takeNumber_173 rfl ?_
                        refine va_get (D := (dC, dI)) (ci := 4) (v := .int (I 168)) (C := RX4) (T := TX4) (N := 6) hx hb hts hinX4 hown hK hP 0 rfl rfl 4 (by decide) (hts (.fieldLink RX4 27 "MixedWords$Reader" "inRow" "I") (by decide +kernel)) (fun _ h9 => h9) rfl dX4_takeNumber_174 ?_
                        refine xt_i (y := nI r6) (hi6) ?_
                        refine lv_iconst (v := nI 1) hx hb dX4_takeNumber_177 (by decide) ?_
                        refine lv_iadd hx hb dX4_takeNumber_178 ?_
                        refine xt_i (y := nI (r6 + 1)) (nI_add _ _) ?_
                        refine va_put (D := (dC, dI)) (ci := 4) (v := .int (nI (r6 + 1))) (ty := .int) (C := RX4) (T := TX4) (N := 6) hx hb hts hinX4 tyX4 tyX4_ok nmX4 hown hK hP hD hS 0 rfl rfl 4 (by decide) (hts (.fieldLink RX4 27 "MixedWords$Reader" "inRow" "I") (by decide +kernel)) (fun _ h9 => h9) rfl (by decide +kernel) rfl rfl (Nat.le_of_ble_eq_true rfl) dX4_takeNumber_179 (fun H locs hP hD hS => ?_)
                        have hP : va_P (dC, dI) vwCl (wRead h cs (va_up (va_up I 169 (nI q2)) 168 (nI (r6 + 1))) L A Q (va_up G 1 (va_up (G 1) h6 (upd ((G 1) h6) r6 z3))) J) H := hP
                        have hD : va_D A0 (wRead h cs (va_up (va_up I 169 (nI q2)) 168 (nI (r6 + 1))) L A Q (va_up G 1 (va_up (G 1) h6 (upd ((G 1) h6) r6 z3))) J) := hD
                        refine lv_iconst (v := nI 1) hx hb dX4_takeNumber_182 (by decide) ?_
                        exact xr_z (v := (nI 1)) hx hb hr hlocks hK hS dX4_takeNumber_183 (rfl) ((va_up (va_up I 169 (nI q2)) 168 (nI (r6 + 1))), L, A, Q, (va_up G 1 (va_up (G 1) h6 (upd ((G 1) h6) r6 z3))), J) ⟨(nI q2), (nI (r6 + 1)), (va_up (G 1) h6 (upd ((G 1) h6) r6 z3)), (Or.inl ⟨rfl, rfl, q2, z3, hqT76, (by first | omega | exact Nat.lt_of_le_of_lt hq44 (Nat.lt_of_le_of_ne hq76 (fun e9 => hdn ⟨(hlt76 e9.symm).2, (hlt76 e9.symm).1⟩))), rfl, by
          obtain ⟨j1, ng, k1, k2, k3, k4⟩ := hsk44
          have h9 : digV (A 150) q (q2 - q) ≤ nI 9 := satV_le.mp (by rw [← hz76]; assumption)
          have hz9 : z3 = digV (A 150) q (q2 - q) := by rw [hz76, satV, if_pos h9]
          have hng : ng = false := (by cases ng; (· rfl); (· exact absurd (k4.mpr rfl) (by omega)))
          subst hng
          exact ⟨j1, q, false, k1, k2, k3, hdg44, ⟨hq76, hqT76, hd76, fun g9 d9 => hdn ⟨g9, d9⟩⟩, h9, by rw [hz9]; rfl⟩, rfl⟩), rfl⟩ hP hD
                      · skip
                        refine lv_iload_n hx hb dX4_takeNumber_165 rfl (lv_at hl 3 rfl) ?_
                        refine lv_ineg hx hb dX4_takeNumber_166 ?_
                        refine lv_goto (tgt := 171) hx hb dX4_takeNumber_167 (by decide) ?_
                        refine xa_iast hx hb hK hP hD hS (2 + h6) 0 (wRead_atG1 (by omega)) rfl (by omega) (by decide) dX4_takeNumber_171 (fun H locs hP hD hS => ?_)
                        rw [wRead_setG1 (by omega)] at hP hD
                        have hP : va_P (dC, dI) vwCl (wRead h cs (va_up I 169 (nI q2)) L A Q (va_up G 1 (va_up (G 1) h6 (upd ((G 1) h6) r6 (-z3)))) J) H := hP
                        have hD : va_D A0 (wRead h cs (va_up I 169 (nI q2)) L A Q (va_up G 1 (va_up (G 1) h6 (upd ((G 1) h6) r6 (-z3)))) J) := hD
                        refine lv_aload_n hx hb dX4_takeNumber_172 rfl (lv_at hl 0 rfl) ?_
                        refine lv_dup hx hb dX4_takeNumber_173 rfl ?_
                        refine va_get (D := (dC, dI)) (ci := 4) (v := .int (I 168)) (C := RX4) (T := TX4) (N := 6) hx hb hts hinX4 hown hK hP 0 rfl rfl 4 (by decide) (hts (.fieldLink RX4 27 "MixedWords$Reader" "inRow" "I") (by decide +kernel)) (fun _ h9 => h9) rfl dX4_takeNumber_174 ?_
                        refine xt_i (y := nI r6) (hi6) ?_
                        refine lv_iconst (v := nI 1) hx hb dX4_takeNumber_177 (by decide) ?_
                        refine lv_iadd hx hb dX4_takeNumber_178 ?_
                        refine xt_i (y := nI (r6 + 1)) (nI_add _ _) ?_
                        refine va_put (D := (dC, dI)) (ci := 4) (v := .int (nI (r6 + 1))) (ty := .int) (C := RX4) (T := TX4) (N := 6) hx hb hts hinX4 tyX4 tyX4_ok nmX4 hown hK hP hD hS 0 rfl rfl 4 (by decide) (hts (.fieldLink RX4 27 "MixedWords$Reader" "inRow" "I") (by decide +kernel)) (fun _ h9 => h9) rfl (by decide +kernel) rfl rfl (Nat.le_of_ble_eq_true rfl) dX4_takeNumber_179 (fun H locs hP hD hS => ?_)
                        have hP : va_P (dC, dI) vwCl (wRead h cs (va_up (va_up I 169 (nI q2)) 168 (nI (r6 + 1))) L A Q (va_up G 1 (va_up (G 1) h6 (upd ((G 1) h6) r6 (-z3)))) J) H := hP
                        have hD : va_D A0 (wRead h cs (va_up (va_up I 169 (nI q2)) 168 (nI (r6 + 1))) L A Q (va_up G 1 (va_up (G 1) h6 (upd ((G 1) h6) r6 (-z3)))) J) := hD
                        refine lv_iconst (v := nI 1) hx hb dX4_takeNumber_182 (by decide) ?_
                        exact xr_z (v := (nI 1)) hx hb hr hlocks hK hS dX4_takeNumber_183 (rfl) ((va_up (va_up I 169 (nI q2)) 168 (nI (r6 + 1))), L, A, Q, (va_up G 1 (va_up (G 1) h6 (upd ((G 1) h6) r6 (-z3)))), J) ⟨(nI q2), (nI (r6 + 1)), (va_up (G 1) h6 (upd ((G 1) h6) r6 (-z3))), (Or.inl ⟨rfl, rfl, q2, -z3, hqT76, (by first | omega | exact Nat.lt_of_le_of_lt hq44 (Nat.lt_of_le_of_ne hq76 (fun e9 => hdn ⟨(hlt76 e9.symm).2, (hlt76 e9.symm).1⟩))), rfl, by
          obtain ⟨j1, ng, k1, k2, k3, k4⟩ := hsk44
          have h9 : digV (A 150) q (q2 - q) ≤ nI 9 := satV_le.mp (by rw [← hz76]; assumption)
          have hz9 : z3 = digV (A 150) q (q2 - q) := by rw [hz76, satV, if_pos h9]
          have hng : ng = true := (by cases ng; (· exact absurd (k4.mp (by omega)) (by decide)); (· rfl))
          subst hng
          exact ⟨j1, q, true, k1, k2, k3, hdg44, ⟨hq76, hqT76, hd76, fun g9 d9 => hdn ⟨g9, d9⟩⟩, h9, by rw [hz9]; rfl⟩, rfl⟩), rfl⟩ hP hD
                    · skip
                      refine lv_aload_n hx hb dX4_takeNumber_141 rfl (lv_at hl 0 rfl) ?_
                      refine lv_iload_n hx hb dX4_takeNumber_142 rfl (lv_at hl 2 rfl) ?_
                      refine va_put (D := (dC, dI)) (ci := 4) (v := .int (nI q)) (ty := .int) (C := RX4) (T := TX4) (N := 6) hx hb hts hinX4 tyX4 tyX4_ok nmX4 hown hK hP hD hS 0 rfl rfl 5 (by decide) (hts (.fieldLink RX4 30 "MixedWords$Reader" "place" "I") (by decide +kernel)) (fun _ h9 => h9) rfl (by decide +kernel) rfl rfl (Nat.le_of_ble_eq_true rfl) dX4_takeNumber_143 (fun H locs hP hD hS => ?_)
                      have hP : va_P (dC, dI) vwCl (wRead h cs (va_up I 169 (nI q)) L A Q G J) H := hP
                      have hD : va_D A0 (wRead h cs (va_up I 169 (nI q)) L A Q G J) := hD
                      refine lv_iconst (v := nI 0) hx hb dX4_takeNumber_146 (by decide) ?_
                      exact xr_z (v := (nI 0)) hx hb hr hlocks hK hS dX4_takeNumber_147 (rfl) ((va_up (va_up I 169 (nI q)) 168 (I 168)), L, A, Q, (va_up G 1 (G 1)), J) ⟨(nI q), (I 168), (G 1), (Or.inr ⟨rfl, rfl, rfl, q, hqT44, rfl, by obtain ⟨j1, ng, k1, k2, k3, -⟩ := hsk44; exact ⟨j1, ng, k1, k2, k3, Or.inr ⟨q2, ⟨hq76, hqT76, hd76, fun g9 d9 => hdn ⟨g9, d9⟩⟩, fun g9 => (by assumption : ¬ z3 ≤ nI 9) (by rw [hz76]; exact satV_le.mpr g9)⟩⟩⟩), rfl⟩ hP hD
            exact cut_76 _ q (nI 0) (Nat.lt_succ_self _) (by first | assumption | omega) (by first | assumption | omega) (by first | (intro u h1 h2; omega) | (intro u h1 h2; by_cases e : u = q2; (· subst e; exact hdy.2); (· exact hd76 u h1 (by omega)))) (by first | (rw [Nat.sub_self]; rfl) | exact sat_s hq76 hd76 hdy.2 hz76) (by first | exact (fun _ => ⟨hdg44.2, hdg44.1⟩) | (intro h9; omega)) _ _ _ hP hD hS (lv_sub hl [2, 3, 1, 0] rfl)
          · skip
            exact absurd c_64_35 (by omega)
      · skip
        refine lv_if_eq (tgt := 67) hx hb dX4_takeNumber_48 (by decide) (fun _ => ?_) (fun c9 => False.elim (by revert c9; decide +kernel))
        refine lv_iconst (v := nI 0) hx hb dX4_takeNumber_67 (by decide) ?_
        exact xr_z (v := (nI 0)) hx hb hr hlocks hK hS dX4_takeNumber_68 (rfl) ((va_up (va_up I 169 (nI q)) 168 (I 168)), L, A, Q, (va_up G 1 (G 1)), J) ⟨(nI q), (I 168), (G 1), (Or.inr ⟨rfl, rfl, rfl, q, hqT44, rfl, by obtain ⟨j1, ng, k1, k2, k3, -⟩ := hsk44; exact ⟨j1, ng, k1, k2, k3, Or.inl hdn⟩⟩), rfl⟩ hP hD
    exact cut_44 1 q_31 (by first | assumption | omega) (by first | assumption | omega) (by first | assumption | omega) (by first | exact ⟨_, true, hs1, ⟨fun _ => hC45, fun _ => rfl⟩, hs2, by decide⟩ | exact ⟨_, false, hs1, ⟨fun h9 => absurd h9 (by decide), fun h9 => absurd h9 hN45⟩, sk_id hs1, by decide⟩) _ _ _ hP hD hS (lv_sub hl [1, 0] rfl)
set_option maxRecDepth 20000 in
theorem ggX4_parse_X4_takeNumber : GoodIn wsX4_parse wsX4_takeNumber := goodIn_r _ [10, 5, 4, 1, 3, 11, 12, 13, 14, 15, 16, 17, 18, 19, 9, 20, 21, 22, 23, 24, 25, 26, 27, 28, 29, 30, 31, 44, 45, 46, 47, 48, 49, 50, 51] rfl (by decide +kernel)
set_option maxRecDepth 20000 in
theorem gX4_parse_X4_takeNumber : GoodIn wsX4_parse (wsV RX4 33 RX4 yX4_takeNumber wsX4_takeNumber) := goodIn_app (goodIn_of _ (by decide +kernel)) ggX4_parse_X4_takeNumber
set_option maxRecDepth 20000 in
theorem ggX4_parse_X4_skipBlanks : GoodIn wsX4_parse wsX4_skipBlanks := goodIn_r _ [20, 4, 5, 11, 21, 22, 23, 24, 25, 26, 27, 44, 45, 46, 47, 48, 49, 50, 51] rfl (by decide +kernel)
set_option maxRecDepth 20000 in
theorem gX4_parse_X4_skipBlanks : GoodIn wsX4_parse (wsV RX4 37 RX4 yX4_skipBlanks wsX4_skipBlanks) := goodIn_app (goodIn_of _ (by decide +kernel)) ggX4_parse_X4_skipBlanks
set_option maxRecDepth 20000 in
theorem ggX4_parse_X7_at : GoodIn wsX4_parse wsX7_at := goodIn_r _ [25, 26, 27, 50, 51] rfl (by decide +kernel)
set_option maxRecDepth 20000 in
theorem gX4_parse_X7_at : GoodIn wsX4_parse (wsV RX4 40 RX7 yX7_at wsX7_at) := goodIn_app (goodIn_of _ (by decide +kernel)) ggX4_parse_X7_at
set_option maxRecDepth 20000 in
theorem ggX4_parse_X4_isRowWhole : GoodIn wsX4_parse wsX4_isRowWhole := goodIn_r _ [35, 1, 3, 2, 44, 45, 46, 47, 48, 49] rfl (by decide +kernel)
set_option maxRecDepth 20000 in
theorem gX4_parse_X4_isRowWhole : GoodIn wsX4_parse (wsV RX4 46 RX4 yX4_isRowWhole wsX4_isRowWhole) := goodIn_app (goodIn_of _ (by decide +kernel)) ggX4_parse_X4_isRowWhole
set_option maxRecDepth 20000 in
theorem ggX4_parse_X4_endRow : GoodIn wsX4_parse wsX4_endRow := goodIn_r _ [39, 3, 2, 1, 44, 45, 46, 47, 48, 49] rfl (by decide +kernel)
set_option maxRecDepth 20000 in
theorem gX4_parse_X4_endRow : GoodIn wsX4_parse (wsV RX4 49 RX4 yX4_endRow wsX4_endRow) := goodIn_app (goodIn_of _ (by decide +kernel)) ggX4_parse_X4_endRow
set_option maxRecDepth 20000 in
theorem ggX4_parse_X4_takeSign : GoodIn wsX4_parse wsX4_takeSign := goodIn_r _ [43, 5, 4, 3, 1, 2, 21, 22, 23, 24, 25, 26, 27, 32, 33, 34, 9, 35, 36, 37, 38, 39, 44, 45, 46, 47, 48, 49, 50, 51] rfl (by decide +kernel)
set_option maxRecDepth 20000 in
theorem gX4_parse_X4_takeSign : GoodIn wsX4_parse (wsV RX4 52 RX4 yX4_takeSign wsX4_takeSign) := goodIn_app (goodIn_of _ (by decide +kernel)) ggX4_parse_X4_takeSign
theorem bdX4_parse_0 : (decode cX4_parse 0 = .ok (.aload_n 0, 1)) ∧ (decode cX4_parse 1 = .ok (.iconst 0, 1)) ∧ (decode cX4_parse 2 = .ok (.putfield 20, 3)) ∧ (decode cX4_parse 5 = .ok (.aload_n 0, 1)) ∧ (decode cX4_parse 6 = .ok (.iconst 0, 1)) ∧ (decode cX4_parse 7 = .ok (.putfield 24, 3)) ∧ (decode cX4_parse 10 = .ok (.aload_n 0, 1)) ∧ (decode cX4_parse 11 = .ok (.iconst 0, 1)) ∧ (decode cX4_parse 12 = .ok (.putfield 27, 3)) ∧ (decode cX4_parse 15 = .ok (.aload_n 0, 1)) ∧ (decode cX4_parse 16 = .ok (.iconst 0, 1)) ∧ (decode cX4_parse 17 = .ok (.putfield 30, 3)) ∧ (decode cX4_parse 20 = .ok (.iconst 0, 1)) ∧ (decode cX4_parse 21 = .ok (.istore_n 1, 1)) ∧ (decode cX4_parse 22 = .ok (.iload_n 1, 1)) ∧ (decode cX4_parse 23 = .ok (.bipush 20, 2)) := by decide +kernel
theorem dX4_parse_0 : decode cX4_parse 0 = .ok (.aload_n 0, 1) := bdX4_parse_0.1
theorem dX4_parse_1 : decode cX4_parse 1 = .ok (.iconst 0, 1) := bdX4_parse_0.2.1
theorem dX4_parse_2 : decode cX4_parse 2 = .ok (.putfield 20, 3) := bdX4_parse_0.2.2.1
theorem dX4_parse_5 : decode cX4_parse 5 = .ok (.aload_n 0, 1) := bdX4_parse_0.2.2.2.1
theorem dX4_parse_6 : decode cX4_parse 6 = .ok (.iconst 0, 1) := bdX4_parse_0.2.2.2.2.1
theorem dX4_parse_7 : decode cX4_parse 7 = .ok (.putfield 24, 3) := bdX4_parse_0.2.2.2.2.2.1
theorem dX4_parse_10 : decode cX4_parse 10 = .ok (.aload_n 0, 1) := bdX4_parse_0.2.2.2.2.2.2.1
theorem dX4_parse_11 : decode cX4_parse 11 = .ok (.iconst 0, 1) := bdX4_parse_0.2.2.2.2.2.2.2.1
theorem dX4_parse_12 : decode cX4_parse 12 = .ok (.putfield 27, 3) := bdX4_parse_0.2.2.2.2.2.2.2.2.1
theorem dX4_parse_15 : decode cX4_parse 15 = .ok (.aload_n 0, 1) := bdX4_parse_0.2.2.2.2.2.2.2.2.2.1
theorem dX4_parse_16 : decode cX4_parse 16 = .ok (.iconst 0, 1) := bdX4_parse_0.2.2.2.2.2.2.2.2.2.2.1
theorem dX4_parse_17 : decode cX4_parse 17 = .ok (.putfield 30, 3) := bdX4_parse_0.2.2.2.2.2.2.2.2.2.2.2.1
theorem dX4_parse_20 : decode cX4_parse 20 = .ok (.iconst 0, 1) := bdX4_parse_0.2.2.2.2.2.2.2.2.2.2.2.2.1
theorem dX4_parse_21 : decode cX4_parse 21 = .ok (.istore_n 1, 1) := bdX4_parse_0.2.2.2.2.2.2.2.2.2.2.2.2.2.1
theorem dX4_parse_22 : decode cX4_parse 22 = .ok (.iload_n 1, 1) := bdX4_parse_0.2.2.2.2.2.2.2.2.2.2.2.2.2.2.1
theorem dX4_parse_23 : decode cX4_parse 23 = .ok (.bipush 20, 2) := bdX4_parse_0.2.2.2.2.2.2.2.2.2.2.2.2.2.2.2
theorem bdX4_parse_25 : (decode cX4_parse 25 = .ok (.if_icmp .ge 71, 3)) ∧ (decode cX4_parse 28 = .ok (.aload_n 0, 1)) ∧ (decode cX4_parse 29 = .ok (.invokevirtual 33, 3)) ∧ (decode cX4_parse 32 = .ok (.ifCond .ne 11, 3)) ∧ (decode cX4_parse 35 = .ok (.bipush (-20), 2)) ∧ (decode cX4_parse 37 = .ok (.aload_n 0, 1)) ∧ (decode cX4_parse 38 = .ok (.getfield 30, 3)) ∧ (decode cX4_parse 41 = .ok (.isub, 1)) ∧ (decode cX4_parse 42 = .ok (.ireturn, 1)) ∧ (decode cX4_parse 43 = .ok (.aload_n 0, 1)) ∧ (decode cX4_parse 44 = .ok (.invokevirtual 37, 3)) ∧ (decode cX4_parse 47 = .ok (.aload_n 0, 1)) ∧ (decode cX4_parse 48 = .ok (.getfield 16, 3)) ∧ (decode cX4_parse 51 = .ok (.aload_n 0, 1)) ∧ (decode cX4_parse 52 = .ok (.getfield 30, 3)) ∧ (decode cX4_parse 55 = .ok (.invokevirtual 40, 3)) := by decide +kernel
theorem dX4_parse_25 : decode cX4_parse 25 = .ok (.if_icmp .ge 71, 3) := bdX4_parse_25.1
theorem dX4_parse_28 : decode cX4_parse 28 = .ok (.aload_n 0, 1) := bdX4_parse_25.2.1
theorem dX4_parse_29 : decode cX4_parse 29 = .ok (.invokevirtual 33, 3) := bdX4_parse_25.2.2.1
theorem dX4_parse_32 : decode cX4_parse 32 = .ok (.ifCond .ne 11, 3) := bdX4_parse_25.2.2.2.1
theorem dX4_parse_35 : decode cX4_parse 35 = .ok (.bipush (-20), 2) := bdX4_parse_25.2.2.2.2.1
theorem dX4_parse_37 : decode cX4_parse 37 = .ok (.aload_n 0, 1) := bdX4_parse_25.2.2.2.2.2.1
theorem dX4_parse_38 : decode cX4_parse 38 = .ok (.getfield 30, 3) := bdX4_parse_25.2.2.2.2.2.2.1
theorem dX4_parse_41 : decode cX4_parse 41 = .ok (.isub, 1) := bdX4_parse_25.2.2.2.2.2.2.2.1
theorem dX4_parse_42 : decode cX4_parse 42 = .ok (.ireturn, 1) := bdX4_parse_25.2.2.2.2.2.2.2.2.1
theorem dX4_parse_43 : decode cX4_parse 43 = .ok (.aload_n 0, 1) := bdX4_parse_25.2.2.2.2.2.2.2.2.2.1
theorem dX4_parse_44 : decode cX4_parse 44 = .ok (.invokevirtual 37, 3) := bdX4_parse_25.2.2.2.2.2.2.2.2.2.2.1
theorem dX4_parse_47 : decode cX4_parse 47 = .ok (.aload_n 0, 1) := bdX4_parse_25.2.2.2.2.2.2.2.2.2.2.2.1
theorem dX4_parse_48 : decode cX4_parse 48 = .ok (.getfield 16, 3) := bdX4_parse_25.2.2.2.2.2.2.2.2.2.2.2.2.1
theorem dX4_parse_51 : decode cX4_parse 51 = .ok (.aload_n 0, 1) := bdX4_parse_25.2.2.2.2.2.2.2.2.2.2.2.2.2.1
theorem dX4_parse_52 : decode cX4_parse 52 = .ok (.getfield 30, 3) := bdX4_parse_25.2.2.2.2.2.2.2.2.2.2.2.2.2.2.1
theorem dX4_parse_55 : decode cX4_parse 55 = .ok (.invokevirtual 40, 3) := bdX4_parse_25.2.2.2.2.2.2.2.2.2.2.2.2.2.2.2
theorem bdX4_parse_58 : (decode cX4_parse 58 = .ok (.iconst (-1), 1)) ∧ (decode cX4_parse 59 = .ok (.if_icmp .ne 16, 3)) ∧ (decode cX4_parse 62 = .ok (.aload_n 0, 1)) ∧ (decode cX4_parse 63 = .ok (.invokevirtual 46, 3)) ∧ (decode cX4_parse 66 = .ok (.ifCond .eq 9, 3)) ∧ (decode cX4_parse 69 = .ok (.aload_n 0, 1)) ∧ (decode cX4_parse 70 = .ok (.invokevirtual 49, 3)) ∧ (decode cX4_parse 73 = .ok (.iconst 0, 1)) ∧ (decode cX4_parse 74 = .ok (.ireturn, 1)) ∧ (decode cX4_parse 75 = .ok (.aload_n 0, 1)) ∧ (decode cX4_parse 76 = .ok (.invokevirtual 52, 3)) ∧ (decode cX4_parse 79 = .ok (.ifCond .ne 11, 3)) ∧ (decode cX4_parse 82 = .ok (.bipush (-20), 2)) ∧ (decode cX4_parse 84 = .ok (.aload_n 0, 1)) ∧ (decode cX4_parse 85 = .ok (.getfield 30, 3)) ∧ (decode cX4_parse 88 = .ok (.isub, 1)) := by decide +kernel
theorem dX4_parse_58 : decode cX4_parse 58 = .ok (.iconst (-1), 1) := bdX4_parse_58.1
theorem dX4_parse_59 : decode cX4_parse 59 = .ok (.if_icmp .ne 16, 3) := bdX4_parse_58.2.1
theorem dX4_parse_62 : decode cX4_parse 62 = .ok (.aload_n 0, 1) := bdX4_parse_58.2.2.1
theorem dX4_parse_63 : decode cX4_parse 63 = .ok (.invokevirtual 46, 3) := bdX4_parse_58.2.2.2.1
theorem dX4_parse_66 : decode cX4_parse 66 = .ok (.ifCond .eq 9, 3) := bdX4_parse_58.2.2.2.2.1
theorem dX4_parse_69 : decode cX4_parse 69 = .ok (.aload_n 0, 1) := bdX4_parse_58.2.2.2.2.2.1
theorem dX4_parse_70 : decode cX4_parse 70 = .ok (.invokevirtual 49, 3) := bdX4_parse_58.2.2.2.2.2.2.1
theorem dX4_parse_73 : decode cX4_parse 73 = .ok (.iconst 0, 1) := bdX4_parse_58.2.2.2.2.2.2.2.1
theorem dX4_parse_74 : decode cX4_parse 74 = .ok (.ireturn, 1) := bdX4_parse_58.2.2.2.2.2.2.2.2.1
theorem dX4_parse_75 : decode cX4_parse 75 = .ok (.aload_n 0, 1) := bdX4_parse_58.2.2.2.2.2.2.2.2.2.1
theorem dX4_parse_76 : decode cX4_parse 76 = .ok (.invokevirtual 52, 3) := bdX4_parse_58.2.2.2.2.2.2.2.2.2.2.1
theorem dX4_parse_79 : decode cX4_parse 79 = .ok (.ifCond .ne 11, 3) := bdX4_parse_58.2.2.2.2.2.2.2.2.2.2.2.1
theorem dX4_parse_82 : decode cX4_parse 82 = .ok (.bipush (-20), 2) := bdX4_parse_58.2.2.2.2.2.2.2.2.2.2.2.2.1
theorem dX4_parse_84 : decode cX4_parse 84 = .ok (.aload_n 0, 1) := bdX4_parse_58.2.2.2.2.2.2.2.2.2.2.2.2.2.1
theorem dX4_parse_85 : decode cX4_parse 85 = .ok (.getfield 30, 3) := bdX4_parse_58.2.2.2.2.2.2.2.2.2.2.2.2.2.2.1
theorem dX4_parse_88 : decode cX4_parse 88 = .ok (.isub, 1) := bdX4_parse_58.2.2.2.2.2.2.2.2.2.2.2.2.2.2.2
theorem bdX4_parse_89 : (decode cX4_parse 89 = .ok (.ireturn, 1)) ∧ (decode cX4_parse 90 = .ok (.iinc 1 1, 3)) ∧ (decode cX4_parse 93 = .ok (.goto (-71), 3)) ∧ (decode cX4_parse 96 = .ok (.bipush (-20), 2)) ∧ (decode cX4_parse 98 = .ok (.aload_n 0, 1)) ∧ (decode cX4_parse 99 = .ok (.getfield 30, 3)) ∧ (decode cX4_parse 102 = .ok (.isub, 1)) ∧ (decode cX4_parse 103 = .ok (.ireturn, 1)) := by decide +kernel
theorem dX4_parse_89 : decode cX4_parse 89 = .ok (.ireturn, 1) := bdX4_parse_89.1
theorem dX4_parse_90 : decode cX4_parse 90 = .ok (.iinc 1 1, 3) := bdX4_parse_89.2.1
theorem dX4_parse_93 : decode cX4_parse 93 = .ok (.goto (-71), 3) := bdX4_parse_89.2.2.1
theorem dX4_parse_96 : decode cX4_parse 96 = .ok (.bipush (-20), 2) := bdX4_parse_89.2.2.2.1
theorem dX4_parse_98 : decode cX4_parse 98 = .ok (.aload_n 0, 1) := bdX4_parse_89.2.2.2.2.1
theorem dX4_parse_99 : decode cX4_parse 99 = .ok (.getfield 30, 3) := bdX4_parse_89.2.2.2.2.2.1
theorem dX4_parse_102 : decode cX4_parse 102 = .ok (.isub, 1) := bdX4_parse_89.2.2.2.2.2.2.1
theorem dX4_parse_103 : decode cX4_parse 103 = .ok (.ireturn, 1) := bdX4_parse_89.2.2.2.2.2.2.2
set_option maxHeartbeats 4000000 in
set_option maxRecDepth 100000 in
theorem k_X4_parse (l : Launch) (dC : Nat → ClassId) (dI : Nat → Nat → Nat) (h : Nat → Nat) (cs : Nat → ClassId) (sz : Nat) (I : Nat → Int32) (L : Nat → Int64) (A : Nat → Nat → Int32) (Q : Nat → Nat → Int64) (G : Nat → Nat → Nat → Int32) (J : Nat → Nat → Nat → Int64) (T : Nat) (hT : I 151 = nI T) (hT9 : T ≤ 90) (hnz : ∀ u : Nat, u < T → ¬ A 150 u = -1) : Met l yX4_parse wsX4_parse ({ frames := 3, cells := 0, slots := 0, locals := 83 }) (va_Pc [.ref (h 104)] (xPre (dC, dI) (wRead h cs I L A Q G J) (tysA cs) sz)) (va_Qi (fun (r : Int32) (u : CS) => ∃ i166 : Int32, ∃ i167 : Int32, ∃ i168 : Int32, ∃ i169 : Int32, ∃ g1 : Nat → Nat → Int32, ((r = nI 0 ∧ ∃ h7 w7 : Nat, 1 ≤ h7 ∧ h7 ≤ 5 ∧ 1 ≤ w7 ∧ w7 ≤ 4 ∧ i166 = nI h7 ∧ i167 = nI w7 ∧ pR (A 150) T 20 0 0 0 0 (nI 0) h7 w7 g1) ∨ (∃ q : Nat, q ≤ T ∧ r = -20 - nI q ∧ pR (A 150) T 20 0 0 0 0 (-20 - nI q) 0 0 g1)) ∧ u = ((va_up (va_up (va_up (va_up I 166 i166) 167 i167) 168 i168) 169 i169), L, A, Q, (va_up G 1 g1), J)) (xB (dC, dI) (tysA cs) (va_A (wRead h cs I L A Q G J) sz) (fun u : CS => wRead h cs u.1 u.2.1 u.2.2.1 u.2.2.2.1 u.2.2.2.2.1 u.2.2.2.2.2)) (va_A (wRead h cs I L A Q G J) sz)) 0 0 (va_A (wRead h cs I L A Q G J) sz) := by
  refine Met.ofW (cc := cX4_parse) (maxL := 2) (ret := (some .int)) (by decide) rfl ?_
  intro p e s m args below meth c s₁ B hml hv
  obtain ⟨rfl, hsz, hP, hK, hD0, hN⟩ := hv
  have hx := B.exec
  have hb := B.bytes
  have hr := B.returns
  have hts := atoms_spec (ws := wsX4_parse) B.pre
  have hown : s.vm.findClass RX4 = some m.cls := findClass_of_methodNamed B.named
  have hlocks := B.notSynchronized
  subst hsz
  have hD := hD0.self (sz := s.heap.size)
  generalize hAe : va_A (wRead h cs I L A Q G J) s.heap.size = A0 at hD ⊢
  have hA : ∀ q : Nat, s.heap.size ≤ q → A0 q := fun q h => by rw [← hAe]; exact Or.inr h
  have hl := lv_entry ([.ref (h 104)]) (n := 2) (Nat.le_of_ble_eq_true rfl)
  rw [lg_entry_eq]
  generalize (lg_sl ([.ref (h 104)]) ++ List.replicate (2 - (lg_sl ([.ref (h 104)])).length) Slot.unset).toArray = ls at hl ⊢
  have hl : lv_has ls 2 [(0, .ref (h 104))] := hl
  generalize hH : s.heap = H at hP ⊢
  have hS : va_S A0 s.heap H [] := by rw [← hH]; exact va_S.rf
  have hinX4 : ∀ w ∈ wsX40, w ∈ wsX4_parse := by decide +kernel
  refine lv_aload_n hx hb dX4_parse_0 rfl (lv_at hl 0 rfl) ?_
  refine lv_iconst (v := nI 0) hx hb dX4_parse_1 (by decide) ?_
  refine va_put (D := (dC, dI)) (ci := 4) (v := .int (nI 0)) (ty := .int) (C := RX4) (T := TX4) (N := 6) hx hb hts hinX4 tyX4 tyX4_ok nmX4 hown hK hP hD hS 0 rfl rfl 2 (by decide) (hts (.fieldLink RX4 20 "MixedWords$Reader" "height" "I") (by decide +kernel)) (fun _ h9 => h9) rfl (by decide +kernel) rfl rfl (Nat.le_of_ble_eq_true rfl) dX4_parse_2 (fun H locs hP hD hS => ?_)
  have hP : va_P (dC, dI) vwCl (wRead h cs (va_up I 166 (nI 0)) L A Q G J) H := hP
  have hD : va_D A0 (wRead h cs (va_up I 166 (nI 0)) L A Q G J) := hD
  refine lv_aload_n hx hb dX4_parse_5 rfl (lv_at hl 0 rfl) ?_
  refine lv_iconst (v := nI 0) hx hb dX4_parse_6 (by decide) ?_
  refine va_put (D := (dC, dI)) (ci := 4) (v := .int (nI 0)) (ty := .int) (C := RX4) (T := TX4) (N := 6) hx hb hts hinX4 tyX4 tyX4_ok nmX4 hown hK hP hD hS 0 rfl rfl 3 (by decide) (hts (.fieldLink RX4 24 "MixedWords$Reader" "width" "I") (by decide +kernel)) (fun _ h9 => h9) rfl (by decide +kernel) rfl rfl (Nat.le_of_ble_eq_true rfl) dX4_parse_7 (fun H locs hP hD hS => ?_)
  have hP : va_P (dC, dI) vwCl (wRead h cs (va_up (va_up I 166 (nI 0)) 167 (nI 0)) L A Q G J) H := hP
  have hD : va_D A0 (wRead h cs (va_up (va_up I 166 (nI 0)) 167 (nI 0)) L A Q G J) := hD
  refine lv_aload_n hx hb dX4_parse_10 rfl (lv_at hl 0 rfl) ?_
  refine lv_iconst (v := nI 0) hx hb dX4_parse_11 (by decide) ?_
  refine va_put (D := (dC, dI)) (ci := 4) (v := .int (nI 0)) (ty := .int) (C := RX4) (T := TX4) (N := 6) hx hb hts hinX4 tyX4 tyX4_ok nmX4 hown hK hP hD hS 0 rfl rfl 4 (by decide) (hts (.fieldLink RX4 27 "MixedWords$Reader" "inRow" "I") (by decide +kernel)) (fun _ h9 => h9) rfl (by decide +kernel) rfl rfl (Nat.le_of_ble_eq_true rfl) dX4_parse_12 (fun H locs hP hD hS => ?_)
  have hP : va_P (dC, dI) vwCl (wRead h cs (va_up (va_up (va_up I 166 (nI 0)) 167 (nI 0)) 168 (nI 0)) L A Q G J) H := hP
  have hD : va_D A0 (wRead h cs (va_up (va_up (va_up I 166 (nI 0)) 167 (nI 0)) 168 (nI 0)) L A Q G J) := hD
  refine lv_aload_n hx hb dX4_parse_15 rfl (lv_at hl 0 rfl) ?_
  refine lv_iconst (v := nI 0) hx hb dX4_parse_16 (by decide) ?_
  refine va_put (D := (dC, dI)) (ci := 4) (v := .int (nI 0)) (ty := .int) (C := RX4) (T := TX4) (N := 6) hx hb hts hinX4 tyX4 tyX4_ok nmX4 hown hK hP hD hS 0 rfl rfl 5 (by decide) (hts (.fieldLink RX4 30 "MixedWords$Reader" "place" "I") (by decide +kernel)) (fun _ h9 => h9) rfl (by decide +kernel) rfl rfl (Nat.le_of_ble_eq_true rfl) dX4_parse_17 (fun H locs hP hD hS => ?_)
  have hP : va_P (dC, dI) vwCl (wRead h cs (va_up (va_up (va_up (va_up I 166 (nI 0)) 167 (nI 0)) 168 (nI 0)) 169 (nI 0)) L A Q G J) H := hP
  have hD : va_D A0 (wRead h cs (va_up (va_up (va_up (va_up I 166 (nI 0)) 167 (nI 0)) 168 (nI 0)) 169 (nI 0)) L A Q G J) := hD
  refine lv_iconst (v := nI 0) hx hb dX4_parse_20 (by decide) ?_
  refine lv_istore_n (lv' := [(1, .int (nI 0)), (0, .ref (h 104))]) hx hb dX4_parse_21 rfl hl (by decide) rfl (fun ls hl => ?_)
  have cut_22 : ∀ (nf : Nat) (n : Nat) (h6 : Nat) (w6 : Nat) (r6 : Nat) (q : Nat) (g1 : Nat → Nat → Int32), (20 - n) < nf → (n ≤ 20) → (h6 ≤ 4) → (w6 ≤ 4) → (r6 ≤ 3) → (q ≤ T) → (n = h6 * w6 + r6) → (KP (A 150) T n h6 w6 r6 q g1) → ∀ (H : Heap) (locs : List Loc) (ls : Array Slot), va_P (dC, dI) vwCl (wRead h cs (va_up (va_up (va_up (va_up I 166 (nI h6)) 167 (nI w6)) 168 (nI r6)) 169 (nI q)) L A Q (va_up G 1 g1) J) H → va_D A0 (wRead h cs (va_up (va_up (va_up (va_up I 166 (nI h6)) 167 (nI w6)) 168 (nI r6)) 169 (nI q)) L A Q (va_up G 1 g1) J) → va_S A0 s.heap H locs → lv_has ls 2 [(0, .ref (h 104)), (1, .int (nI n))] → W p l e (headSpec wsX4_parse ({ frames := 3, cells := 0, slots := 0, locals := 83 })).room s m ([.ref (h 104)] : List Value).toArray below meth c H locs 0 0 (MQ below (va_Qi (fun (r : Int32) (u : CS) => ∃ i166 : Int32, ∃ i167 : Int32, ∃ i168 : Int32, ∃ i169 : Int32, ∃ g1 : Nat → Nat → Int32, ((r = nI 0 ∧ ∃ h7 w7 : Nat, 1 ≤ h7 ∧ h7 ≤ 5 ∧ 1 ≤ w7 ∧ w7 ≤ 4 ∧ i166 = nI h7 ∧ i167 = nI w7 ∧ pR (A 150) T 20 0 0 0 0 (nI 0) h7 w7 g1) ∨ (∃ q : Nat, q ≤ T ∧ r = -20 - nI q ∧ pR (A 150) T 20 0 0 0 0 (-20 - nI q) 0 0 g1)) ∧ u = ((va_up (va_up (va_up (va_up I 166 i166) 167 i167) 168 i168) 169 i169), L, A, Q, (va_up G 1 g1), J)) (xB (dC, dI) (tysA cs) A0 (fun u : CS => wRead h cs u.1 u.2.1 u.2.2.1 u.2.2.2.1 u.2.2.2.2.1 u.2.2.2.2.2)) A0) ([.ref (h 104)] : List Value).toArray s 0 0 A0) (F0 m 22 ls []) := by
    intro nf
    induction nf with
    | zero => intro n h6 w6 r6 q g1 hm; exact absurd hm (Nat.not_lt_zero _)
    | succ nf ih_22 =>
      intro n h6 w6 r6 q g1 hm_22 hn22 hh22 hw22 hr22 hq22 he22 hK22 H locs ls hP hD hS hl
      refine lv_iload_n hx hb dX4_parse_22 rfl (lv_at hl 1 rfl) ?_
      refine lv_bipush (v := nI 20) hx hb dX4_parse_23 (by decide) ?_
      refine xn_ge (tgt := 96) hx hb dX4_parse_25 (by decide) (by omega) (by omega) (fun c_25_0 => ?_) (fun c_25_0 => ?_)
      · skip
        exact absurd (Nat.mul_le_mul hh22 hw22) (by omega)
      · skip
        refine lv_aload_n hx hb dX4_parse_28 rfl (lv_at hl 0 rfl) ?_
        refine xj_i (wc := (wRead h cs (va_up (va_up (va_up (va_up I 166 (nI h6)) 167 (nI w6)) 168 (nI r6)) 169 (nI q)) L A Q (va_up G 1 g1) J)) (wr := ([] : va_W)) hP hD hS hA [0, 1, 2, 3, 4, 5, 6, 7, 8] [] rfl rfl (by decide +kernel) (by decide +kernel) (va_runV (As := []) (rest := []) ⟨hx, hb, hml, hown, hts⟩ (k_X4_takeNumber l dC dI h cs H.size (va_up (va_up (va_up (va_up I 166 (nI h6)) 167 (nI w6)) 168 (nI r6)) 169 (nI q)) L A Q (va_up G 1 g1) J T q h6 r6 hT (by first | assumption | omega | exact hT9) rfl (by first | assumption | omega) rfl (by first | assumption | omega) rfl (by first | assumption | omega)) (cwV 0 hts gX4_parse_X4_takeNumber rfl rfl rfl (by decide +kernel) ⟨Nat.le_of_ble_eq_true rfl, Nat.le_of_ble_eq_true rfl⟩) (xpV (wc := (wRead h cs (va_up (va_up (va_up (va_up I 166 (nI h6)) 167 (nI w6)) 168 (nI r6)) 169 (nI q)) L A Q (va_up G 1 g1) J)) hP hD hK hN [0, 1, 2, 3, 4, 5, 6, 7, 8] rfl (by decide) 0 (ci := 4) rfl rfl _) rfl rfl hl.1 rfl (lv_room (Nat.le_of_ble_eq_true rfl)) dX4_parse_29 ⟨Nat.zero_le _, Nat.zero_le _⟩) (fun r_3 u_2 H locs hw hP hD hS => ?_)
        obtain ⟨i169_4, i168_5, g1_6, hf_7, rfl⟩ := hw
        have hP : va_P (dC, dI) vwCl (wRead h cs (va_up (va_up (va_up (va_up I 166 (nI h6)) 167 (nI w6)) 169 i169_4) 168 i168_5) L A Q (va_up G 1 g1_6) J) H := hP
        have hD : va_D A0 (wRead h cs (va_up (va_up (va_up (va_up I 166 (nI h6)) 167 (nI w6)) 169 i169_4) 168 i168_5) L A Q (va_up G 1 g1_6) J) := hD
        rcases hf_7 with ⟨rfl, rfl, qo, vo, hqo, hqp, rfl, hok, rfl⟩ | ⟨rfl, rfl, eg, qb, hqb, rfl, hbad⟩
        · skip
          refine lv_if_ne (tgt := 43) hx hb dX4_parse_32 (by decide) (fun _ => ?_) (fun c9 => False.elim (by revert c9; decide +kernel))
          refine lv_aload_n hx hb dX4_parse_43 rfl (lv_at hl 0 rfl) ?_
          refine xj_v (wc := (wRead h cs (va_up (va_up (va_up (va_up I 166 (nI h6)) 167 (nI w6)) 169 (nI qo)) 168 (nI (r6 + 1))) L A Q (va_up G 1 (va_up g1 h6 (upd (g1 h6) r6 vo))) J)) (wr := ([] : va_W)) hP hD hS hA [0, 1, 2, 3, 4, 5, 6, 7, 8] [] rfl rfl (by decide +kernel) (by decide +kernel) (va_runV (As := []) (rest := []) ⟨hx, hb, hml, hown, hts⟩ (k_X4_skipBlanks l dC dI h cs H.size (va_up (va_up (va_up (va_up I 166 (nI h6)) 167 (nI w6)) 169 (nI qo)) 168 (nI (r6 + 1))) L A Q (va_up G 1 (va_up g1 h6 (upd (g1 h6) r6 vo))) J T qo hT (by first | assumption | omega | exact hT9) rfl (by first | assumption | omega)) (cwV 0 hts gX4_parse_X4_skipBlanks rfl rfl rfl (by decide +kernel) ⟨Nat.le_of_ble_eq_true rfl, Nat.le_of_ble_eq_true rfl⟩) (xpV (wc := (wRead h cs (va_up (va_up (va_up (va_up I 166 (nI h6)) 167 (nI w6)) 169 (nI qo)) 168 (nI (r6 + 1))) L A Q (va_up G 1 (va_up g1 h6 (upd (g1 h6) r6 vo))) J)) hP hD hK hN [0, 1, 2, 3, 4, 5, 6, 7, 8] rfl (by decide) 0 (ci := 4) rfl rfl _) rfl rfl hl.1 rfl (lv_room (Nat.le_of_ble_eq_true rfl)) dX4_parse_44 ⟨Nat.zero_le _, Nat.zero_le _⟩) (fun u_8 H locs hw hP hD hS => ?_)
          obtain ⟨i169_10, hf_11, rfl⟩ := hw
          have hP : va_P (dC, dI) vwCl (wRead h cs (va_up (va_up (va_up (va_up I 166 (nI h6)) 167 (nI w6)) 168 (nI (r6 + 1))) 169 i169_10) L A Q (va_up G 1 (va_up g1 h6 (upd (g1 h6) r6 vo))) J) H := hP
          have hD : va_D A0 (wRead h cs (va_up (va_up (va_up (va_up I 166 (nI h6)) 167 (nI w6)) 168 (nI (r6 + 1))) 169 i169_10) L A Q (va_up G 1 (va_up g1 h6 (upd (g1 h6) r6 vo))) J) := hD
          obtain ⟨q_12, hsp, rfl⟩ := hf_11
          have hspT := hsp.2.1
          have hspA := hsp.1
          refine lv_aload_n hx hb dX4_parse_47 rfl (lv_at hl 0 rfl) ?_
          refine va_get (D := (dC, dI)) (ci := 4) (v := .ref (h 103)) (C := RX4) (T := TX4) (N := 6) hx hb hts hinX4 hown hK hP 0 rfl rfl 0 (by decide) (hts (.fieldLink RX4 16 "MixedWords$Reader" "tape" "LMixedWords$Tape;") (by decide +kernel)) (fun _ h9 => h9) rfl dX4_parse_48 ?_
          refine lv_aload_n hx hb dX4_parse_51 rfl (lv_at hl 0 rfl) ?_
          refine va_get (D := (dC, dI)) (ci := 4) (v := .int (nI q_12)) (C := RX4) (T := TX4) (N := 6) hx hb hts hinX4 hown hK hP 0 rfl rfl 5 (by decide) (hts (.fieldLink RX4 30 "MixedWords$Reader" "place" "I") (by decide +kernel)) (fun _ h9 => h9) rfl dX4_parse_52 ?_
          refine xj_i (wc := (wTape h cs (va_up (va_up (va_up (va_up I 166 (nI h6)) 167 (nI w6)) 168 (nI (r6 + 1))) 169 (nI q_12)) L A Q (va_up G 1 (va_up g1 h6 (upd (g1 h6) r6 vo))) J)) (wr := [(h 104, .inr (4, [.ref (h 103), .ref (h 160), .int (nI h6), .int (nI w6), .int (nI (r6 + 1)), .int (nI q_12)])), (h 160, .inl (cs 3, 5, .inr (.inr (.inr (.inr (fun i => if i < 5 then some (h (i + 161)) else none)))))), (h 161, .inl (cs 0, 4, .inl ((va_up g1 h6 (upd (g1 h6) r6 vo)) 0))), (h 162, .inl (cs 0, 4, .inl ((va_up g1 h6 (upd (g1 h6) r6 vo)) 1))), (h 163, .inl (cs 0, 4, .inl ((va_up g1 h6 (upd (g1 h6) r6 vo)) 2))), (h 164, .inl (cs 0, 4, .inl ((va_up g1 h6 (upd (g1 h6) r6 vo)) 3))), (h 165, .inl (cs 0, 4, .inl ((va_up g1 h6 (upd (g1 h6) r6 vo)) 4)))]) hP hD hS hA [7, 8] [0, 1, 2, 3, 4, 5, 6] rfl rfl (by decide +kernel) (by decide +kernel) (va_runV (As := [.int (nI q_12)]) (rest := []) ⟨hx, hb, hml, hown, hts⟩ (k_X7_at l dC dI h cs H.size (va_up (va_up (va_up (va_up I 166 (nI h6)) 167 (nI w6)) 168 (nI (r6 + 1))) 169 (nI q_12)) L A Q (va_up G 1 (va_up g1 h6 (upd (g1 h6) r6 vo))) J (nI q_12) T hT (by first | assumption | omega | exact hT9)) (cwV 1 hts gX4_parse_X7_at rfl rfl rfl (by decide +kernel) ⟨Nat.le_of_ble_eq_true rfl, Nat.le_of_ble_eq_true rfl⟩) (xpV (wc := (wTape h cs (va_up (va_up (va_up (va_up I 166 (nI h6)) 167 (nI w6)) 168 (nI (r6 + 1))) 169 (nI q_12)) L A Q (va_up G 1 (va_up g1 h6 (upd (g1 h6) r6 vo))) J)) hP hD hK hN [7, 8] rfl (by decide) 7 (ci := 7) rfl rfl _) rfl rfl hl.1 rfl (lv_room (Nat.le_of_ble_eq_true rfl)) dX4_parse_55 ⟨Nat.zero_le _, Nat.zero_le _⟩) (fun r_14 u_13 H locs hw hP hD hS => ?_)
          obtain ⟨hf_15, rfl⟩ := hw
          have hP : va_P (dC, dI) vwCl (wRead h cs (va_up (va_up (va_up (va_up I 166 (nI h6)) 167 (nI w6)) 168 (nI (r6 + 1))) 169 (nI q_12)) L A Q (va_up G 1 (va_up g1 h6 (upd (g1 h6) r6 vo))) J) H := hP
          have hD : va_D A0 (wRead h cs (va_up (va_up (va_up (va_up I 166 (nI h6)) 167 (nI w6)) 168 (nI (r6 + 1))) 169 (nI q_12)) L A Q (va_up G 1 (va_up g1 h6 (upd (g1 h6) r6 vo))) J) := hD
          have hat := at_c (by omega) (by omega) hf_15
          clear hf_15
          refine lv_iconst (v := (-1)) hx hb dX4_parse_58 (by decide) ?_
          refine lv_icmp_ne (tgt := 75) hx hb dX4_parse_59 (by decide) (fun c_59_15 => ?_) (fun c_59_15 => ?_)
          · skip
            refine lv_aload_n hx hb dX4_parse_75 rfl (lv_at hl 0 rfl) ?_
            refine xj_i (wc := (wRead h cs (va_up (va_up (va_up (va_up I 166 (nI h6)) 167 (nI w6)) 168 (nI (r6 + 1))) 169 (nI q_12)) L A Q (va_up G 1 (va_up g1 h6 (upd (g1 h6) r6 vo))) J)) (wr := ([] : va_W)) hP hD hS hA [0, 1, 2, 3, 4, 5, 6, 7, 8] [] rfl rfl (by decide +kernel) (by decide +kernel) (va_runV (As := []) (rest := []) ⟨hx, hb, hml, hown, hts⟩ (k_X4_takeSign l dC dI h cs H.size (va_up (va_up (va_up (va_up I 166 (nI h6)) 167 (nI w6)) 168 (nI (r6 + 1))) 169 (nI q_12)) L A Q (va_up G 1 (va_up g1 h6 (upd (g1 h6) r6 vo))) J T q_12 h6 w6 (r6 + 1) hT (by first | assumption | omega | exact hT9) rfl (by first | assumption | omega) rfl (by first | assumption | omega) rfl (by first | assumption | omega) rfl (by first | assumption | omega)) (cwV 0 hts gX4_parse_X4_takeSign rfl rfl rfl (by decide +kernel) ⟨Nat.le_of_ble_eq_true rfl, Nat.le_of_ble_eq_true rfl⟩) (xpV (wc := (wRead h cs (va_up (va_up (va_up (va_up I 166 (nI h6)) 167 (nI w6)) 168 (nI (r6 + 1))) 169 (nI q_12)) L A Q (va_up G 1 (va_up g1 h6 (upd (g1 h6) r6 vo))) J)) hP hD hK hN [0, 1, 2, 3, 4, 5, 6, 7, 8] rfl (by decide) 0 (ci := 4) rfl rfl _) rfl rfl hl.1 rfl (lv_room (Nat.le_of_ble_eq_true rfl)) dX4_parse_76 ⟨Nat.zero_le _, Nat.zero_le _⟩) (fun r_18 u_17 H locs hw hP hD hS => ?_)
            obtain ⟨i166_19, i167_20, i168_21, i169_22, hf_23, rfl⟩ := hw
            have hP : va_P (dC, dI) vwCl (wRead h cs (va_up (va_up (va_up (va_up I 166 i166_19) 167 i167_20) 168 i168_21) 169 i169_22) L A Q (va_up G 1 (va_up g1 h6 (upd (g1 h6) r6 vo))) J) H := hP
            have hD : va_D A0 (wRead h cs (va_up (va_up (va_up (va_up I 166 i166_19) 167 i167_20) 168 i168_21) 169 i169_22) L A Q (va_up G 1 (va_up g1 h6 (upd (g1 h6) r6 vo))) J) := hD
            rcases hf_23 with ⟨rfl, hsg1, hsg2, rfl, rfl, rfl, rfl⟩ | ⟨rfl, hsg1, hsg2, hsg3, rfl, rfl, rfl, rfl⟩ | ⟨rfl, hsg1, hsg2, rfl, rfl, rfl, rfl⟩
            · skip
              have hsgT := hsg1.1
              have hsgL : (r6 + 1) ≤ 3 := by split at hsg2 <;> omega
              refine lv_if_ne (tgt := 90) hx hb dX4_parse_79 (by decide) (fun _ => ?_) (fun c9 => False.elim (by revert c9; decide +kernel))
              refine lv_iinc (v := nI (n + 1)) (lv' := [(1, .int (nI (n + 1))), (0, .ref (h 104))]) hx hb dX4_parse_90 hl (k := 1) rfl (nI_1 _) (by decide) rfl (fun ls hl => ?_)
              refine lv_goto (tgt := 22) hx hb dX4_parse_93 (by decide) ?_
              exact ih_22 (n + 1) h6 w6 (r6 + 1) (q_12 + 1) (va_up g1 h6 (upd (g1 h6) r6 vo)) (by omega) (by omega) (by first | assumption | omega) (by first | assumption | omega) (by first | assumption | omega) (by first | assumption | omega) (by first | rfl | exact num_com he22 | exact num_sem he22 hsg2) (by first | exact KP_0 | exact KP_com (by omega) hK22 hok hsp hsg1 hsg2 | exact KP_sem (by omega) hK22 hok hsp hsg1 hsg2 hsg3) _ _ _ hP hD hS (lv_sub hl [1, 0] rfl)
            · skip
              have hsgT := hsg1.1
              refine lv_if_ne (tgt := 90) hx hb dX4_parse_79 (by decide) (fun _ => ?_) (fun c9 => False.elim (by revert c9; decide +kernel))
              refine lv_iinc (v := nI (n + 1)) (lv' := [(1, .int (nI (n + 1))), (0, .ref (h 104))]) hx hb dX4_parse_90 hl (k := 1) rfl (nI_1 _) (by decide) rfl (fun ls hl => ?_)
              refine lv_goto (tgt := 22) hx hb dX4_parse_93 (by decide) ?_
              exact ih_22 (n + 1) (h6 + 1) (r6 + 1) 0 (q_12 + 1) (va_up g1 h6 (upd (g1 h6) r6 vo)) (by omega) (by omega) (by first | assumption | omega) (by first | assumption | omega) (by first | assumption | omega) (by first | assumption | omega) (by first | rfl | exact num_com he22 | exact num_sem he22 hsg2) (by first | exact KP_0 | exact KP_com (by omega) hK22 hok hsp hsg1 hsg2 | exact KP_sem (by omega) hK22 hok hsp hsg1 hsg2 hsg3) _ _ _ hP hD hS (lv_sub hl [1, 0] rfl)
            · skip
              refine lv_if_ne (tgt := 90) hx hb dX4_parse_79 (by decide) (fun c9 => False.elim (by revert c9; decide +kernel)) (fun _ => ?_)
              refine lv_bipush (v := (-20)) hx hb dX4_parse_82 (by decide) ?_
              refine lv_aload_n hx hb dX4_parse_84 rfl (lv_at hl 0 rfl) ?_
              refine va_get (D := (dC, dI)) (ci := 4) (v := .int (nI q_12)) (C := RX4) (T := TX4) (N := 6) hx hb hts hinX4 hown hK hP 0 rfl rfl 5 (by decide) (hts (.fieldLink RX4 30 "MixedWords$Reader" "place" "I") (by decide +kernel)) (fun _ h9 => h9) rfl dX4_parse_85 ?_
              refine lv_isub hx hb dX4_parse_88 ?_
              exact xr_i (v := ((-20) - (nI q_12))) hx hb hr hlocks hK hS dX4_parse_89 ((va_up (va_up (va_up (va_up I 166 (nI h6)) 167 (nI w6)) 168 (nI (r6 + 1))) 169 (nI q_12)), L, A, Q, (va_up G 1 (va_up g1 h6 (upd (g1 h6) r6 vo))), J) ⟨(nI h6), (nI w6), (nI (r6 + 1)), (nI q_12), (va_up g1 h6 (upd (g1 h6) r6 vo)), (Or.inr ⟨q_12, by omega, rfl, KP_flt (by omega) hK22 hok hsp (fun q9 => by first | exact absurd ((end_c hnz hat).mpr q9.1) (by assumption) | exact absurd q9.2 hrw) hsg1 hsg2⟩), rfl⟩ hP hD
          · skip
            refine lv_aload_n hx hb dX4_parse_62 rfl (lv_at hl 0 rfl) ?_
            refine xj_i (wc := (wRead h cs (va_up (va_up (va_up (va_up I 166 (nI h6)) 167 (nI w6)) 168 (nI (r6 + 1))) 169 (nI q_12)) L A Q (va_up G 1 (va_up g1 h6 (upd (g1 h6) r6 vo))) J)) (wr := ([] : va_W)) hP hD hS hA [0, 1, 2, 3, 4, 5, 6, 7, 8] [] rfl rfl (by decide +kernel) (by decide +kernel) (va_runV (As := []) (rest := []) ⟨hx, hb, hml, hown, hts⟩ (k_X4_isRowWhole l dC dI h cs H.size (va_up (va_up (va_up (va_up I 166 (nI h6)) 167 (nI w6)) 168 (nI (r6 + 1))) 169 (nI q_12)) L A Q (va_up G 1 (va_up g1 h6 (upd (g1 h6) r6 vo))) J h6 w6 (r6 + 1) rfl (by first | assumption | omega) rfl (by first | assumption | omega) rfl (by first | assumption | omega)) (cwV 0 hts gX4_parse_X4_isRowWhole rfl rfl rfl (by decide +kernel) ⟨Nat.le_of_ble_eq_true rfl, Nat.le_of_ble_eq_true rfl⟩) (xpV (wc := (wRead h cs (va_up (va_up (va_up (va_up I 166 (nI h6)) 167 (nI w6)) 168 (nI (r6 + 1))) 169 (nI q_12)) L A Q (va_up G 1 (va_up g1 h6 (upd (g1 h6) r6 vo))) J)) hP hD hK hN [0, 1, 2, 3, 4, 5, 6, 7, 8] rfl (by decide) 0 (ci := 4) rfl rfl _) rfl rfl hl.1 rfl (lv_room (Nat.le_of_ble_eq_true rfl)) dX4_parse_63 ⟨Nat.zero_le _, Nat.zero_le _⟩) (fun r_25 u_24 H locs hw hP hD hS => ?_)
            obtain ⟨hf_26, rfl⟩ := hw
            have hP : va_P (dC, dI) vwCl (wRead h cs (va_up (va_up (va_up (va_up I 166 (nI h6)) 167 (nI w6)) 168 (nI (r6 + 1))) 169 (nI q_12)) L A Q (va_up G 1 (va_up g1 h6 (upd (g1 h6) r6 vo))) J) H := hP
            have hD : va_D A0 (wRead h cs (va_up (va_up (va_up (va_up I 166 (nI h6)) 167 (nI w6)) 168 (nI (r6 + 1))) 169 (nI q_12)) L A Q (va_up G 1 (va_up g1 h6 (upd (g1 h6) r6 vo))) J) := hD
            rcases hf_26 with ⟨rfl, hrw⟩ | ⟨rfl, hrw⟩
            · skip
              refine lv_if_eq (tgt := 75) hx hb dX4_parse_66 (by decide) (fun c9 => False.elim (by revert c9; decide +kernel)) (fun _ => ?_)
              refine lv_aload_n hx hb dX4_parse_69 rfl (lv_at hl 0 rfl) ?_
              refine xj_v (wc := (wRead h cs (va_up (va_up (va_up (va_up I 166 (nI h6)) 167 (nI w6)) 168 (nI (r6 + 1))) 169 (nI q_12)) L A Q (va_up G 1 (va_up g1 h6 (upd (g1 h6) r6 vo))) J)) (wr := ([] : va_W)) hP hD hS hA [0, 1, 2, 3, 4, 5, 6, 7, 8] [] rfl rfl (by decide +kernel) (by decide +kernel) (va_runV (As := []) (rest := []) ⟨hx, hb, hml, hown, hts⟩ (k_X4_endRow l dC dI h cs H.size (va_up (va_up (va_up (va_up I 166 (nI h6)) 167 (nI w6)) 168 (nI (r6 + 1))) 169 (nI q_12)) L A Q (va_up G 1 (va_up g1 h6 (upd (g1 h6) r6 vo))) J h6 (r6 + 1) rfl (by first | assumption | omega) rfl (by first | assumption | omega)) (cwV 0 hts gX4_parse_X4_endRow rfl rfl rfl (by decide +kernel) ⟨Nat.le_of_ble_eq_true rfl, Nat.le_of_ble_eq_true rfl⟩) (xpV (wc := (wRead h cs (va_up (va_up (va_up (va_up I 166 (nI h6)) 167 (nI w6)) 168 (nI (r6 + 1))) 169 (nI q_12)) L A Q (va_up G 1 (va_up g1 h6 (upd (g1 h6) r6 vo))) J)) hP hD hK hN [0, 1, 2, 3, 4, 5, 6, 7, 8] rfl (by decide) 0 (ci := 4) rfl rfl _) rfl rfl hl.1 rfl (lv_room (Nat.le_of_ble_eq_true rfl)) dX4_parse_70 ⟨Nat.zero_le _, Nat.zero_le _⟩) (fun u_27 H locs hw hP hD hS => ?_)
              obtain ⟨i167_29, i168_30, i166_31, hf_32, rfl⟩ := hw
              have hP : va_P (dC, dI) vwCl (wRead h cs (va_up (va_up (va_up (va_up I 169 (nI q_12)) 167 i167_29) 168 i168_30) 166 i166_31) L A Q (va_up G 1 (va_up g1 h6 (upd (g1 h6) r6 vo))) J) H := hP
              have hD : va_D A0 (wRead h cs (va_up (va_up (va_up (va_up I 169 (nI q_12)) 167 i167_29) 168 i168_30) 166 i166_31) L A Q (va_up G 1 (va_up g1 h6 (upd (g1 h6) r6 vo))) J) := hD
              obtain ⟨rfl, rfl, rfl⟩ := hf_32
              refine lv_iconst (v := nI 0) hx hb dX4_parse_73 (by decide) ?_
              exact xr_i (v := (nI 0)) hx hb hr hlocks hK hS dX4_parse_74 ((va_up (va_up (va_up (va_up I 166 (nI (h6 + 1))) 167 (nI (r6 + 1))) 168 (nI 0)) 169 (nI q_12)), L, A, Q, (va_up G 1 (va_up g1 h6 (upd (g1 h6) r6 vo))), J) ⟨(nI (h6 + 1)), (nI (r6 + 1)), (nI 0), (nI q_12), (va_up g1 h6 (upd (g1 h6) r6 vo)), (Or.inl ⟨rfl, h6 + 1, r6 + 1, by omega, by omega, by omega, by omega, rfl, rfl, KP_end (by omega) hK22 hok hsp ((end_c hnz hat).mp (by assumption)) hrw⟩), rfl⟩ hP hD
            · skip
              refine lv_if_eq (tgt := 75) hx hb dX4_parse_66 (by decide) (fun _ => ?_) (fun c9 => False.elim (by revert c9; decide +kernel))
              refine lv_aload_n hx hb dX4_parse_75 rfl (lv_at hl 0 rfl) ?_
              refine xj_i (wc := (wRead h cs (va_up (va_up (va_up (va_up I 166 (nI h6)) 167 (nI w6)) 168 (nI (r6 + 1))) 169 (nI q_12)) L A Q (va_up G 1 (va_up g1 h6 (upd (g1 h6) r6 vo))) J)) (wr := ([] : va_W)) hP hD hS hA [0, 1, 2, 3, 4, 5, 6, 7, 8] [] rfl rfl (by decide +kernel) (by decide +kernel) (va_runV (As := []) (rest := []) ⟨hx, hb, hml, hown, hts⟩ (k_X4_takeSign l dC dI h cs H.size (va_up (va_up (va_up (va_up I 166 (nI h6)) 167 (nI w6)) 168 (nI (r6 + 1))) 169 (nI q_12)) L A Q (va_up G 1 (va_up g1 h6 (upd (g1 h6) r6 vo))) J T q_12 h6 w6 (r6 + 1) hT (by first | assumption | omega | exact hT9) rfl (by first | assumption | omega) rfl (by first | assumption | omega) rfl (by first | assumption | omega) rfl (by first | assumption | omega)) (cwV 0 hts gX4_parse_X4_takeSign rfl rfl rfl (by decide +kernel) ⟨Nat.le_of_ble_eq_true rfl, Nat.le_of_ble_eq_true rfl⟩) (xpV (wc := (wRead h cs (va_up (va_up (va_up (va_up I 166 (nI h6)) 167 (nI w6)) 168 (nI (r6 + 1))) 169 (nI q_12)) L A Q (va_up G 1 (va_up g1 h6 (upd (g1 h6) r6 vo))) J)) hP hD hK hN [0, 1, 2, 3, 4, 5, 6, 7, 8] rfl (by decide) 0 (ci := 4) rfl rfl _) rfl rfl hl.1 rfl (lv_room (Nat.le_of_ble_eq_true rfl)) dX4_parse_76 ⟨Nat.zero_le _, Nat.zero_le _⟩) (fun r_34 u_33 H locs hw hP hD hS => ?_)
              obtain ⟨i166_35, i167_36, i168_37, i169_38, hf_39, rfl⟩ := hw
              have hP : va_P (dC, dI) vwCl (wRead h cs (va_up (va_up (va_up (va_up I 166 i166_35) 167 i167_36) 168 i168_37) 169 i169_38) L A Q (va_up G 1 (va_up g1 h6 (upd (g1 h6) r6 vo))) J) H := hP
              have hD : va_D A0 (wRead h cs (va_up (va_up (va_up (va_up I 166 i166_35) 167 i167_36) 168 i168_37) 169 i169_38) L A Q (va_up G 1 (va_up g1 h6 (upd (g1 h6) r6 vo))) J) := hD
              rcases hf_39 with ⟨rfl, hsg1, hsg2, rfl, rfl, rfl, rfl⟩ | ⟨rfl, hsg1, hsg2, hsg3, rfl, rfl, rfl, rfl⟩ | ⟨rfl, hsg1, hsg2, rfl, rfl, rfl, rfl⟩
              · skip
                have hsgT := hsg1.1
                have hsgL : (r6 + 1) ≤ 3 := by split at hsg2 <;> omega
                refine lv_if_ne (tgt := 90) hx hb dX4_parse_79 (by decide) (fun _ => ?_) (fun c9 => False.elim (by revert c9; decide +kernel))
                refine lv_iinc (v := nI (n + 1)) (lv' := [(1, .int (nI (n + 1))), (0, .ref (h 104))]) hx hb dX4_parse_90 hl (k := 1) rfl (nI_1 _) (by decide) rfl (fun ls hl => ?_)
                refine lv_goto (tgt := 22) hx hb dX4_parse_93 (by decide) ?_
                exact ih_22 (n + 1) h6 w6 (r6 + 1) (q_12 + 1) (va_up g1 h6 (upd (g1 h6) r6 vo)) (by omega) (by omega) (by first | assumption | omega) (by first | assumption | omega) (by first | assumption | omega) (by first | assumption | omega) (by first | rfl | exact num_com he22 | exact num_sem he22 hsg2) (by first | exact KP_0 | exact KP_com (by omega) hK22 hok hsp hsg1 hsg2 | exact KP_sem (by omega) hK22 hok hsp hsg1 hsg2 hsg3) _ _ _ hP hD hS (lv_sub hl [1, 0] rfl)
              · skip
                have hsgT := hsg1.1
                refine lv_if_ne (tgt := 90) hx hb dX4_parse_79 (by decide) (fun _ => ?_) (fun c9 => False.elim (by revert c9; decide +kernel))
                refine lv_iinc (v := nI (n + 1)) (lv' := [(1, .int (nI (n + 1))), (0, .ref (h 104))]) hx hb dX4_parse_90 hl (k := 1) rfl (nI_1 _) (by decide) rfl (fun ls hl => ?_)
                refine lv_goto (tgt := 22) hx hb dX4_parse_93 (by decide) ?_
                exact ih_22 (n + 1) (h6 + 1) (r6 + 1) 0 (q_12 + 1) (va_up g1 h6 (upd (g1 h6) r6 vo)) (by omega) (by omega) (by first | assumption | omega) (by first | assumption | omega) (by first | assumption | omega) (by first | assumption | omega) (by first | rfl | exact num_com he22 | exact num_sem he22 hsg2) (by first | exact KP_0 | exact KP_com (by omega) hK22 hok hsp hsg1 hsg2 | exact KP_sem (by omega) hK22 hok hsp hsg1 hsg2 hsg3) _ _ _ hP hD hS (lv_sub hl [1, 0] rfl)
              · skip
                refine lv_if_ne (tgt := 90) hx hb dX4_parse_79 (by decide) (fun c9 => False.elim (by revert c9; decide +kernel)) (fun _ => ?_)
                refine lv_bipush (v := (-20)) hx hb dX4_parse_82 (by decide) ?_
                refine lv_aload_n hx hb dX4_parse_84 rfl (lv_at hl 0 rfl) ?_
                refine va_get (D := (dC, dI)) (ci := 4) (v := .int (nI q_12)) (C := RX4) (T := TX4) (N := 6) hx hb hts hinX4 hown hK hP 0 rfl rfl 5 (by decide) (hts (.fieldLink RX4 30 "MixedWords$Reader" "place" "I") (by decide +kernel)) (fun _ h9 => h9) rfl dX4_parse_85 ?_
                refine lv_isub hx hb dX4_parse_88 ?_
                exact xr_i (v := ((-20) - (nI q_12))) hx hb hr hlocks hK hS dX4_parse_89 ((va_up (va_up (va_up (va_up I 166 (nI h6)) 167 (nI w6)) 168 (nI (r6 + 1))) 169 (nI q_12)), L, A, Q, (va_up G 1 (va_up g1 h6 (upd (g1 h6) r6 vo))), J) ⟨(nI h6), (nI w6), (nI (r6 + 1)), (nI q_12), (va_up g1 h6 (upd (g1 h6) r6 vo)), (Or.inr ⟨q_12, by omega, rfl, KP_flt (by omega) hK22 hok hsp (fun q9 => by first | exact absurd ((end_c hnz hat).mpr q9.1) (by assumption) | exact absurd q9.2 hrw) hsg1 hsg2⟩), rfl⟩ hP hD
        · skip
          refine lv_if_ne (tgt := 43) hx hb dX4_parse_32 (by decide) (fun c9 => False.elim (by revert c9; decide +kernel)) (fun _ => ?_)
          refine lv_bipush (v := (-20)) hx hb dX4_parse_35 (by decide) ?_
          refine lv_aload_n hx hb dX4_parse_37 rfl (lv_at hl 0 rfl) ?_
          refine va_get (D := (dC, dI)) (ci := 4) (v := .int (nI qb)) (C := RX4) (T := TX4) (N := 6) hx hb hts hinX4 hown hK hP 0 rfl rfl 5 (by decide) (hts (.fieldLink RX4 30 "MixedWords$Reader" "place" "I") (by decide +kernel)) (fun _ h9 => h9) rfl dX4_parse_38 ?_
          refine lv_isub hx hb dX4_parse_41 ?_
          exact xr_i (v := ((-20) - (nI qb))) hx hb hr hlocks hK hS dX4_parse_42 ((va_up (va_up (va_up (va_up I 166 (nI h6)) 167 (nI w6)) 168 (nI r6)) 169 (nI qb)), L, A, Q, (va_up G 1 g1_6), J) ⟨(nI h6), (nI w6), (nI r6), (nI qb), g1_6, (Or.inr ⟨qb, hqb, rfl, by rw [eg]; exact KP_bad (by omega) hK22 hbad⟩), rfl⟩ hP hD
  exact cut_22 _ 0 0 0 0 0 (G 1) (Nat.lt_succ_self _) (by omega) (by first | assumption | omega) (by first | assumption | omega) (by first | assumption | omega) (by first | assumption | omega) (by first | rfl | exact num_com he22 | exact num_sem he22 hsg2) (by first | exact KP_0 | exact KP_com (by omega) hK22 hok hsp hsg1 hsg2 | exact KP_sem (by omega) hK22 hok hsp hsg1 hsg2 hsg3) _ _ _ hP hD hS (lv_sub hl [1, 0] rfl)
