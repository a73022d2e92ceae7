
def pc4 (b : Nat) : Nat := b % 2 + b / 2 % 2 + b / 4 % 2 + b / 8 % 2
theorem bt_tab : ∀ b : Fin 16, ∀ c : Fin 4, bt1 (nI b.val) c.val = nI (b.val / 2 ^ c.val % 2) := by decide
theorem or_tab : ∀ b : Fin 16, ∀ c : Fin 4, b.val / 2 ^ c.val % 2 = 0 → nI b.val ||| (nI 1 <<< (nI c.val &&& 31)) = nI (b.val + 2 ^ c.val) ∧ pc4 (b.val + 2 ^ c.val) = pc4 b.val + 1 := by decide
theorem pc_tab : ∀ m : Fin 5, ∀ b : Fin 16, b.val < 2 ^ m.val → pc4 b.val < m.val → ∃ c : Fin 4, c.val < m.val ∧ b.val / 2 ^ c.val % 2 = 0 := by decide
theorem lt_tab : ∀ m : Fin 5, ∀ b : Fin 16, ∀ c : Fin 4, b.val < 2 ^ m.val → c.val < m.val → b.val / 2 ^ c.val % 2 = 0 → b.val + 2 ^ c.val < 2 ^ m.val := by decide
theorem ntF_or (d : Nat → Int32) (x : Int32) : ∀ k : Nat, (ntF d x k = -1 ∧ ∀ c : Nat, c < k → ¬ bt1 x c = nI 0) ∨ ∃ q : Nat, q < k ∧ ntF d x k = nI q ∧ bt1 x q = nI 0
  | 0 => Or.inl ⟨rfl, fun c h => absurd h (Nat.not_lt_zero c)⟩
  | k + 1 => by
    rw [ntF]
    by_cases g : bt1 x k = nI 0 ∧ (ntF d x k < 0 ∨ d (ntF d x k).toNatClampNeg < d k)
    · rw [if_pos g]
      exact Or.inr ⟨k, by omega, rfl, g.1⟩
    · rw [if_neg g]
      rcases ntF_or d x k with ⟨h1, h2⟩ | ⟨q, h1, h2, h3⟩
      · refine Or.inl ⟨h1, fun c hc hb => ?_⟩
        by_cases e : c = k
        · subst e
          exact g ⟨hb, Or.inl (by rw [h1]; decide)⟩
        · exact h2 c (by omega) hb
      · exact Or.inr ⟨q, by omega, h2, h3⟩
/-- the marks of those taken: k of them behind k rounds; one is left as long as k is below M -/
theorem tk_mask (d : Nat → Int32) {M : Nat} (hM : M ≤ 4) : ∀ k : Nat, k ≤ M → ∃ b : Nat, b < 2 ^ M ∧ tkB d M k = nI b ∧ pc4 b = k
  | 0, _ => ⟨0, Nat.lt_of_lt_of_le (by decide) (Nat.one_le_two_pow), rfl, rfl⟩
  | k + 1, hk => by
    obtain ⟨b, h1, h2, h3⟩ := tk_mask d hM k (by omega)
    have h16 : 2 ^ M ≤ 16 := Nat.pow_le_pow_right (by decide) hM
    obtain ⟨⟨c, hc4⟩, hc1, hc2⟩ := pc_tab ⟨M, by omega⟩ ⟨b, by omega⟩ h1 (by show pc4 b < M; omega)
    rcases ntF_or d (nI b) M with ⟨g1, g2⟩ | ⟨q, g1, g2, g3⟩
    · have h9 := bt_tab ⟨b, by omega⟩ ⟨c, hc4⟩
      rw [show b / 2 ^ c % 2 = 0 from hc2] at h9
      exact absurd h9 (g2 c hc1)
    · have h9 := bt_tab ⟨b, by omega⟩ ⟨q, by omega⟩
      have hz : b / 2 ^ q % 2 = 0 := by
        have h8 : nI (b / 2 ^ q % 2) = nI 0 := h9.symm.trans g3
        exact (nI_eq (by omega) (by decide)).mp h8
      obtain ⟨o1, o2⟩ := or_tab ⟨b, by omega⟩ ⟨q, by omega⟩ hz
      have o3 := lt_tab ⟨M, by omega⟩ ⟨b, by omega⟩ ⟨q, by omega⟩ h1 g1 hz
      refine ⟨b + 2 ^ q, o3, ?_, ?_⟩
      · rw [tkB, h2, g2]
        exact o1
      · rw [← h3]
        exact o2
theorem tk_next (d : Nat → Int32) {M k : Nat} (hM : M ≤ 4) (hk : k < M) : ∃ q : Nat, q < M ∧ ntF d (tkB d M k) M = nI q := by
  obtain ⟨b, h1, h2, h3⟩ := tk_mask d hM k (by omega)
  have h16 : 2 ^ M ≤ 16 := Nat.pow_le_pow_right (by decide) hM
  obtain ⟨⟨c, hc4⟩, hc1, hc2⟩ := pc_tab ⟨M, by omega⟩ ⟨b, by omega⟩ h1 (by show pc4 b < M; omega)
  rw [h2]
  rcases ntF_or d (nI b) M with ⟨g1, g2⟩ | ⟨q, g1, g2, g3⟩
  · have h9 := bt_tab ⟨b, by omega⟩ ⟨c, hc4⟩
    rw [show b / 2 ^ c % 2 = 0 from hc2] at h9
    exact absurd h9 (g2 c hc1)
  · exact ⟨q, g1, g2⟩
def sumF (co me : Nat → Int32) (q : Nat) : Int32 := nI 0 + co (5 * q + 0) * me 0 + co (5 * q + 1) * me 1 + co (5 * q + 2) * me 2 + co (5 * q + 3) * me 3 + co (5 * q + 4) * me 4
def letF (a : Nat) (co me : Nat → Int32) (q : Nat) : Int32 := if dotF co q q = 0 then -1 else nlG (sumF co me q).toInt64 (dotF co q q).toInt64 a (a - 1)
/-- the rounds of taking: what is left, and the letters -/
def tkR (a M : Nat) (co m0 : Nat → Int32) : Nat → (Nat → Int32) → (Nat → Int32) → Prop
  | 0, me, _ => ∀ t : Nat, t < 5 → me t = m0 t
  | k + 1, me, le => ∃ (me0 le0 : Nat → Int32) (q : Nat), tkR a M co m0 k me0 le0 ∧ q < M ∧ ntF (fun t => dotF co t t) (tkB (fun t => dotF co t t) M k) M = nI q ∧ le = upd le0 q (letF a co me0 q) ∧ ∀ t : Nat, t < 5 → me t = me0 t - letF a co me0 q * co (5 * q + t)
theorem met_s {g m : Nat → Int32} {v : Int32} {co : Nat → Int32} {k b : Nat} (h1 : ∀ t : Nat, t < k → g t = m t - v * co (b + t)) (h2 : ∀ t : Nat, k ≤ t → g t = m t) : (∀ t : Nat, t < k + 1 → upd g k (g k - v * co (b + k)) t = m t - v * co (b + t)) ∧ ∀ t : Nat, k + 1 ≤ t → upd g k (g k - v * co (b + k)) t = m t := by
  refine ⟨fun t ht => ?_, fun t ht => ?_⟩
  · by_cases e : t = k
    · subst e
      rw [pk_us, h2 t (Nat.le_refl t)]
    · rw [pk_un e]
      exact h1 t (by omega)
  · rw [pk_un (by omega)]
    exact h2 t (by omega)
set_option maxRecDepth 20000 in
theorem ggX10_taken_X10_lay : GoodIn wsX10_taken wsX10_lay := goodIn_r _ [9, 2, 1, 10, 11, 12, 34, 35, 36, 37, 38, 39, 40, 41, 42, 43, 44, 45, 46, 47, 48, 49, 50, 51, 52, 53, 54, 55, 56, 57, 58, 59, 60, 61] rfl (by decide +kernel)
set_option maxRecDepth 20000 in
theorem gX10_taken_X10_lay : GoodIn wsX10_taken (wsV RX10 172 RX10 yX10_lay wsX10_lay) := goodIn_app (goodIn_of _ (by decide +kernel)) ggX10_taken_X10_lay
set_option maxRecDepth 20000 in
theorem ggX10_taken_X10_meetHeard : GoodIn wsX10_taken wsX10_meetHeard := goodIn_r _ [16, 3, 10, 11, 34, 35, 36, 37, 38, 39, 40, 41, 42, 43, 44, 45, 46, 47, 48, 49, 50, 51, 52, 53, 54, 55, 56, 57, 58, 59, 60, 61] rfl (by decide +kernel)
set_option maxRecDepth 20000 in
theorem gX10_taken_X10_meetHeard : GoodIn wsX10_taken (wsV RX10 197 RX10 yX10_meetHeard wsX10_meetHeard) := goodIn_app (goodIn_of _ (by decide +kernel)) ggX10_taken_X10_meetHeard
set_option maxRecDepth 20000 in
theorem ggX10_taken_X10_nextTaken : GoodIn wsX10_taken wsX10_nextTaken := goodIn_r _ [20, 1, 21, 22, 23, 8, 24, 2, 34, 35, 36, 37, 38, 39, 40, 41, 42, 43, 44, 45, 46, 47, 48, 49, 50, 51, 52, 53, 54, 55, 56, 57, 58, 59, 60, 61] rfl (by decide +kernel)
set_option maxRecDepth 20000 in
theorem gX10_taken_X10_nextTaken : GoodIn wsX10_taken (wsV RX10 219 RX10 yX10_nextTaken wsX10_nextTaken) := goodIn_app (goodIn_of _ (by decide +kernel)) ggX10_taken_X10_nextTaken
set_option maxRecDepth 20000 in
theorem ggX10_taken_X10_dot : GoodIn wsX10_taken wsX10_dot := goodIn_r _ [24, 2, 34, 35, 36, 37, 38, 39, 40, 41, 42, 43, 44, 45, 46, 47, 48, 49, 50, 51, 52, 53, 54, 55, 56, 57, 58, 59, 60, 61] rfl (by decide +kernel)
set_option maxRecDepth 20000 in
theorem gX10_taken_X10_dot : GoodIn wsX10_taken (wsV RX10 175 RX10 yX10_dot wsX10_dot) := goodIn_app (goodIn_of _ (by decide +kernel)) ggX10_taken_X10_dot
set_option maxRecDepth 20000 in
theorem ggX10_taken_X10_nearestLetter : GoodIn wsX10_taken wsX10_nearestLetter := goodIn_r _ [28, 29, 34, 35, 36, 37, 38, 39, 40, 41, 42, 43, 44, 45, 46, 47, 48, 49, 50, 51, 52, 53, 54, 55, 56, 57, 58, 59, 60, 61] rfl (by decide +kernel)
set_option maxRecDepth 20000 in
theorem gX10_taken_X10_nearestLetter : GoodIn wsX10_taken (wsV RX10 203 RX10 yX10_nearestLetter wsX10_nearestLetter) := goodIn_app (goodIn_of _ (by decide +kernel)) ggX10_taken_X10_nearestLetter
set_option maxRecDepth 20000 in
theorem ggX10_taken_X10_numberOf : GoodIn wsX10_taken wsX10_numberOf := goodIn_r _ [33, 1, 29, 34, 35, 36, 37, 38, 39, 40, 41, 42, 43, 44, 45, 46, 47, 48, 49, 50, 51, 52, 53, 54, 55, 56, 57, 58, 59, 60, 61] rfl (by decide +kernel)
set_option maxRecDepth 20000 in
theorem gX10_taken_X10_numberOf : GoodIn wsX10_taken (wsV RX10 207 RX10 yX10_numberOf wsX10_numberOf) := goodIn_app (goodIn_of _ (by decide +kernel)) ggX10_taken_X10_numberOf
theorem bdX10_taken_0 : (decode cX10_taken 0 = .ok (.aload_n 0, 1)) ∧ (decode cX10_taken 1 = .ok (.invokevirtual 172, 3)) ∧ (decode cX10_taken 4 = .ok (.aload_n 0, 1)) ∧ (decode cX10_taken 5 = .ok (.invokevirtual 197, 3)) ∧ (decode cX10_taken 8 = .ok (.iconst 0, 1)) ∧ (decode cX10_taken 9 = .ok (.istore_n 1, 1)) ∧ (decode cX10_taken 10 = .ok (.iconst 0, 1)) ∧ (decode cX10_taken 11 = .ok (.istore_n 2, 1)) ∧ (decode cX10_taken 12 = .ok (.iload_n 2, 1)) ∧ (decode cX10_taken 13 = .ok (.aload_n 0, 1)) ∧ (decode cX10_taken 14 = .ok (.getfield 13, 3)) ∧ (decode cX10_taken 17 = .ok (.if_icmp .ge 139, 3)) ∧ (decode cX10_taken 20 = .ok (.aload_n 0, 1)) ∧ (decode cX10_taken 21 = .ok (.iload_n 1, 1)) ∧ (decode cX10_taken 22 = .ok (.invokevirtual 219, 3)) ∧ (decode cX10_taken 25 = .ok (.istore_n 3, 1)) := by decide +kernel
theorem dX10_taken_0 : decode cX10_taken 0 = .ok (.aload_n 0, 1) := bdX10_taken_0.1
theorem dX10_taken_1 : decode cX10_taken 1 = .ok (.invokevirtual 172, 3) := bdX10_taken_0.2.1
theorem dX10_taken_4 : decode cX10_taken 4 = .ok (.aload_n 0, 1) := bdX10_taken_0.2.2.1
theorem dX10_taken_5 : decode cX10_taken 5 = .ok (.invokevirtual 197, 3) := bdX10_taken_0.2.2.2.1
theorem dX10_taken_8 : decode cX10_taken 8 = .ok (.iconst 0, 1) := bdX10_taken_0.2.2.2.2.1
theorem dX10_taken_9 : decode cX10_taken 9 = .ok (.istore_n 1, 1) := bdX10_taken_0.2.2.2.2.2.1
theorem dX10_taken_10 : decode cX10_taken 10 = .ok (.iconst 0, 1) := bdX10_taken_0.2.2.2.2.2.2.1
theorem dX10_taken_11 : decode cX10_taken 11 = .ok (.istore_n 2, 1) := bdX10_taken_0.2.2.2.2.2.2.2.1
theorem dX10_taken_12 : decode cX10_taken 12 = .ok (.iload_n 2, 1) := bdX10_taken_0.2.2.2.2.2.2.2.2.1
theorem dX10_taken_13 : decode cX10_taken 13 = .ok (.aload_n 0, 1) := bdX10_taken_0.2.2.2.2.2.2.2.2.2.1
theorem dX10_taken_14 : decode cX10_taken 14 = .ok (.getfield 13, 3) := bdX10_taken_0.2.2.2.2.2.2.2.2.2.2.1
theorem dX10_taken_17 : decode cX10_taken 17 = .ok (.if_icmp .ge 139, 3) := bdX10_taken_0.2.2.2.2.2.2.2.2.2.2.2.1
theorem dX10_taken_20 : decode cX10_taken 20 = .ok (.aload_n 0, 1) := bdX10_taken_0.2.2.2.2.2.2.2.2.2.2.2.2.1
theorem dX10_taken_21 : decode cX10_taken 21 = .ok (.iload_n 1, 1) := bdX10_taken_0.2.2.2.2.2.2.2.2.2.2.2.2.2.1
theorem dX10_taken_22 : decode cX10_taken 22 = .ok (.invokevirtual 219, 3) := bdX10_taken_0.2.2.2.2.2.2.2.2.2.2.2.2.2.2.1
theorem dX10_taken_25 : decode cX10_taken 25 = .ok (.istore_n 3, 1) := bdX10_taken_0.2.2.2.2.2.2.2.2.2.2.2.2.2.2.2
theorem bdX10_taken_26 : (decode cX10_taken 26 = .ok (.iconst 0, 1)) ∧ (decode cX10_taken 27 = .ok (.istore 4, 2)) ∧ (decode cX10_taken 29 = .ok (.iconst 0, 1)) ∧ (decode cX10_taken 30 = .ok (.istore 5, 2)) ∧ (decode cX10_taken 32 = .ok (.iload 5, 2)) ∧ (decode cX10_taken 34 = .ok (.iconst 5, 1)) ∧ (decode cX10_taken 35 = .ok (.if_icmp .ge 33, 3)) ∧ (decode cX10_taken 38 = .ok (.iload 4, 2)) ∧ (decode cX10_taken 40 = .ok (.aload_n 0, 1)) ∧ (decode cX10_taken 41 = .ok (.getfield 41, 3)) ∧ (decode cX10_taken 44 = .ok (.iconst 5, 1)) ∧ (decode cX10_taken 45 = .ok (.iload_n 3, 1)) ∧ (decode cX10_taken 46 = .ok (.imul, 1)) ∧ (decode cX10_taken 47 = .ok (.iload 5, 2)) ∧ (decode cX10_taken 49 = .ok (.iadd, 1)) ∧ (decode cX10_taken 50 = .ok (.iaload, 1)) := by decide +kernel
theorem dX10_taken_26 : decode cX10_taken 26 = .ok (.iconst 0, 1) := bdX10_taken_26.1
theorem dX10_taken_27 : decode cX10_taken 27 = .ok (.istore 4, 2) := bdX10_taken_26.2.1
theorem dX10_taken_29 : decode cX10_taken 29 = .ok (.iconst 0, 1) := bdX10_taken_26.2.2.1
theorem dX10_taken_30 : decode cX10_taken 30 = .ok (.istore 5, 2) := bdX10_taken_26.2.2.2.1
theorem dX10_taken_32 : decode cX10_taken 32 = .ok (.iload 5, 2) := bdX10_taken_26.2.2.2.2.1
theorem dX10_taken_34 : decode cX10_taken 34 = .ok (.iconst 5, 1) := bdX10_taken_26.2.2.2.2.2.1
theorem dX10_taken_35 : decode cX10_taken 35 = .ok (.if_icmp .ge 33, 3) := bdX10_taken_26.2.2.2.2.2.2.1
theorem dX10_taken_38 : decode cX10_taken 38 = .ok (.iload 4, 2) := bdX10_taken_26.2.2.2.2.2.2.2.1
theorem dX10_taken_40 : decode cX10_taken 40 = .ok (.aload_n 0, 1) := bdX10_taken_26.2.2.2.2.2.2.2.2.1
theorem dX10_taken_41 : decode cX10_taken 41 = .ok (.getfield 41, 3) := bdX10_taken_26.2.2.2.2.2.2.2.2.2.1
theorem dX10_taken_44 : decode cX10_taken 44 = .ok (.iconst 5, 1) := bdX10_taken_26.2.2.2.2.2.2.2.2.2.2.1
theorem dX10_taken_45 : decode cX10_taken 45 = .ok (.iload_n 3, 1) := bdX10_taken_26.2.2.2.2.2.2.2.2.2.2.2.1
theorem dX10_taken_46 : decode cX10_taken 46 = .ok (.imul, 1) := bdX10_taken_26.2.2.2.2.2.2.2.2.2.2.2.2.1
theorem dX10_taken_47 : decode cX10_taken 47 = .ok (.iload 5, 2) := bdX10_taken_26.2.2.2.2.2.2.2.2.2.2.2.2.2.1
theorem dX10_taken_49 : decode cX10_taken 49 = .ok (.iadd, 1) := bdX10_taken_26.2.2.2.2.2.2.2.2.2.2.2.2.2.2.1
theorem dX10_taken_50 : decode cX10_taken 50 = .ok (.iaload, 1) := bdX10_taken_26.2.2.2.2.2.2.2.2.2.2.2.2.2.2.2
theorem bdX10_taken_51 : (decode cX10_taken 51 = .ok (.aload_n 0, 1)) ∧ (decode cX10_taken 52 = .ok (.getfield 51, 3)) ∧ (decode cX10_taken 55 = .ok (.iload 5, 2)) ∧ (decode cX10_taken 57 = .ok (.iaload, 1)) ∧ (decode cX10_taken 58 = .ok (.imul, 1)) ∧ (decode cX10_taken 59 = .ok (.iadd, 1)) ∧ (decode cX10_taken 60 = .ok (.istore 4, 2)) ∧ (decode cX10_taken 62 = .ok (.iinc 5 1, 3)) ∧ (decode cX10_taken 65 = .ok (.goto (-33), 3)) ∧ (decode cX10_taken 68 = .ok (.aload_n 0, 1)) ∧ (decode cX10_taken 69 = .ok (.iload_n 3, 1)) ∧ (decode cX10_taken 70 = .ok (.iload_n 3, 1)) ∧ (decode cX10_taken 71 = .ok (.invokevirtual 175, 3)) ∧ (decode cX10_taken 74 = .ok (.istore 5, 2)) ∧ (decode cX10_taken 76 = .ok (.aload_n 0, 1)) ∧ (decode cX10_taken 77 = .ok (.getfield 54, 3)) := by decide +kernel
theorem dX10_taken_51 : decode cX10_taken 51 = .ok (.aload_n 0, 1) := bdX10_taken_51.1
theorem dX10_taken_52 : decode cX10_taken 52 = .ok (.getfield 51, 3) := bdX10_taken_51.2.1
theorem dX10_taken_55 : decode cX10_taken 55 = .ok (.iload 5, 2) := bdX10_taken_51.2.2.1
theorem dX10_taken_57 : decode cX10_taken 57 = .ok (.iaload, 1) := bdX10_taken_51.2.2.2.1
theorem dX10_taken_58 : decode cX10_taken 58 = .ok (.imul, 1) := bdX10_taken_51.2.2.2.2.1
theorem dX10_taken_59 : decode cX10_taken 59 = .ok (.iadd, 1) := bdX10_taken_51.2.2.2.2.2.1
theorem dX10_taken_60 : decode cX10_taken 60 = .ok (.istore 4, 2) := bdX10_taken_51.2.2.2.2.2.2.1
theorem dX10_taken_62 : decode cX10_taken 62 = .ok (.iinc 5 1, 3) := bdX10_taken_51.2.2.2.2.2.2.2.1
theorem dX10_taken_65 : decode cX10_taken 65 = .ok (.goto (-33), 3) := bdX10_taken_51.2.2.2.2.2.2.2.2.1
theorem dX10_taken_68 : decode cX10_taken 68 = .ok (.aload_n 0, 1) := bdX10_taken_51.2.2.2.2.2.2.2.2.2.1
theorem dX10_taken_69 : decode cX10_taken 69 = .ok (.iload_n 3, 1) := bdX10_taken_51.2.2.2.2.2.2.2.2.2.2.1
theorem dX10_taken_70 : decode cX10_taken 70 = .ok (.iload_n 3, 1) := bdX10_taken_51.2.2.2.2.2.2.2.2.2.2.2.1
theorem dX10_taken_71 : decode cX10_taken 71 = .ok (.invokevirtual 175, 3) := bdX10_taken_51.2.2.2.2.2.2.2.2.2.2.2.2.1
theorem dX10_taken_74 : decode cX10_taken 74 = .ok (.istore 5, 2) := bdX10_taken_51.2.2.2.2.2.2.2.2.2.2.2.2.2.1
theorem dX10_taken_76 : decode cX10_taken 76 = .ok (.aload_n 0, 1) := bdX10_taken_51.2.2.2.2.2.2.2.2.2.2.2.2.2.2.1
theorem dX10_taken_77 : decode cX10_taken 77 = .ok (.getfield 54, 3) := bdX10_taken_51.2.2.2.2.2.2.2.2.2.2.2.2.2.2.2
theorem bdX10_taken_80 : (decode cX10_taken 80 = .ok (.iload_n 3, 1)) ∧ (decode cX10_taken 81 = .ok (.iload 5, 2)) ∧ (decode cX10_taken 83 = .ok (.ifCond .ne 7, 3)) ∧ (decode cX10_taken 86 = .ok (.iconst (-1), 1)) ∧ (decode cX10_taken 87 = .ok (.goto 13, 3)) ∧ (decode cX10_taken 90 = .ok (.aload_n 0, 1)) ∧ (decode cX10_taken 91 = .ok (.iload 4, 2)) ∧ (decode cX10_taken 93 = .ok (.i2l, 1)) ∧ (decode cX10_taken 94 = .ok (.iload 5, 2)) ∧ (decode cX10_taken 96 = .ok (.i2l, 1)) ∧ (decode cX10_taken 97 = .ok (.invokevirtual 203, 3)) ∧ (decode cX10_taken 100 = .ok (.iastore, 1)) ∧ (decode cX10_taken 101 = .ok (.iconst 0, 1)) ∧ (decode cX10_taken 102 = .ok (.istore 6, 2)) ∧ (decode cX10_taken 104 = .ok (.iload 6, 2)) ∧ (decode cX10_taken 106 = .ok (.iconst 5, 1)) := by decide +kernel
theorem dX10_taken_80 : decode cX10_taken 80 = .ok (.iload_n 3, 1) := bdX10_taken_80.1
theorem dX10_taken_81 : decode cX10_taken 81 = .ok (.iload 5, 2) := bdX10_taken_80.2.1
theorem dX10_taken_83 : decode cX10_taken 83 = .ok (.ifCond .ne 7, 3) := bdX10_taken_80.2.2.1
theorem dX10_taken_86 : decode cX10_taken 86 = .ok (.iconst (-1), 1) := bdX10_taken_80.2.2.2.1
theorem dX10_taken_87 : decode cX10_taken 87 = .ok (.goto 13, 3) := bdX10_taken_80.2.2.2.2.1
theorem dX10_taken_90 : decode cX10_taken 90 = .ok (.aload_n 0, 1) := bdX10_taken_80.2.2.2.2.2.1
theorem dX10_taken_91 : decode cX10_taken 91 = .ok (.iload 4, 2) := bdX10_taken_80.2.2.2.2.2.2.1
theorem dX10_taken_93 : decode cX10_taken 93 = .ok (.i2l, 1) := bdX10_taken_80.2.2.2.2.2.2.2.1
theorem dX10_taken_94 : decode cX10_taken 94 = .ok (.iload 5, 2) := bdX10_taken_80.2.2.2.2.2.2.2.2.1
theorem dX10_taken_96 : decode cX10_taken 96 = .ok (.i2l, 1) := bdX10_taken_80.2.2.2.2.2.2.2.2.2.1
theorem dX10_taken_97 : decode cX10_taken 97 = .ok (.invokevirtual 203, 3) := bdX10_taken_80.2.2.2.2.2.2.2.2.2.2.1
theorem dX10_taken_100 : decode cX10_taken 100 = .ok (.iastore, 1) := bdX10_taken_80.2.2.2.2.2.2.2.2.2.2.2.1
theorem dX10_taken_101 : decode cX10_taken 101 = .ok (.iconst 0, 1) := bdX10_taken_80.2.2.2.2.2.2.2.2.2.2.2.2.1
theorem dX10_taken_102 : decode cX10_taken 102 = .ok (.istore 6, 2) := bdX10_taken_80.2.2.2.2.2.2.2.2.2.2.2.2.2.1
theorem dX10_taken_104 : decode cX10_taken 104 = .ok (.iload 6, 2) := bdX10_taken_80.2.2.2.2.2.2.2.2.2.2.2.2.2.2.1
theorem dX10_taken_106 : decode cX10_taken 106 = .ok (.iconst 5, 1) := bdX10_taken_80.2.2.2.2.2.2.2.2.2.2.2.2.2.2.2
theorem bdX10_taken_107 : (decode cX10_taken 107 = .ok (.if_icmp .ge 37, 3)) ∧ (decode cX10_taken 110 = .ok (.aload_n 0, 1)) ∧ (decode cX10_taken 111 = .ok (.getfield 51, 3)) ∧ (decode cX10_taken 114 = .ok (.iload 6, 2)) ∧ (decode cX10_taken 116 = .ok (.dup2, 1)) ∧ (decode cX10_taken 117 = .ok (.iaload, 1)) ∧ (decode cX10_taken 118 = .ok (.aload_n 0, 1)) ∧ (decode cX10_taken 119 = .ok (.getfield 54, 3)) ∧ (decode cX10_taken 122 = .ok (.iload_n 3, 1)) ∧ (decode cX10_taken 123 = .ok (.iaload, 1)) ∧ (decode cX10_taken 124 = .ok (.aload_n 0, 1)) ∧ (decode cX10_taken 125 = .ok (.getfield 41, 3)) ∧ (decode cX10_taken 128 = .ok (.iconst 5, 1)) ∧ (decode cX10_taken 129 = .ok (.iload_n 3, 1)) ∧ (decode cX10_taken 130 = .ok (.imul, 1)) ∧ (decode cX10_taken 131 = .ok (.iload 6, 2)) := by decide +kernel
theorem dX10_taken_107 : decode cX10_taken 107 = .ok (.if_icmp .ge 37, 3) := bdX10_taken_107.1
theorem dX10_taken_110 : decode cX10_taken 110 = .ok (.aload_n 0, 1) := bdX10_taken_107.2.1
theorem dX10_taken_111 : decode cX10_taken 111 = .ok (.getfield 51, 3) := bdX10_taken_107.2.2.1
theorem dX10_taken_114 : decode cX10_taken 114 = .ok (.iload 6, 2) := bdX10_taken_107.2.2.2.1
theorem dX10_taken_116 : decode cX10_taken 116 = .ok (.dup2, 1) := bdX10_taken_107.2.2.2.2.1
theorem dX10_taken_117 : decode cX10_taken 117 = .ok (.iaload, 1) := bdX10_taken_107.2.2.2.2.2.1
theorem dX10_taken_118 : decode cX10_taken 118 = .ok (.aload_n 0, 1) := bdX10_taken_107.2.2.2.2.2.2.1
theorem dX10_taken_119 : decode cX10_taken 119 = .ok (.getfield 54, 3) := bdX10_taken_107.2.2.2.2.2.2.2.1
theorem dX10_taken_122 : decode cX10_taken 122 = .ok (.iload_n 3, 1) := bdX10_taken_107.2.2.2.2.2.2.2.2.1
theorem dX10_taken_123 : decode cX10_taken 123 = .ok (.iaload, 1) := bdX10_taken_107.2.2.2.2.2.2.2.2.2.1
theorem dX10_taken_124 : decode cX10_taken 124 = .ok (.aload_n 0, 1) := bdX10_taken_107.2.2.2.2.2.2.2.2.2.2.1
theorem dX10_taken_125 : decode cX10_taken 125 = .ok (.getfield 41, 3) := bdX10_taken_107.2.2.2.2.2.2.2.2.2.2.2.1
theorem dX10_taken_128 : decode cX10_taken 128 = .ok (.iconst 5, 1) := bdX10_taken_107.2.2.2.2.2.2.2.2.2.2.2.2.1
theorem dX10_taken_129 : decode cX10_taken 129 = .ok (.iload_n 3, 1) := bdX10_taken_107.2.2.2.2.2.2.2.2.2.2.2.2.2.1
theorem dX10_taken_130 : decode cX10_taken 130 = .ok (.imul, 1) := bdX10_taken_107.2.2.2.2.2.2.2.2.2.2.2.2.2.2.1
theorem dX10_taken_131 : decode cX10_taken 131 = .ok (.iload 6, 2) := bdX10_taken_107.2.2.2.2.2.2.2.2.2.2.2.2.2.2.2
theorem bdX10_taken_133 : (decode cX10_taken 133 = .ok (.iadd, 1)) ∧ (decode cX10_taken 134 = .ok (.iaload, 1)) ∧ (decode cX10_taken 135 = .ok (.imul, 1)) ∧ (decode cX10_taken 136 = .ok (.isub, 1)) ∧ (decode cX10_taken 137 = .ok (.iastore, 1)) ∧ (decode cX10_taken 138 = .ok (.iinc 6 1, 3)) ∧ (decode cX10_taken 141 = .ok (.goto (-37), 3)) ∧ (decode cX10_taken 144 = .ok (.iload_n 1, 1)) ∧ (decode cX10_taken 145 = .ok (.iconst 1, 1)) ∧ (decode cX10_taken 146 = .ok (.iload_n 3, 1)) ∧ (decode cX10_taken 147 = .ok (.ishl, 1)) ∧ (decode cX10_taken 148 = .ok (.ior, 1)) ∧ (decode cX10_taken 149 = .ok (.istore_n 1, 1)) ∧ (decode cX10_taken 150 = .ok (.iinc 2 1, 3)) ∧ (decode cX10_taken 153 = .ok (.goto (-141), 3)) ∧ (decode cX10_taken 156 = .ok (.aload_n 0, 1)) := by decide +kernel
theorem dX10_taken_133 : decode cX10_taken 133 = .ok (.iadd, 1) := bdX10_taken_133.1
theorem dX10_taken_134 : decode cX10_taken 134 = .ok (.iaload, 1) := bdX10_taken_133.2.1
theorem dX10_taken_135 : decode cX10_taken 135 = .ok (.imul, 1) := bdX10_taken_133.2.2.1
theorem dX10_taken_136 : decode cX10_taken 136 = .ok (.isub, 1) := bdX10_taken_133.2.2.2.1
theorem dX10_taken_137 : decode cX10_taken 137 = .ok (.iastore, 1) := bdX10_taken_133.2.2.2.2.1
theorem dX10_taken_138 : decode cX10_taken 138 = .ok (.iinc 6 1, 3) := bdX10_taken_133.2.2.2.2.2.1
theorem dX10_taken_141 : decode cX10_taken 141 = .ok (.goto (-37), 3) := bdX10_taken_133.2.2.2.2.2.2.1
theorem dX10_taken_144 : decode cX10_taken 144 = .ok (.iload_n 1, 1) := bdX10_taken_133.2.2.2.2.2.2.2.1
theorem dX10_taken_145 : decode cX10_taken 145 = .ok (.iconst 1, 1) := bdX10_taken_133.2.2.2.2.2.2.2.2.1
theorem dX10_taken_146 : decode cX10_taken 146 = .ok (.iload_n 3, 1) := bdX10_taken_133.2.2.2.2.2.2.2.2.2.1
theorem dX10_taken_147 : decode cX10_taken 147 = .ok (.ishl, 1) := bdX10_taken_133.2.2.2.2.2.2.2.2.2.2.1
theorem dX10_taken_148 : decode cX10_taken 148 = .ok (.ior, 1) := bdX10_taken_133.2.2.2.2.2.2.2.2.2.2.2.1
theorem dX10_taken_149 : decode cX10_taken 149 = .ok (.istore_n 1, 1) := bdX10_taken_133.2.2.2.2.2.2.2.2.2.2.2.2.1
theorem dX10_taken_150 : decode cX10_taken 150 = .ok (.iinc 2 1, 3) := bdX10_taken_133.2.2.2.2.2.2.2.2.2.2.2.2.2.1
theorem dX10_taken_153 : decode cX10_taken 153 = .ok (.goto (-141), 3) := bdX10_taken_133.2.2.2.2.2.2.2.2.2.2.2.2.2.2.1
theorem dX10_taken_156 : decode cX10_taken 156 = .ok (.aload_n 0, 1) := bdX10_taken_133.2.2.2.2.2.2.2.2.2.2.2.2.2.2.2
theorem bdX10_taken_157 : (decode cX10_taken 157 = .ok (.aload_n 0, 1)) ∧ (decode cX10_taken 158 = .ok (.getfield 54, 3)) ∧ (decode cX10_taken 161 = .ok (.invokevirtual 207, 3)) ∧ (decode cX10_taken 164 = .ok (.ireturn, 1)) := by decide +kernel
theorem dX10_taken_157 : decode cX10_taken 157 = .ok (.aload_n 0, 1) := bdX10_taken_157.1
theorem dX10_taken_158 : decode cX10_taken 158 = .ok (.getfield 54, 3) := bdX10_taken_157.2.1
theorem dX10_taken_161 : decode cX10_taken 161 = .ok (.invokevirtual 207, 3) := bdX10_taken_157.2.2.1
theorem dX10_taken_164 : decode cX10_taken 164 = .ok (.ireturn, 1) := bdX10_taken_157.2.2.2
set_option maxHeartbeats 4000000 in
set_option maxRecDepth 100000 in
theorem k_X10_taken (l : Launch) (dC : Nat → ClassId) (dI : Nat → Nat → Nat) (h : Nat → Nat) (cs : Nat → ClassId) (sz : Nat) (I : Nat → Int32) (L : Nat → Int64) (A : Nat → Nat → Int32) (Q : Nat → Nat → Int64) (R M a : Nat) (hR : I 0 = nI R) (hR1 : 1 ≤ R) (hR5 : R ≤ 5) (hM : I 1 = nI M) (hM1 : 1 ≤ M) (hM4 : M ≤ 4) (ha : I 2 = nI a) (ha2 : a = 2 ∨ a = 4) : Met l yX10_taken wsX10_taken ({ frames := 2, cells := 0, slots := 0, locals := 48 }) (va_Pc [.ref (h 0)] (xPre (dC, dI) (rW h cs I L A Q) (tysA cs) sz)) (va_Qi (fun (r : Int32) (u : RS) => ∃ f17 : Nat → Int32, ∃ f18 : Nat → Int32, ∃ f20 : Nat → Int32, ∃ f23 : Nat → Int32, (laid (A 3) R M f17 f18 ∧ tkR a M f17 (metF (A 3) R) M f20 f23 ∧ r = numF f23 a M) ∧ u = (I, L, (va_up (va_up (va_up (va_up A 17 f17) 18 f18) 20 f20) 23 f23), Q)) (xB (dC, dI) (tysA cs) (va_A (rW h cs I L A Q) sz) (fun u : RS => rW h cs u.1 u.2.1 u.2.2.1 u.2.2.2)) (va_A (rW h cs I L A Q) sz)) 0 0 (va_A (rW h cs I L A Q) sz) := by
  refine Met.ofW (cc := cX10_taken) (maxL := 7) (ret := (some .int)) (by decide) rfl ?_
  intro p e s m args below meth c s₁ B hml hv
  obtain ⟨rfl, hsz, hP, hK, hD0, hN⟩ := hv
  have hx := B.exec
  have hb := B.bytes
  have hr := B.returns
  have hts := atoms_spec (ws := wsX10_taken) B.pre
  have hown : s.vm.findClass RX10 = some m.cls := findClass_of_methodNamed B.named
  have hlocks := B.notSynchronized
  subst hsz
  have hD := hD0.self (sz := s.heap.size)
  generalize hAe : va_A (rW h cs I L A Q) s.heap.size = A0 at hD ⊢
  have hA : ∀ q : Nat, s.heap.size ≤ q → A0 q := fun q h => by rw [← hAe]; exact Or.inr h
  have hl := lv_entry ([.ref (h 0)]) (n := 7) (Nat.le_of_ble_eq_true rfl)
  rw [lg_entry_eq]
  generalize (lg_sl ([.ref (h 0)]) ++ List.replicate (7 - (lg_sl ([.ref (h 0)])).length) Slot.unset).toArray = ls at hl ⊢
  have hl : lv_has ls 7 [(0, .ref (h 0))] := hl
  generalize hH : s.heap = H at hP ⊢
  have hS : va_S A0 s.heap H [] := by rw [← hH]; exact va_S.rf
  have hinX10 : ∀ w ∈ wsX100, w ∈ wsX10_taken := by decide +kernel
  refine lv_aload_n hx hb dX10_taken_0 rfl (lv_at hl 0 rfl) ?_
  refine xj_v (wc := (rW h cs I L A Q)) (wr := ([] : va_W)) hP hD hS hA [0, 1, 2, 3, 4, 5, 6, 7, 8, 9, 10, 11, 12, 13, 14, 15, 16] [] rfl rfl (by decide +kernel) (by decide +kernel) (va_runV (As := []) (rest := []) ⟨hx, hb, hml, hown, hts⟩ (k_X10_lay l dC dI h cs H.size I L A Q R M hR (by first | assumption | omega | exact hR1) (by first | assumption | omega | exact hR5) hM (by first | assumption | omega | exact hM1) (by first | assumption | omega | exact hM4)) (cwV 0 hts gX10_taken_X10_lay rfl rfl rfl (by decide +kernel) ⟨Nat.le_of_ble_eq_true rfl, Nat.le_of_ble_eq_true rfl⟩) (xpV (wc := (rW h cs I L A Q)) hP hD hK hN [0, 1, 2, 3, 4, 5, 6, 7, 8, 9, 10, 11, 12, 13, 14, 15, 16] rfl (by decide) 0 (ci := 10) rfl rfl _) rfl rfl hl.1 rfl (lv_room (Nat.le_of_ble_eq_true rfl)) dX10_taken_1 ⟨Nat.zero_le _, Nat.zero_le _⟩) (fun u_1 H locs hw hP hD hS => ?_)
  obtain ⟨f17_3, f18_4, hf_5, rfl⟩ := hw
  have hP : va_P (dC, dI) vwCl (rW h cs I L (va_up (va_up A 17 f17_3) 18 f18_4) Q) H := hP
  have hD : va_D A0 (rW h cs I L (va_up (va_up A 17 f17_3) 18 f18_4) Q) := hD
  refine lv_aload_n hx hb dX10_taken_4 rfl (lv_at hl 0 rfl) ?_
  refine xj_v (wc := (rW h cs I L (va_up (va_up A 17 f17_3) 18 f18_4) Q)) (wr := ([] : va_W)) hP hD hS hA [0, 1, 2, 3, 4, 5, 6, 7, 8, 9, 10, 11, 12, 13, 14, 15, 16] [] rfl rfl (by decide +kernel) (by decide +kernel) (va_runV (As := []) (rest := []) ⟨hx, hb, hml, hown, hts⟩ (k_X10_meetHeard l dC dI h cs H.size I L (va_up (va_up A 17 f17_3) 18 f18_4) Q R hR (by first | assumption | omega | exact hR1) (by first | assumption | omega | exact hR5)) (cwV 0 hts gX10_taken_X10_meetHeard rfl rfl rfl (by decide +kernel) ⟨Nat.le_of_ble_eq_true rfl, Nat.le_of_ble_eq_true rfl⟩) (xpV (wc := (rW h cs I L (va_up (va_up A 17 f17_3) 18 f18_4) Q)) hP hD hK hN [0, 1, 2, 3, 4, 5, 6, 7, 8, 9, 10, 11, 12, 13, 14, 15, 16] rfl (by decide) 0 (ci := 10) rfl rfl _) rfl rfl hl.1 rfl (lv_room (Nat.le_of_ble_eq_true rfl)) dX10_taken_5 ⟨Nat.zero_le _, Nat.zero_le _⟩) (fun u_6 H locs hw hP hD hS => ?_)
  obtain ⟨f20_8, hf_9, rfl⟩ := hw
  have hP : va_P (dC, dI) vwCl (rW h cs I L (va_up (va_up (va_up A 17 f17_3) 18 f18_4) 20 f20_8) Q) H := hP
  have hD : va_D A0 (rW h cs I L (va_up (va_up (va_up A 17 f17_3) 18 f18_4) 20 f20_8) Q) := hD
  refine lv_iconst (v := nI 0) hx hb dX10_taken_8 (by decide) ?_
  refine lv_istore_n (lv' := [(1, .int (nI 0)), (0, .ref (h 0))]) hx hb dX10_taken_9 rfl hl (by decide) rfl (fun ls hl => ?_)
  refine lv_iconst (v := nI 0) hx hb dX10_taken_10 (by decide) ?_
  refine lv_istore_n (lv' := [(2, .int (nI 0)), (1, .int (nI 0)), (0, .ref (h 0))]) hx hb dX10_taken_11 rfl hl (by decide) rfl (fun ls hl => ?_)
  have cut_12 : ∀ (nf : Nat) (k : Nat) (me : Nat → Int32) (le : Nat → Int32), (M - k) < nf → (k ≤ M) → (tkR a M f17_3 (metF (A 3) R) k me le) → ∀ (H : Heap) (locs : List Loc) (ls : Array Slot), va_P (dC, dI) vwCl (rW h cs I L (va_up (va_up (va_up (va_up A 17 f17_3) 18 f18_4) 20 me) 23 le) Q) H → va_D A0 (rW h cs I L (va_up (va_up (va_up (va_up A 17 f17_3) 18 f18_4) 20 me) 23 le) Q) → va_S A0 s.heap H locs → lv_has ls 7 [(0, .ref (h 0)), (1, .int (tkB (fun t => dotF f17_3 t t) M k)), (2, .int (nI k))] → W p l e (headSpec wsX10_taken ({ frames := 2, cells := 0, slots := 0, locals := 48 })).room s m ([.ref (h 0)] : List Value).toArray below meth c H locs 0 0 (MQ below (va_Qi (fun (r : Int32) (u : RS) => ∃ f17 : Nat → Int32, ∃ f18 : Nat → Int32, ∃ f20 : Nat → Int32, ∃ f23 : Nat → Int32, (laid (A 3) R M f17 f18 ∧ tkR a M f17 (metF (A 3) R) M f20 f23 ∧ r = numF f23 a M) ∧ u = (I, L, (va_up (va_up (va_up (va_up A 17 f17) 18 f18) 20 f20) 23 f23), Q)) (xB (dC, dI) (tysA cs) A0 (fun u : RS => rW h cs u.1 u.2.1 u.2.2.1 u.2.2.2)) A0) ([.ref (h 0)] : List Value).toArray s 0 0 A0) (F0 m 12 ls []) := by
    intro nf
    induction nf with
    | zero => intro k me le hm; exact absurd hm (Nat.not_lt_zero _)
    | succ nf ih_12 =>
      intro k me le hm_12 hk_12 hr_12 H locs ls hP hD hS hl
      refine lv_iload_n hx hb dX10_taken_12 rfl (lv_at hl 2 rfl) ?_
      refine lv_aload_n hx hb dX10_taken_13 rfl (lv_at hl 0 rfl) ?_
      refine va_get (D := (dC, dI)) (ci := 10) (v := .int (I 1)) (C := RX10) (T := TX10) (N := 28) hx hb hts hinX10 hown hK hP 0 rfl rfl 1 (by decide) (hts (.fieldLink RX10 13 "MixedWordsModel" "columns" "I") (by decide +kernel)) (fun _ h9 => h9) rfl dX10_taken_14 ?_
      refine xt_i (y := nI M) (hM) ?_
      refine xn_ge (tgt := 156) hx hb dX10_taken_17 (by decide) (by omega) (by omega) (fun c_17_9 => ?_) (fun c_17_9 => ?_)
      · skip
        refine lv_aload_n hx hb dX10_taken_156 rfl (lv_at hl 0 rfl) ?_
        refine lv_aload_n hx hb dX10_taken_157 rfl (lv_at hl 0 rfl) ?_
        refine va_get (D := (dC, dI)) (ci := 10) (v := .ref (h 23)) (C := RX10) (T := TX10) (N := 28) hx hb hts hinX10 hown hK hP 0 rfl rfl 23 (by decide) (hts (.fieldLink RX10 54 "MixedWordsModel" "letters" "[I") (by decide +kernel)) (fun _ h9 => h9) rfl dX10_taken_158 ?_
        refine xj_i (wc := (rW h cs I L (va_up (va_up (va_up (va_up A 17 f17_3) 18 f18_4) 20 me) 23 le) Q)) (wr := ([] : va_W)) hP hD hS hA [0, 1, 2, 3, 4, 5, 6, 7, 8, 9, 10, 11, 12, 13, 14, 15, 16] [] rfl rfl (by decide +kernel) (by decide +kernel) (va_runV (As := [.ref (h 23)]) (rest := []) ⟨hx, hb, hml, hown, hts⟩ (k_X10_numberOf l dC dI h cs H.size I L (va_up (va_up (va_up (va_up A 17 f17_3) 18 f18_4) 20 me) 23 le) Q M a hM (by first | assumption | omega | exact hM1) (by first | assumption | omega | exact hM4) ha (by first | assumption | omega | exact ha2)) (cwV 1 hts gX10_taken_X10_numberOf rfl rfl rfl (by decide +kernel) ⟨Nat.le_of_ble_eq_true rfl, Nat.le_of_ble_eq_true rfl⟩) (xpV (wc := (rW h cs I L (va_up (va_up (va_up (va_up A 17 f17_3) 18 f18_4) 20 me) 23 le) Q)) hP hD hK hN [0, 1, 2, 3, 4, 5, 6, 7, 8, 9, 10, 11, 12, 13, 14, 15, 16] rfl (by decide) 0 (ci := 10) rfl rfl _) rfl rfl hl.1 rfl (lv_room (Nat.le_of_ble_eq_true rfl)) dX10_taken_161 ⟨Nat.zero_le _, Nat.zero_le _⟩) (fun r_12 u_11 H locs hw hP hD hS => ?_)
        obtain ⟨hf_13, rfl⟩ := hw
        have hP : va_P (dC, dI) vwCl (rW h cs I L (va_up (va_up (va_up (va_up A 17 f17_3) 18 f18_4) 20 me) 23 le) Q) H := hP
        have hD : va_D A0 (rW h cs I L (va_up (va_up (va_up (va_up A 17 f17_3) 18 f18_4) 20 me) 23 le) Q) := hD
        obtain rfl := hf_13
        exact xr_i (v := (numF le a M)) hx hb hr hlocks hK hS dX10_taken_164 (I, L, (va_up (va_up (va_up (va_up A 17 f17_3) 18 f18_4) 20 me) 23 le), Q) ⟨f17_3, f18_4, me, le, ⟨hf_5, (by have e9 : k = M := (by omega); rw [e9] at hr_12; exact hr_12), rfl⟩, rfl⟩ hP hD
      · skip
        refine lv_aload_n hx hb dX10_taken_20 rfl (lv_at hl 0 rfl) ?_
        refine lv_iload_n hx hb dX10_taken_21 rfl (lv_at hl 1 rfl) ?_
        refine xj_i (wc := (rW h cs I L (va_up (va_up (va_up (va_up A 17 f17_3) 18 f18_4) 20 me) 23 le) Q)) (wr := ([] : va_W)) hP hD hS hA [0, 1, 2, 3, 4, 5, 6, 7, 8, 9, 10, 11, 12, 13, 14, 15, 16] [] rfl rfl (by decide +kernel) (by decide +kernel) (va_runV (As := [.int (tkB (fun t => dotF f17_3 t t) M k)]) (rest := []) ⟨hx, hb, hml, hown, hts⟩ (k_X10_nextTaken l dC dI h cs H.size I L (va_up (va_up (va_up (va_up A 17 f17_3) 18 f18_4) 20 me) 23 le) Q (tkB (fun t => dotF f17_3 t t) M k) M hM (by first | assumption | omega | exact hM1) (by first | assumption | omega | exact hM4)) (cwV 1 hts gX10_taken_X10_nextTaken rfl rfl rfl (by decide +kernel) ⟨Nat.le_of_ble_eq_true rfl, Nat.le_of_ble_eq_true rfl⟩) (xpV (wc := (rW h cs I L (va_up (va_up (va_up (va_up A 17 f17_3) 18 f18_4) 20 me) 23 le) Q)) hP hD hK hN [0, 1, 2, 3, 4, 5, 6, 7, 8, 9, 10, 11, 12, 13, 14, 15, 16] rfl (by decide) 0 (ci := 10) rfl rfl _) rfl rfl hl.1 rfl (lv_room (Nat.le_of_ble_eq_true rfl)) dX10_taken_22 ⟨Nat.zero_le _, Nat.zero_le _⟩) (fun r_15 u_14 H locs hw hP hD hS => ?_)
        obtain ⟨hf_16, rfl⟩ := hw
        have hP : va_P (dC, dI) vwCl (rW h cs I L (va_up (va_up (va_up (va_up A 17 f17_3) 18 f18_4) 20 me) 23 le) Q) H := hP
        have hD : va_D A0 (rW h cs I L (va_up (va_up (va_up (va_up A 17 f17_3) 18 f18_4) 20 me) 23 le) Q) := hD
        obtain rfl := hf_16
        obtain ⟨q3, hq3, hnt⟩ := tk_next (fun t => dotF f17_3 t t) hM4 (show k < M by omega)
        refine xt_i (y := nI q3) (hnt) ?_
        refine lv_istore_n (lv' := [(3, .int (nI q3)), (0, .ref (h 0)), (1, .int (tkB (fun t => dotF f17_3 t t) M k)), (2, .int (nI k))]) hx hb dX10_taken_25 rfl hl (by decide) rfl (fun ls hl => ?_)
        refine lv_iconst (v := nI 0) hx hb dX10_taken_26 (by decide) ?_
        refine lv_istore (lv' := [(4, .int (nI 0)), (3, .int (nI q3)), (0, .ref (h 0)), (1, .int (tkB (fun t => dotF f17_3 t t) M k)), (2, .int (nI k))]) hx hb dX10_taken_27 hl (by decide) rfl (fun ls hl => ?_)
        refine lv_iconst (v := nI 0) hx hb dX10_taken_29 (by decide) ?_
        refine lv_istore (lv' := [(5, .int (nI 0)), (4, .int (nI 0)), (3, .int (nI q3)), (0, .ref (h 0)), (1, .int (tkB (fun t => dotF f17_3 t t) M k)), (2, .int (nI k))]) hx hb dX10_taken_30 hl (by decide) rfl (fun ls hl => ?_)
        refine lv_iload hx hb dX10_taken_32 (lv_at hl 0 rfl) ?_
        refine lv_iconst (v := nI 5) hx hb dX10_taken_34 (by decide) ?_
        refine xn_geF (tgt := 68) hx hb dX10_taken_35 (by decide) (by omega) (by omega) (by omega) ?_
        refine lv_iload hx hb dX10_taken_38 (lv_at hl 1 rfl) ?_
        refine lv_aload_n hx hb dX10_taken_40 rfl (lv_at hl 3 rfl) ?_
        refine va_get (D := (dC, dI)) (ci := 10) (v := .ref (h 17)) (C := RX10) (T := TX10) (N := 28) hx hb hts hinX10 hown hK hP 0 rfl rfl 17 (by decide) (hts (.fieldLink RX10 41 "MixedWordsModel" "cols" "[I") (by decide +kernel)) (fun _ h9 => h9) rfl dX10_taken_41 ?_
        refine lv_iconst (v := nI 5) hx hb dX10_taken_44 (by decide) ?_
        refine lv_iload_n hx hb dX10_taken_45 rfl (lv_at hl 2 rfl) ?_
        refine lv_imul hx hb dX10_taken_46 ?_
        refine xt_i (y := nI (5 * q3)) (pk_mul _ _) ?_
        refine lv_iload hx hb dX10_taken_47 (lv_at hl 0 rfl) ?_
        refine lv_iadd hx hb dX10_taken_49 ?_
        refine xt_i (y := nI ((5 * q3) + 0)) (nI_add _ _) ?_
        refine xa_iald hx hb hK hP 8 0 rfl rfl (by omega) (by decide) dX10_taken_50 ?_
        refine lv_aload_n hx hb dX10_taken_51 rfl (lv_at hl 3 rfl) ?_
        refine va_get (D := (dC, dI)) (ci := 10) (v := .ref (h 20)) (C := RX10) (T := TX10) (N := 28) hx hb hts hinX10 hown hK hP 0 rfl rfl 20 (by decide) (hts (.fieldLink RX10 51 "MixedWordsModel" "met" "[I") (by decide +kernel)) (fun _ h9 => h9) rfl dX10_taken_52 ?_
        refine lv_iload hx hb dX10_taken_55 (lv_at hl 0 rfl) ?_
        refine xa_iald hx hb hK hP 11 0 rfl rfl (by omega) (by decide) dX10_taken_57 ?_
        refine lv_imul hx hb dX10_taken_58 ?_
        refine lv_iadd hx hb dX10_taken_59 ?_
        refine lv_istore (lv' := [(4, .int ((nI 0) + ((f17_3 ((5 * q3) + 0)) * (me 0)))), (5, .int (nI 0)), (3, .int (nI q3)), (0, .ref (h 0)), (1, .int (tkB (fun t => dotF f17_3 t t) M k)), (2, .int (nI k))]) hx hb dX10_taken_60 hl (by decide) rfl (fun ls hl => ?_)
        refine lv_iinc (v := nI 1) (lv' := [(5, .int (nI 1)), (4, .int ((nI 0) + ((f17_3 ((5 * q3) + 0)) * (me 0)))), (3, .int (nI q3)), (0, .ref (h 0)), (1, .int (tkB (fun t => dotF f17_3 t t) M k)), (2, .int (nI k))]) hx hb dX10_taken_62 hl (k := 1) rfl (by decide) (by decide) rfl (fun ls hl => ?_)
        refine lv_goto (tgt := 32) hx hb dX10_taken_65 (by decide) ?_
        refine lv_iload hx hb dX10_taken_32 (lv_at hl 0 rfl) ?_
        refine lv_iconst (v := nI 5) hx hb dX10_taken_34 (by decide) ?_
        refine xn_geF (tgt := 68) hx hb dX10_taken_35 (by decide) (by omega) (by omega) (by omega) ?_
        refine lv_iload hx hb dX10_taken_38 (lv_at hl 1 rfl) ?_
        refine lv_aload_n hx hb dX10_taken_40 rfl (lv_at hl 3 rfl) ?_
        refine va_get (D := (dC, dI)) (ci := 10) (v := .ref (h 17)) (C := RX10) (T := TX10) (N := 28) hx hb hts hinX10 hown hK hP 0 rfl rfl 17 (by decide) (hts (.fieldLink RX10 41 "MixedWordsModel" "cols" "[I") (by decide +kernel)) (fun _ h9 => h9) rfl dX10_taken_41 ?_
        refine lv_iconst (v := nI 5) hx hb dX10_taken_44 (by decide) ?_
        refine lv_iload_n hx hb dX10_taken_45 rfl (lv_at hl 2 rfl) ?_
        refine lv_imul hx hb dX10_taken_46 ?_
        refine xt_i (y := nI (5 * q3)) (pk_mul _ _) ?_
        refine lv_iload hx hb dX10_taken_47 (lv_at hl 0 rfl) ?_
        refine lv_iadd hx hb dX10_taken_49 ?_
        refine xt_i (y := nI ((5 * q3) + 1)) (nI_add _ _) ?_
        refine xa_iald hx hb hK hP 8 0 rfl rfl (by omega) (by decide) dX10_taken_50 ?_
        refine lv_aload_n hx hb dX10_taken_51 rfl (lv_at hl 3 rfl) ?_
        refine va_get (D := (dC, dI)) (ci := 10) (v := .ref (h 20)) (C := RX10) (T := TX10) (N := 28) hx hb hts hinX10 hown hK hP 0 rfl rfl 20 (by decide) (hts (.fieldLink RX10 51 "MixedWordsModel" "met" "[I") (by decide +kernel)) (fun _ h9 => h9) rfl dX10_taken_52 ?_
        refine lv_iload hx hb dX10_taken_55 (lv_at hl 0 rfl) ?_
        refine xa_iald hx hb hK hP 11 0 rfl rfl (by omega) (by decide) dX10_taken_57 ?_
        refine lv_imul hx hb dX10_taken_58 ?_
        refine lv_iadd hx hb dX10_taken_59 ?_
        refine lv_istore (lv' := [(4, .int (((nI 0) + ((f17_3 ((5 * q3) + 0)) * (me 0))) + ((f17_3 ((5 * q3) + 1)) * (me 1)))), (5, .int (nI 1)), (3, .int (nI q3)), (0, .ref (h 0)), (1, .int (tkB (fun t => dotF f17_3 t t) M k)), (2, .int (nI k))]) hx hb dX10_taken_60 hl (by decide) rfl (fun ls hl => ?_)
        refine lv_iinc (v := nI 2) (lv' := [(5, .int (nI 2)), (4, .int (((nI 0) + ((f17_3 ((5 * q3) + 0)) * (me 0))) + ((f17_3 ((5 * q3) + 1)) * (me 1)))), (3, .int (nI q3)), (0, .ref (h 0)), (1, .int (tkB (fun t => dotF f17_3 t t) M k)), (2, .int (nI k))]) hx hb dX10_taken_62 hl (k := 1) rfl (by decide) (by decide) rfl (fun ls hl => ?_)
        refine lv_goto (tgt := 32) hx hb dX10_taken_65 (by decide) ?_
        refine lv_iload hx hb dX10_taken_32 (lv_at hl 0 rfl) ?_
        refine lv_iconst (v := nI 5) hx hb dX10_taken_34 (by decide) ?_
        refine xn_geF (tgt := 68) hx hb dX10_taken_35 (by decide) (by omega) (by omega) (by omega) ?_
        refine lv_iload hx hb dX10_taken_38 (lv_at hl 1 rfl) ?_
        refine lv_aload_n hx hb dX10_taken_40 rfl (lv_at hl 3 rfl) ?_
        refine va_get (D := (dC, dI)) (ci := 10) (v := .ref (h 17)) (C := RX10) (T := TX10) (N := 28) hx hb hts hinX10 hown hK hP 0 rfl rfl 17 (by decide) (hts (.fieldLink RX10 41 "MixedWordsModel" "cols" "[I") (by decide +kernel)) (fun _ h9 => h9) rfl dX10_taken_41 ?_
        refine lv_iconst (v := nI 5) hx hb dX10_taken_44 (by decide) ?_
        refine lv_iload_n hx hb dX10_taken_45 rfl (lv_at hl 2 rfl) ?_
        refine lv_imul hx hb dX10_taken_46 ?_
        refine xt_i (y := nI (5 * q3)) (pk_mul _ _) ?_
        refine lv_iload hx hb dX10_taken_47 (lv_at hl 0 rfl) ?_
        refine lv_iadd hx hb dX10_taken_49 ?_
        refine xt_i (y := nI ((5 * q3) + 2)) (nI_add _ _) ?_
        refine xa_iald hx hb hK hP 8 0 rfl rfl (by omega) (by decide) dX10_taken_50 ?_
        refine lv_aload_n hx hb dX10_taken_51 rfl (lv_at hl 3 rfl) ?_
        refine va_get (D := (dC, dI)) (ci := 10) (v := .ref (h 20)) (C := RX10) (T := TX10) (N := 28) hx hb hts hinX10 hown hK hP 0 rfl rfl 20 (by decide) (hts (.fieldLink RX10 51 "MixedWordsModel" "met" "[I") (by decide +kernel)) (fun _ h9 => h9) rfl dX10_taken_52 ?_
        refine lv_iload hx hb dX10_taken_55 (lv_at hl 0 rfl) ?_
        refine xa_iald hx hb hK hP 11 0 rfl rfl (by omega) (by decide) dX10_taken_57 ?_
        refine lv_imul hx hb dX10_taken_58 ?_
        refine lv_iadd hx hb dX10_taken_59 ?_
        refine lv_istore (lv' := [(4, .int ((((nI 0) + ((f17_3 ((5 * q3) + 0)) * (me 0))) + ((f17_3 ((5 * q3) + 1)) * (me 1))) + ((f17_3 ((5 * q3) + 2)) * (me 2)))), (5, .int (nI 2)), (3, .int (nI q3)), (0, .ref (h 0)), (1, .int (tkB (fun t => dotF f17_3 t t) M k)), (2, .int (nI k))]) hx hb dX10_taken_60 hl (by decide) rfl (fun ls hl => ?_)
        refine lv_iinc (v := nI 3) (lv' := [(5, .int (nI 3)), (4, .int ((((nI 0) + ((f17_3 ((5 * q3) + 0)) * (me 0))) + ((f17_3 ((5 * q3) + 1)) * (me 1))) + ((f17_3 ((5 * q3) + 2)) * (me 2)))), (3, .int (nI q3)), (0, .ref (h 0)), (1, .int (tkB (fun t => dotF f17_3 t t) M k)), (2, .int (nI k))]) hx hb dX10_taken_62 hl (k := 1) rfl (by decide) (by decide) rfl (fun ls hl => ?_)
        refine lv_goto (tgt := 32) hx hb dX10_taken_65 (by decide) ?_
        refine lv_iload hx hb dX10_taken_32 (lv_at hl 0 rfl) ?_
        refine lv_iconst (v := nI 5) hx hb dX10_taken_34 (by decide) ?_
        refine xn_geF (tgt := 68) hx hb dX10_taken_35 (by decide) (by omega) (by omega) (by omega) ?_
        refine lv_iload hx hb dX10_taken_38 (lv_at hl 1 rfl) ?_
        refine lv_aload_n hx hb dX10_taken_40 rfl (lv_at hl 3 rfl) ?_
        refine va_get (D := (dC, dI)) (ci := 10) (v := .ref (h 17)) (C := RX10) (T := TX10) (N := 28) hx hb hts hinX10 hown hK hP 0 rfl rfl 17 (by decide) (hts (.fieldLink RX10 41 "MixedWordsModel" "cols" "[I") (by decide +kernel)) (fun _ h9 => h9) rfl dX10_taken_41 ?_
        refine lv_iconst (v := nI 5) hx hb dX10_taken_44 (by decide) ?_
        refine lv_iload_n hx hb dX10_taken_45 rfl (lv_at hl 2 rfl) ?_
        refine lv_imul hx hb dX10_taken_46 ?_
        refine xt_i (y := nI (5 * q3)) (pk_mul _ _) ?_
        refine lv_iload hx hb dX10_taken_47 (lv_at hl 0 rfl) ?_
        refine lv_iadd hx hb dX10_taken_49 ?_
        refine xt_i (y := nI ((5 * q3) + 3)) (nI_add _ _) ?_
        refine xa_iald hx hb hK hP 8 0 rfl rfl (by omega) (by decide) dX10_taken_50 ?_
        refine lv_aload_n hx hb dX10_taken_51 rfl (lv_at hl 3 rfl) ?_
        refine va_get (D := (dC, dI)) (ci := 10) (v := .ref (h 20)) (C := RX10) (T := TX10) (N := 28) hx hb hts hinX10 hown hK hP 0 rfl rfl 20 (by decide) (hts (.fieldLink RX10 51 "MixedWordsModel" "met" "[I") (by decide +kernel)) (fun _ h9 => h9) rfl dX10_taken_52 ?_
        refine lv_iload hx hb dX10_taken_55 (lv_at hl 0 rfl) ?_
        refine xa_iald hx hb hK hP 11 0 rfl rfl (by omega) (by decide) dX10_taken_57 ?_
        refine lv_imul hx hb dX10_taken_58 ?_
        refine lv_iadd hx hb dX10_taken_59 ?_
        refine lv_istore (lv' := [(4, .int (((((nI 0) + ((f17_3 ((5 * q3) + 0)) * (me 0))) + ((f17_3 ((5 * q3) + 1)) * (me 1))) + ((f17_3 ((5 * q3) + 2)) * (me 2))) + ((f17_3 ((5 * q3) + 3)) * (me 3)))), (5, .int (nI 3)), (3, .int (nI q3)), (0, .ref (h 0)), (1, .int (tkB (fun t => dotF f17_3 t t) M k)), (2, .int (nI k))]) hx hb dX10_taken_60 hl (by decide) rfl (fun ls hl => ?_)
        refine lv_iinc (v := nI 4) (lv' := [(5, .int (nI 4)), (4, .int (((((nI 0) + ((f17_3 ((5 * q3) + 0)) * (me 0))) + ((f17_3 ((5 * q3) + 1)) * (me 1))) + ((f17_3 ((5 * q3) + 2)) * (me 2))) + ((f17_3 ((5 * q3) + 3)) * (me 3)))), (3, .int (nI q3)), (0, .ref (h 0)), (1, .int (tkB (fun t => dotF f17_3 t t) M k)), (2, .int (nI k))]) hx hb dX10_taken_62 hl (k := 1) rfl (by decide) (by decide) rfl (fun ls hl => ?_)
        refine lv_goto (tgt := 32) hx hb dX10_taken_65 (by decide) ?_
        refine lv_iload hx hb dX10_taken_32 (lv_at hl 0 rfl) ?_
        refine lv_iconst (v := nI 5) hx hb dX10_taken_34 (by decide) ?_
        refine xn_geF (tgt := 68) hx hb dX10_taken_35 (by decide) (by omega) (by omega) (by omega) ?_
        refine lv_iload hx hb dX10_taken_38 (lv_at hl 1 rfl) ?_
        refine lv_aload_n hx hb dX10_taken_40 rfl (lv_at hl 3 rfl) ?_
        refine va_get (D := (dC, dI)) (ci := 10) (v := .ref (h 17)) (C := RX10) (T := TX10) (N := 28) hx hb hts hinX10 hown hK hP 0 rfl rfl 17 (by decide) (hts (.fieldLink RX10 41 "MixedWordsModel" "cols" "[I") (by decide +kernel)) (fun _ h9 => h9) rfl dX10_taken_41 ?_
        refine lv_iconst (v := nI 5) hx hb dX10_taken_44 (by decide) ?_
        refine lv_iload_n hx hb dX10_taken_45 rfl (lv_at hl 2 rfl) ?_
        refine lv_imul hx hb dX10_taken_46 ?_
        refine xt_i (y := nI (5 * q3)) (pk_mul _ _) ?_
        refine lv_iload hx hb dX10_taken_47 (lv_at hl 0 rfl) ?_
        refine lv_iadd hx hb dX10_taken_49 ?_
        refine xt_i (y := nI ((5 * q3) + 4)) (nI_add _ _) ?_
        refine xa_iald hx hb hK hP 8 0 rfl rfl (by omega) (by decide) dX10_taken_50 ?_
        refine lv_aload_n hx hb dX10_taken_51 rfl (lv_at hl 3 rfl) ?_
        refine va_get (D := (dC, dI)) (ci := 10) (v := .ref (h 20)) (C := RX10) (T := TX10) (N := 28) hx hb hts hinX10 hown hK hP 0 rfl rfl 20 (by decide) (hts (.fieldLink RX10 51 "MixedWordsModel" "met" "[I") (by decide +kernel)) (fun _ h9 => h9) rfl dX10_taken_52 ?_
        refine lv_iload hx hb dX10_taken_55 (lv_at hl 0 rfl) ?_
        refine xa_iald hx hb hK hP 11 0 rfl rfl (by omega) (by decide) dX10_taken_57 ?_
        refine lv_imul hx hb dX10_taken_58 ?_
        refine lv_iadd hx hb dX10_taken_59 ?_
        refine lv_istore (lv' := [(4, .int ((((((nI 0) + ((f17_3 ((5 * q3) + 0)) * (me 0))) + ((f17_3 ((5 * q3) + 1)) * (me 1))) + ((f17_3 ((5 * q3) + 2)) * (me 2))) + ((f17_3 ((5 * q3) + 3)) * (me 3))) + ((f17_3 ((5 * q3) + 4)) * (me 4)))), (5, .int (nI 4)), (3, .int (nI q3)), (0, .ref (h 0)), (1, .int (tkB (fun t => dotF f17_3 t t) M k)), (2, .int (nI k))]) hx hb dX10_taken_60 hl (by decide) rfl (fun ls hl => ?_)
        refine lv_iinc (v := nI 5) (lv' := [(5, .int (nI 5)), (4, .int ((((((nI 0) + ((f17_3 ((5 * q3) + 0)) * (me 0))) + ((f17_3 ((5 * q3) + 1)) * (me 1))) + ((f17_3 ((5 * q3) + 2)) * (me 2))) + ((f17_3 ((5 * q3) + 3)) * (me 3))) + ((f17_3 ((5 * q3) + 4)) * (me 4)))), (3, .int (nI q3)), (0, .ref (h 0)), (1, .int (tkB (fun t => dotF f17_3 t t) M k)), (2, .int (nI k))]) hx hb dX10_taken_62 hl (k := 1) rfl (by decide) (by decide) rfl (fun ls hl => ?_)
        refine lv_goto (tgt := 32) hx hb dX10_taken_65 (by decide) ?_
        refine lv_iload hx hb dX10_taken_32 (lv_at hl 0 rfl) ?_
        refine lv_iconst (v := nI 5) hx hb dX10_taken_34 (by decide) ?_
        refine xn_geT (tgt := 68) hx hb dX10_taken_35 (by decide) (by omega) (by omega) (by omega) ?_
        refine lv_aload_n hx hb dX10_taken_68 rfl (lv_at hl 3 rfl) ?_
        refine lv_iload_n hx hb dX10_taken_69 rfl (lv_at hl 2 rfl) ?_
        refine lv_iload_n hx hb dX10_taken_70 rfl (lv_at hl 2 rfl) ?_
        refine xj_i (wc := (rW h cs I L (va_up (va_up (va_up (va_up A 17 f17_3) 18 f18_4) 20 me) 23 le) Q)) (wr := ([] : va_W)) hP hD hS hA [0, 1, 2, 3, 4, 5, 6, 7, 8, 9, 10, 11, 12, 13, 14, 15, 16] [] rfl rfl (by decide +kernel) (by decide +kernel) (va_runV (As := [.int (nI q3), .int (nI q3)]) (rest := []) ⟨hx, hb, hml, hown, hts⟩ (k_X10_dot l dC dI h cs H.size I L (va_up (va_up (va_up (va_up A 17 f17_3) 18 f18_4) 20 me) 23 le) Q q3 q3 (by first | assumption | omega) (by first | assumption | omega)) (cwV 2 hts gX10_taken_X10_dot rfl rfl rfl (by decide +kernel) ⟨Nat.le_of_ble_eq_true rfl, Nat.le_of_ble_eq_true rfl⟩) (xpV (wc := (rW h cs I L (va_up (va_up (va_up (va_up A 17 f17_3) 18 f18_4) 20 me) 23 le) Q)) hP hD hK hN [0, 1, 2, 3, 4, 5, 6, 7, 8, 9, 10, 11, 12, 13, 14, 15, 16] rfl (by decide) 0 (ci := 10) rfl rfl _) rfl rfl hl.1 rfl (lv_room (Nat.le_of_ble_eq_true rfl)) dX10_taken_71 ⟨Nat.zero_le _, Nat.zero_le _⟩) (fun r_24 u_23 H locs hw hP hD hS => ?_)
        obtain ⟨hf_25, rfl⟩ := hw
        have hP : va_P (dC, dI) vwCl (rW h cs I L (va_up (va_up (va_up (va_up A 17 f17_3) 18 f18_4) 20 me) 23 le) Q) H := hP
        have hD : va_D A0 (rW h cs I L (va_up (va_up (va_up (va_up A 17 f17_3) 18 f18_4) 20 me) 23 le) Q) := hD
        obtain rfl := hf_25
        refine lv_istore (lv' := [(5, .int (dotF f17_3 q3 q3)), (4, .int ((((((nI 0) + ((f17_3 ((5 * q3) + 0)) * (me 0))) + ((f17_3 ((5 * q3) + 1)) * (me 1))) + ((f17_3 ((5 * q3) + 2)) * (me 2))) + ((f17_3 ((5 * q3) + 3)) * (me 3))) + ((f17_3 ((5 * q3) + 4)) * (me 4)))), (3, .int (nI q3)), (0, .ref (h 0)), (1, .int (tkB (fun t => dotF f17_3 t t) M k)), (2, .int (nI k))]) hx hb dX10_taken_74 hl (by decide) rfl (fun ls hl => ?_)
        refine lv_aload_n hx hb dX10_taken_76 rfl (lv_at hl 3 rfl) ?_
        refine va_get (D := (dC, dI)) (ci := 10) (v := .ref (h 23)) (C := RX10) (T := TX10) (N := 28) hx hb hts hinX10 hown hK hP 0 rfl rfl 23 (by decide) (hts (.fieldLink RX10 54 "MixedWordsModel" "letters" "[I") (by decide +kernel)) (fun _ h9 => h9) rfl dX10_taken_77 ?_
        refine lv_iload_n hx hb dX10_taken_80 rfl (lv_at hl 2 rfl) ?_
        refine lv_iload hx hb dX10_taken_81 (lv_at hl 0 rfl) ?_
        refine lv_if_ne (tgt := 90) hx hb dX10_taken_83 (by decide) (fun c_83_25 => ?_) (fun c_83_25 => ?_)
        · skip
          refine lv_aload_n hx hb dX10_taken_90 rfl (lv_at hl 3 rfl) ?_
          refine lv_iload hx hb dX10_taken_91 (lv_at hl 1 rfl) ?_
          refine lv_i2l (v := ((((((nI 0) + ((f17_3 ((5 * q3) + 0)) * (me 0))) + ((f17_3 ((5 * q3) + 1)) * (me 1))) + ((f17_3 ((5 * q3) + 2)) * (me 2))) + ((f17_3 ((5 * q3) + 3)) * (me 3))) + ((f17_3 ((5 * q3) + 4)) * (me 4))).toInt64) hx hb dX10_taken_93 rfl ?_
          refine lv_iload hx hb dX10_taken_94 (lv_at hl 0 rfl) ?_
          refine lv_i2l (v := (dotF f17_3 q3 q3).toInt64) hx hb dX10_taken_96 rfl ?_
          refine xj_i (wc := (rW h cs I L (va_up (va_up (va_up (va_up A 17 f17_3) 18 f18_4) 20 me) 23 le) Q)) (wr := ([] : va_W)) hP hD hS hA [0, 1, 2, 3, 4, 5, 6, 7, 8, 9, 10, 11, 12, 13, 14, 15, 16] [] rfl rfl (by decide +kernel) (by decide +kernel) (va_runV (As := [.long (((((((nI 0) + ((f17_3 ((5 * q3) + 0)) * (me 0))) + ((f17_3 ((5 * q3) + 1)) * (me 1))) + ((f17_3 ((5 * q3) + 2)) * (me 2))) + ((f17_3 ((5 * q3) + 3)) * (me 3))) + ((f17_3 ((5 * q3) + 4)) * (me 4))).toInt64), .long ((dotF f17_3 q3 q3).toInt64)]) (rest := [.int (nI q3), .ref (h 23)]) ⟨hx, hb, hml, hown, hts⟩ (k_X10_nearestLetter l dC dI h cs H.size I L (va_up (va_up (va_up (va_up A 17 f17_3) 18 f18_4) 20 me) 23 le) Q (((((((nI 0) + ((f17_3 ((5 * q3) + 0)) * (me 0))) + ((f17_3 ((5 * q3) + 1)) * (me 1))) + ((f17_3 ((5 * q3) + 2)) * (me 2))) + ((f17_3 ((5 * q3) + 3)) * (me 3))) + ((f17_3 ((5 * q3) + 4)) * (me 4))).toInt64) ((dotF f17_3 q3 q3).toInt64) a ha (by first | assumption | omega | exact ha2)) (cwV 2 hts gX10_taken_X10_nearestLetter rfl rfl rfl (by decide +kernel) ⟨Nat.le_of_ble_eq_true rfl, Nat.le_of_ble_eq_true rfl⟩) (xpV (wc := (rW h cs I L (va_up (va_up (va_up (va_up A 17 f17_3) 18 f18_4) 20 me) 23 le) Q)) hP hD hK hN [0, 1, 2, 3, 4, 5, 6, 7, 8, 9, 10, 11, 12, 13, 14, 15, 16] rfl (by decide) 0 (ci := 10) rfl rfl _) rfl rfl hl.1 rfl (lv_room (Nat.le_of_ble_eq_true rfl)) dX10_taken_97 ⟨Nat.zero_le _, Nat.zero_le _⟩) (fun r_28 u_27 H locs hw hP hD hS => ?_)
          obtain ⟨hf_29, rfl⟩ := hw
          have hP : va_P (dC, dI) vwCl (rW h cs I L (va_up (va_up (va_up (va_up A 17 f17_3) 18 f18_4) 20 me) 23 le) Q) H := hP
          have hD : va_D A0 (rW h cs I L (va_up (va_up (va_up (va_up A 17 f17_3) 18 f18_4) 20 me) 23 le) Q) := hD
          obtain rfl := hf_29
          refine xt_i (y := letF a f17_3 me q3) (by first | (rw [letF, if_pos (by assumption)]) | (rw [letF, if_neg (by assumption)]; rfl)) ?_
          refine xa_iast hx hb hK hP hD hS 12 0 rfl rfl (by omega) (by decide) dX10_taken_100 (fun H locs hP hD hS => ?_)
          have hP : va_P (dC, dI) vwCl (rW h cs I L (va_up (va_up (va_up (va_up A 17 f17_3) 18 f18_4) 20 me) 23 (upd le q3 (letF a f17_3 me q3))) Q) H := hP
          have hD : va_D A0 (rW h cs I L (va_up (va_up (va_up (va_up A 17 f17_3) 18 f18_4) 20 me) 23 (upd le q3 (letF a f17_3 me q3))) Q) := hD
          refine lv_iconst (v := nI 0) hx hb dX10_taken_101 (by decide) ?_
          refine lv_istore (lv' := [(6, .int (nI 0)), (5, .int (dotF f17_3 q3 q3)), (4, .int ((((((nI 0) + ((f17_3 ((5 * q3) + 0)) * (me 0))) + ((f17_3 ((5 * q3) + 1)) * (me 1))) + ((f17_3 ((5 * q3) + 2)) * (me 2))) + ((f17_3 ((5 * q3) + 3)) * (me 3))) + ((f17_3 ((5 * q3) + 4)) * (me 4)))), (3, .int (nI q3)), (0, .ref (h 0)), (1, .int (tkB (fun t => dotF f17_3 t t) M k)), (2, .int (nI k))]) hx hb dX10_taken_102 hl (by decide) rfl (fun ls hl => ?_)
          have cut_104 : ∀ (nf : Nat) (k6 : Nat) (g : Nat → Int32), (5 - k6) < nf → (k6 ≤ 5) → (∀ t : Nat, t < k6 → g t = me t - letF a f17_3 me q3 * f17_3 (5 * q3 + t)) → (∀ t : Nat, k6 ≤ t → g t = me t) → ∀ (H : Heap) (locs : List Loc) (ls : Array Slot), va_P (dC, dI) vwCl (rW h cs I L (va_up (va_up (va_up (va_up A 17 f17_3) 18 f18_4) 23 (upd le q3 (letF a f17_3 me q3))) 20 g) Q) H → va_D A0 (rW h cs I L (va_up (va_up (va_up (va_up A 17 f17_3) 18 f18_4) 23 (upd le q3 (letF a f17_3 me q3))) 20 g) Q) → va_S A0 s.heap H locs → lv_has ls 7 [(0, .ref (h 0)), (1, .int (tkB (fun t => dotF f17_3 t t) M k)), (2, .int (nI k)), (3, .int (nI q3)), (4, .int ((((((nI 0) + ((f17_3 ((5 * q3) + 0)) * (me 0))) + ((f17_3 ((5 * q3) + 1)) * (me 1))) + ((f17_3 ((5 * q3) + 2)) * (me 2))) + ((f17_3 ((5 * q3) + 3)) * (me 3))) + ((f17_3 ((5 * q3) + 4)) * (me 4)))), (5, .int (dotF f17_3 q3 q3)), (6, .int (nI k6))] → W p l e (headSpec wsX10_taken ({ frames := 2, cells := 0, slots := 0, locals := 48 })).room s m ([.ref (h 0)] : List Value).toArray below meth c H locs 0 0 (MQ below (va_Qi (fun (r : Int32) (u : RS) => ∃ f17 : Nat → Int32, ∃ f18 : Nat → Int32, ∃ f20 : Nat → Int32, ∃ f23 : Nat → Int32, (laid (A 3) R M f17 f18 ∧ tkR a M f17 (metF (A 3) R) M f20 f23 ∧ r = numF f23 a M) ∧ u = (I, L, (va_up (va_up (va_up (va_up A 17 f17) 18 f18) 20 f20) 23 f23), Q)) (xB (dC, dI) (tysA cs) A0 (fun u : RS => rW h cs u.1 u.2.1 u.2.2.1 u.2.2.2)) A0) ([.ref (h 0)] : List Value).toArray s 0 0 A0) (F0 m 104 ls []) := by
            intro nf
            induction nf with
            | zero => intro k6 g hm; exact absurd hm (Nat.not_lt_zero _)
            | succ nf ih_104 =>
              intro k6 g hm_104 hk_104 hg_104 hh_104 H locs ls hP hD hS hl
              refine lv_iload hx hb dX10_taken_104 (lv_at hl 6 rfl) ?_
              refine lv_iconst (v := nI 5) hx hb dX10_taken_106 (by decide) ?_
              refine xn_ge (tgt := 144) hx hb dX10_taken_107 (by decide) (by omega) (by omega) (fun c_107_29 => ?_) (fun c_107_29 => ?_)
              · skip
                refine lv_iload_n hx hb dX10_taken_144 rfl (lv_at hl 1 rfl) ?_
                refine lv_iconst (v := nI 1) hx hb dX10_taken_145 (by decide) ?_
                refine lv_iload_n hx hb dX10_taken_146 rfl (lv_at hl 3 rfl) ?_
                refine lv_ishl hx hb dX10_taken_147 ?_
                refine lv_ior hx hb dX10_taken_148 ?_
                refine xt_i (y := tkB (fun t => dotF f17_3 t t) M (k + 1)) (by rw [tkB, hnt]) ?_
                refine lv_istore_n (lv' := [(1, .int (tkB (fun t => dotF f17_3 t t) M (k + 1))), (0, .ref (h 0)), (2, .int (nI k)), (3, .int (nI q3)), (4, .int ((((((nI 0) + ((f17_3 ((5 * q3) + 0)) * (me 0))) + ((f17_3 ((5 * q3) + 1)) * (me 1))) + ((f17_3 ((5 * q3) + 2)) * (me 2))) + ((f17_3 ((5 * q3) + 3)) * (me 3))) + ((f17_3 ((5 * q3) + 4)) * (me 4)))), (5, .int (dotF f17_3 q3 q3)), (6, .int (nI k6))]) hx hb dX10_taken_149 rfl hl (by decide) rfl (fun ls hl => ?_)
                refine lv_iinc (v := nI (k + 1)) (lv' := [(2, .int (nI (k + 1))), (1, .int (tkB (fun t => dotF f17_3 t t) M (k + 1))), (0, .ref (h 0)), (3, .int (nI q3)), (4, .int ((((((nI 0) + ((f17_3 ((5 * q3) + 0)) * (me 0))) + ((f17_3 ((5 * q3) + 1)) * (me 1))) + ((f17_3 ((5 * q3) + 2)) * (me 2))) + ((f17_3 ((5 * q3) + 3)) * (me 3))) + ((f17_3 ((5 * q3) + 4)) * (me 4)))), (5, .int (dotF f17_3 q3 q3)), (6, .int (nI k6))]) hx hb dX10_taken_150 hl (k := 2) rfl (nI_1 _) (by decide) rfl (fun ls hl => ?_)
                refine lv_goto (tgt := 12) hx hb dX10_taken_153 (by decide) ?_
                exact ih_12 (k + 1) g (upd le q3 (letF a f17_3 me q3)) (by omega) (by first | assumption | omega) (by first | exact hf_9 | exact ⟨me, le, q3, hr_12, hq3, hnt, rfl, fun t ht => hg_104 t (by omega)⟩) _ _ _ hP hD hS (lv_sub hl [2, 1, 0] rfl)
              · skip
                refine lv_aload_n hx hb dX10_taken_110 rfl (lv_at hl 0 rfl) ?_
                refine va_get (D := (dC, dI)) (ci := 10) (v := .ref (h 20)) (C := RX10) (T := TX10) (N := 28) hx hb hts hinX10 hown hK hP 0 rfl rfl 20 (by decide) (hts (.fieldLink RX10 51 "MixedWordsModel" "met" "[I") (by decide +kernel)) (fun _ h9 => h9) rfl dX10_taken_111 ?_
                refine lv_iload hx hb dX10_taken_114 (lv_at hl 6 rfl) ?_
                refine lv_dup2_11 hx hb dX10_taken_116 rfl rfl ?_
                refine xa_iald hx hb hK hP 11 0 rfl rfl (by omega) (by decide) dX10_taken_117 ?_
                refine lv_aload_n hx hb dX10_taken_118 rfl (lv_at hl 0 rfl) ?_
                refine va_get (D := (dC, dI)) (ci := 10) (v := .ref (h 23)) (C := RX10) (T := TX10) (N := 28) hx hb hts hinX10 hown hK hP 0 rfl rfl 23 (by decide) (hts (.fieldLink RX10 54 "MixedWordsModel" "letters" "[I") (by decide +kernel)) (fun _ h9 => h9) rfl dX10_taken_119 ?_
                refine lv_iload_n hx hb dX10_taken_122 rfl (lv_at hl 3 rfl) ?_
                refine xa_iald hx hb hK hP 12 0 rfl rfl (by omega) (by decide) dX10_taken_123 ?_
                refine xt_i (y := letF a f17_3 me q3) pk_us ?_
                refine lv_aload_n hx hb dX10_taken_124 rfl (lv_at hl 0 rfl) ?_
                refine va_get (D := (dC, dI)) (ci := 10) (v := .ref (h 17)) (C := RX10) (T := TX10) (N := 28) hx hb hts hinX10 hown hK hP 0 rfl rfl 17 (by decide) (hts (.fieldLink RX10 41 "MixedWordsModel" "cols" "[I") (by decide +kernel)) (fun _ h9 => h9) rfl dX10_taken_125 ?_
                refine lv_iconst (v := nI 5) hx hb dX10_taken_128 (by decide) ?_
                refine lv_iload_n hx hb dX10_taken_129 rfl (lv_at hl 3 rfl) ?_
                refine lv_imul hx hb dX10_taken_130 ?_
                refine xt_i (y := nI (5 * q3)) (pk_mul _ _) ?_
                refine lv_iload hx hb dX10_taken_131 (lv_at hl 6 rfl) ?_
                refine lv_iadd hx hb dX10_taken_133 ?_
                refine xt_i (y := nI ((5 * q3) + k6)) (nI_add _ _) ?_
                refine xa_iald hx hb hK hP 8 0 rfl rfl (by omega) (by decide) dX10_taken_134 ?_
                refine lv_imul hx hb dX10_taken_135 ?_
                refine lv_isub hx hb dX10_taken_136 ?_
                refine xa_iast hx hb hK hP hD hS 11 0 rfl rfl (by omega) (by decide) dX10_taken_137 (fun H locs hP hD hS => ?_)
                have hP : va_P (dC, dI) vwCl (rW h cs I L (va_up (va_up (va_up (va_up A 17 f17_3) 18 f18_4) 23 (upd le q3 (letF a f17_3 me q3))) 20 (upd g k6 ((g k6) - ((letF a f17_3 me q3) * (f17_3 ((5 * q3) + k6)))))) Q) H := hP
                have hD : va_D A0 (rW h cs I L (va_up (va_up (va_up (va_up A 17 f17_3) 18 f18_4) 23 (upd le q3 (letF a f17_3 me q3))) 20 (upd g k6 ((g k6) - ((letF a f17_3 me q3) * (f17_3 ((5 * q3) + k6)))))) Q) := hD
                refine lv_iinc (v := nI (k6 + 1)) (lv' := [(6, .int (nI (k6 + 1))), (0, .ref (h 0)), (1, .int (tkB (fun t => dotF f17_3 t t) M k)), (2, .int (nI k)), (3, .int (nI q3)), (4, .int ((((((nI 0) + ((f17_3 ((5 * q3) + 0)) * (me 0))) + ((f17_3 ((5 * q3) + 1)) * (me 1))) + ((f17_3 ((5 * q3) + 2)) * (me 2))) + ((f17_3 ((5 * q3) + 3)) * (me 3))) + ((f17_3 ((5 * q3) + 4)) * (me 4)))), (5, .int (dotF f17_3 q3 q3))]) hx hb dX10_taken_138 hl (k := 6) rfl (nI_1 _) (by decide) rfl (fun ls hl => ?_)
                refine lv_goto (tgt := 104) hx hb dX10_taken_141 (by decide) ?_
                exact ih_104 (k6 + 1) (upd g k6 ((g k6) - ((letF a f17_3 me q3) * (f17_3 ((5 * q3) + k6))))) (by omega) (by first | assumption | omega) (by first | exact (fun t ht => absurd ht (Nat.not_lt_zero t)) | exact (met_s (b := 5 * q3) hg_104 hh_104).1) (by first | exact (fun t _ => rfl) | exact (met_s (b := 5 * q3) hg_104 hh_104).2) _ _ _ hP hD hS (lv_sub hl [1, 2, 3, 4, 5, 6, 0] rfl)
          exact cut_104 _ 0 me (Nat.lt_succ_self _) (by first | assumption | omega) (by first | exact (fun t ht => absurd ht (Nat.not_lt_zero t)) | exact (met_s (b := 5 * q3) hg_104 hh_104).1) (by first | exact (fun t _ => rfl) | exact (met_s (b := 5 * q3) hg_104 hh_104).2) _ _ _ hP hD hS (lv_sub hl [4, 5, 6, 3, 2, 1, 0] rfl)
        · skip
          refine lv_iconst (v := (-1)) hx hb dX10_taken_86 (by decide) ?_
          refine lv_goto (tgt := 100) hx hb dX10_taken_87 (by decide) ?_
          refine xt_i (y := letF a f17_3 me q3) (by first | (rw [letF, if_pos (by assumption)]) | (rw [letF, if_neg (by assumption)]; rfl)) ?_
          refine xa_iast hx hb hK hP hD hS 12 0 rfl rfl (by omega) (by decide) dX10_taken_100 (fun H locs hP hD hS => ?_)
          have hP : va_P (dC, dI) vwCl (rW h cs I L (va_up (va_up (va_up (va_up A 17 f17_3) 18 f18_4) 20 me) 23 (upd le q3 (letF a f17_3 me q3))) Q) H := hP
          have hD : va_D A0 (rW h cs I L (va_up (va_up (va_up (va_up A 17 f17_3) 18 f18_4) 20 me) 23 (upd le q3 (letF a f17_3 me q3))) Q) := hD
          refine lv_iconst (v := nI 0) hx hb dX10_taken_101 (by decide) ?_
          refine lv_istore (lv' := [(6, .int (nI 0)), (5, .int (dotF f17_3 q3 q3)), (4, .int ((((((nI 0) + ((f17_3 ((5 * q3) + 0)) * (me 0))) + ((f17_3 ((5 * q3) + 1)) * (me 1))) + ((f17_3 ((5 * q3) + 2)) * (me 2))) + ((f17_3 ((5 * q3) + 3)) * (me 3))) + ((f17_3 ((5 * q3) + 4)) * (me 4)))), (3, .int (nI q3)), (0, .ref (h 0)), (1, .int (tkB (fun t => dotF f17_3 t t) M k)), (2, .int (nI k))]) hx hb dX10_taken_102 hl (by decide) rfl (fun ls hl => ?_)
          have cut_104 : ∀ (nf : Nat) (k6 : Nat) (g : Nat → Int32), (5 - k6) < nf → (k6 ≤ 5) → (∀ t : Nat, t < k6 → g t = me t - letF a f17_3 me q3 * f17_3 (5 * q3 + t)) → (∀ t : Nat, k6 ≤ t → g t = me t) → ∀ (H : Heap) (locs : List Loc) (ls : Array Slot), va_P (dC, dI) vwCl (rW h cs I L (va_up (va_up (va_up (va_up A 17 f17_3) 18 f18_4) 23 (upd le q3 (letF a f17_3 me q3))) 20 g) Q) H → va_D A0 (rW h cs I L (va_up (va_up (va_up (va_up A 17 f17_3) 18 f18_4) 23 (upd le q3 (letF a f17_3 me q3))) 20 g) Q) → va_S A0 s.heap H locs → lv_has ls 7 [(0, .ref (h 0)), (1, .int (tkB (fun t => dotF f17_3 t t) M k)), (2, .int (nI k)), (3, .int (nI q3)), (4, .int ((((((nI 0) + ((f17_3 ((5 * q3) + 0)) * (me 0))) + ((f17_3 ((5 * q3) + 1)) * (me 1))) + ((f17_3 ((5 * q3) + 2)) * (me 2))) + ((f17_3 ((5 * q3) + 3)) * (me 3))) + ((f17_3 ((5 * q3) + 4)) * (me 4)))), (5, .int (dotF f17_3 q3 q3)), (6, .int (nI k6))] → W p l e (headSpec wsX10_taken ({ frames := 2, cells := 0, slots := 0, locals := 48 })).room s m ([.ref (h 0)] : List Value).toArray below meth c H locs 0 0 (MQ below (va_Qi (fun (r : Int32) (u : RS) => ∃ f17 : Nat → Int32, ∃ f18 : Nat → Int32, ∃ f20 : Nat → Int32, ∃ f23 : Nat → Int32, (laid (A 3) R M f17 f18 ∧ tkR a M f17 (metF (A 3) R) M f20 f23 ∧ r = numF f23 a M) ∧ u = (I, L, (va_up (va_up (va_up (va_up A 17 f17) 18 f18) 20 f20) 23 f23), Q)) (xB (dC, dI) (tysA cs) A0 (fun u : RS => rW h cs u.1 u.2.1 u.2.2.1 u.2.2.2)) A0) ([.ref (h 0)] : List Value).toArray s 0 0 A0) (F0 m 104 ls []) := by
            intro nf
            induction nf with
            | zero => intro k6 g hm; exact absurd hm (Nat.not_lt_zero _)
            | succ nf ih_104 =>
              intro k6 g hm_104 hk_104 hg_104 hh_104 H locs ls hP hD hS hl
              refine lv_iload hx hb dX10_taken_104 (lv_at hl 6 rfl) ?_
              refine lv_iconst (v := nI 5) hx hb dX10_taken_106 (by decide) ?_
              refine xn_ge (tgt := 144) hx hb dX10_taken_107 (by decide) (by omega) (by omega) (fun c_107_30 => ?_) (fun c_107_30 => ?_)
              · skip
                refine lv_iload_n hx hb dX10_taken_144 rfl (lv_at hl 1 rfl) ?_
                refine lv_iconst (v := nI 1) hx hb dX10_taken_145 (by decide) ?_
                refine lv_iload_n hx hb dX10_taken_146 rfl (lv_at hl 3 rfl) ?_
                refine lv_ishl hx hb dX10_taken_147 ?_
                refine lv_ior hx hb dX10_taken_148 ?_
                refine xt_i (y := tkB (fun t => dotF f17_3 t t) M (k + 1)) (by rw [tkB, hnt]) ?_
                refine lv_istore_n (lv' := [(1, .int (tkB (fun t => dotF f17_3 t t) M (k + 1))), (0, .ref (h 0)), (2, .int (nI k)), (3, .int (nI q3)), (4, .int ((((((nI 0) + ((f17_3 ((5 * q3) + 0)) * (me 0))) + ((f17_3 ((5 * q3) + 1)) * (me 1))) + ((f17_3 ((5 * q3) + 2)) * (me 2))) + ((f17_3 ((5 * q3) + 3)) * (me 3))) + ((f17_3 ((5 * q3) + 4)) * (me 4)))), (5, .int (dotF f17_3 q3 q3)), (6, .int (nI k6))]) hx hb dX10_taken_149 rfl hl (by decide) rfl (fun ls hl => ?_)
                refine lv_iinc (v := nI (k + 1)) (lv' := [(2, .int (nI (k + 1))), (1, .int (tkB (fun t => dotF f17_3 t t) M (k + 1))), (0, .ref (h 0)), (3, .int (nI q3)), (4, .int ((((((nI 0) + ((f17_3 ((5 * q3) + 0)) * (me 0))) + ((f17_3 ((5 * q3) + 1)) * (me 1))) + ((f17_3 ((5 * q3) + 2)) * (me 2))) + ((f17_3 ((5 * q3) + 3)) * (me 3))) + ((f17_3 ((5 * q3) + 4)) * (me 4)))), (5, .int (dotF f17_3 q3 q3)), (6, .int (nI k6))]) hx hb dX10_taken_150 hl (k := 2) rfl (nI_1 _) (by decide) rfl (fun ls hl => ?_)
                refine lv_goto (tgt := 12) hx hb dX10_taken_153 (by decide) ?_
                exact ih_12 (k + 1) g (upd le q3 (letF a f17_3 me q3)) (by omega) (by first | assumption | omega) (by first | exact hf_9 | exact ⟨me, le, q3, hr_12, hq3, hnt, rfl, fun t ht => hg_104 t (by omega)⟩) _ _ _ hP hD hS (lv_sub hl [2, 1, 0] rfl)
              · skip
                refine lv_aload_n hx hb dX10_taken_110 rfl (lv_at hl 0 rfl) ?_
                refine va_get (D := (dC, dI)) (ci := 10) (v := .ref (h 20)) (C := RX10) (T := TX10) (N := 28) hx hb hts hinX10 hown hK hP 0 rfl rfl 20 (by decide) (hts (.fieldLink RX10 51 "MixedWordsModel" "met" "[I") (by decide +kernel)) (fun _ h9 => h9) rfl dX10_taken_111 ?_
                refine lv_iload hx hb dX10_taken_114 (lv_at hl 6 rfl) ?_
                refine lv_dup2_11 hx hb dX10_taken_116 rfl rfl ?_
                refine xa_iald hx hb hK hP 11 0 rfl rfl (by omega) (by decide) dX10_taken_117 ?_
                refine lv_aload_n hx hb dX10_taken_118 rfl (lv_at hl 0 rfl) ?_
                refine va_get (D := (dC, dI)) (ci := 10) (v := .ref (h 23)) (C := RX10) (T := TX10) (N := 28) hx hb hts hinX10 hown hK hP 0 rfl rfl 23 (by decide) (hts (.fieldLink RX10 54 "MixedWordsModel" "letters" "[I") (by decide +kernel)) (fun _ h9 => h9) rfl dX10_taken_119 ?_
                refine lv_iload_n hx hb dX10_taken_122 rfl (lv_at hl 3 rfl) ?_
                refine xa_iald hx hb hK hP 12 0 rfl rfl (by omega) (by decide) dX10_taken_123 ?_
                refine xt_i (y := letF a f17_3 me q3) pk_us ?_
                refine lv_aload_n hx hb dX10_taken_124 rfl (lv_at hl 0 rfl) ?_
                refine va_get (D := (dC, dI)) (ci := 10) (v := .ref (h 17)) (C := RX10) (T := TX10) (N := 28) hx hb hts hinX10 hown hK hP 0 rfl rfl 17 (by decide) (hts (.fieldLink RX10 41 "MixedWordsModel" "cols" "[I") (by decide +kernel)) (fun _ h9 => h9) rfl dX10_taken_125 ?_
                refine lv_iconst (v := nI 5) hx hb dX10_taken_128 (by decide) ?_
                refine lv_iload_n hx hb dX10_taken_129 rfl (lv_at hl 3 rfl) ?_
                refine lv_imul hx hb dX10_taken_130 ?_
                refine xt_i (y := nI (5 * q3)) (pk_mul _ _) ?_
                refine lv_iload hx hb dX10_taken_131 (lv_at hl 6 rfl) ?_
                refine lv_iadd hx hb dX10_taken_133 ?_
                refine xt_i (y := nI ((5 * q3) + k6)) (nI_add _ _) ?_
                refine xa_iald hx hb hK hP 8 0 rfl rfl (by omega) (by decide) dX10_taken_134 ?_
                refine lv_imul hx hb dX10_taken_135 ?_
                refine lv_isub hx hb dX10_taken_136 ?_
                refine xa_iast hx hb hK hP hD hS 11 0 rfl rfl (by omega) (by decide) dX10_taken_137 (fun H locs hP hD hS => ?_)
                have hP : va_P (dC, dI) vwCl (rW h cs I L (va_up (va_up (va_up (va_up A 17 f17_3) 18 f18_4) 23 (upd le q3 (letF a f17_3 me q3))) 20 (upd g k6 ((g k6) - ((letF a f17_3 me q3) * (f17_3 ((5 * q3) + k6)))))) Q) H := hP
                have hD : va_D A0 (rW h cs I L (va_up (va_up (va_up (va_up A 17 f17_3) 18 f18_4) 23 (upd le q3 (letF a f17_3 me q3))) 20 (upd g k6 ((g k6) - ((letF a f17_3 me q3) * (f17_3 ((5 * q3) + k6)))))) Q) := hD
                refine lv_iinc (v := nI (k6 + 1)) (lv' := [(6, .int (nI (k6 + 1))), (0, .ref (h 0)), (1, .int (tkB (fun t => dotF f17_3 t t) M k)), (2, .int (nI k)), (3, .int (nI q3)), (4, .int ((((((nI 0) + ((f17_3 ((5 * q3) + 0)) * (me 0))) + ((f17_3 ((5 * q3) + 1)) * (me 1))) + ((f17_3 ((5 * q3) + 2)) * (me 2))) + ((f17_3 ((5 * q3) + 3)) * (me 3))) + ((f17_3 ((5 * q3) + 4)) * (me 4)))), (5, .int (dotF f17_3 q3 q3))]) hx hb dX10_taken_138 hl (k := 6) rfl (nI_1 _) (by decide) rfl (fun ls hl => ?_)
                refine lv_goto (tgt := 104) hx hb dX10_taken_141 (by decide) ?_
                exact ih_104 (k6 + 1) (upd g k6 ((g k6) - ((letF a f17_3 me q3) * (f17_3 ((5 * q3) + k6))))) (by omega) (by first | assumption | omega) (by first | exact (fun t ht => absurd ht (Nat.not_lt_zero t)) | exact (met_s (b := 5 * q3) hg_104 hh_104).1) (by first | exact (fun t _ => rfl) | exact (met_s (b := 5 * q3) hg_104 hh_104).2) _ _ _ hP hD hS (lv_sub hl [1, 2, 3, 4, 5, 6, 0] rfl)
          exact cut_104 _ 0 me (Nat.lt_succ_self _) (by first | assumption | omega) (by first | exact (fun t ht => absurd ht (Nat.not_lt_zero t)) | exact (met_s (b := 5 * q3) hg_104 hh_104).1) (by first | exact (fun t _ => rfl) | exact (met_s (b := 5 * q3) hg_104 hh_104).2) _ _ _ hP hD hS (lv_sub hl [4, 5, 6, 3, 2, 1, 0] rfl)
  exact cut_12 _ 0 f20_8 (A 23) (Nat.lt_succ_self _) (by first | assumption | omega) (by first | exact hf_9 | exact ⟨me, le, q3, hr_12, hq3, hnt, rfl, fun t ht => hg_104 t (by omega)⟩) _ _ _ hP hD hS (lv_sub hl [2, 1, 0] rfl)
