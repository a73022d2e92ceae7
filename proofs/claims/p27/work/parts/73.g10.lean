/-! ===== words by OFF, of like ones by NUMBER ===== -/
def leK (o : Nat → Int32) (u v : Nat) : Bool := decide (o u < o v ∨ (o u = o v ∧ u ≤ v))
def segL (be : Nat → Nat) (lo hi : Nat) : List Nat := (List.range' lo (hi - lo)).map be
def Blk (o : Nat → Int32) (be : Nat → Nat) (lo hi : Nat) : Prop := (segL be lo hi).Pairwise (fun u v => leK o u v = true) ∧ (segL be lo hi).Perm (List.range' lo (hi - lo))
theorem leK_iff {o : Nat → Int32} {u v : Nat} : leK o u v = true ↔ (o u < o v ∨ (o u = o v ∧ u ≤ v)) := by
  unfold leK
  exact decide_eq_true_iff
theorem leK_trans {o : Nat → Int32} (u v w : Nat) (h1 : leK o u v = true) (h2 : leK o v w = true) : leK o u w = true := by
  rw [leK_iff] at h1 h2 ⊢
  rcases h1 with h1 | ⟨h1, h3⟩ <;> rcases h2 with h2 | ⟨h2, h4⟩
  · exact Or.inl (Int32.lt_trans h1 h2)
  · exact Or.inl (h2 ▸ h1)
  · exact Or.inl (h1.symm ▸ h2)
  · exact Or.inr ⟨h1.trans h2, Nat.le_trans h3 h4⟩
theorem leK_total {o : Nat → Int32} (u v : Nat) : (leK o u v || leK o v u) = true := by
  rw [Bool.or_eq_true, leK_iff, leK_iff]
  rcases Int.lt_trichotomy (o u).toInt (o v).toInt with h | h | h
  · exact Or.inl (Or.inl (Int32.lt_iff_toInt_lt.mpr h))
  · have e : o u = o v := Int32.toInt_inj.mp h
    rcases Nat.le_total u v with g | g
    · exact Or.inl (Or.inr ⟨e, g⟩)
    · exact Or.inr (Or.inr ⟨e.symm, g⟩)
  · exact Or.inr (Or.inl (Int32.lt_iff_toInt_lt.mpr h))
theorem leK_lt {o : Nat → Int32} {u v : Nat} (h : u < v) : leK o u v = true ↔ o u ≤ o v := by
  rw [leK_iff, Int32.le_iff_toInt_le, Int32.lt_iff_toInt_lt]
  constructor
  · rintro (g | ⟨g, -⟩)
    · omega
    · rw [g]
      exact Int.le_refl _
  · intro g
    rcases Int.lt_or_eq_of_le g with q | q
    · exact Or.inl q
    · exact Or.inr ⟨Int32.toInt_inj.mp q, by omega⟩
theorem seg_nil {be : Nat → Nat} {a b : Nat} (h : b ≤ a) : segL be a b = [] := by
  unfold segL
  rw [show b - a = 0 by omega]
  rfl
theorem seg_cons {be : Nat → Nat} {a b : Nat} (h : a < b) : segL be a b = be a :: segL be (a + 1) b := by
  unfold segL
  rw [show b - a = (b - (a + 1)) + 1 by omega, List.range'_succ, List.map_cons]
theorem seg_snoc {be : Nat → Nat} {a b : Nat} (h : a ≤ b) : segL be a (b + 1) = segL be a b ++ [be b] := by
  unfold segL
  rw [show b + 1 - a = (b - a) + 1 by omega, List.range'_concat, List.map_append, Nat.one_mul, show a + (b - a) = b by omega]
  rfl
theorem seg_c {be ga : Nat → Nat} {a b : Nat} (h : ∀ q : Nat, a ≤ q → q < b → be q = ga q) : segL be a b = segL ga a b := by
  unfold segL
  refine List.map_congr_left (fun q hq => ?_)
  rw [List.mem_range'_1] at hq
  exact h q hq.1 (by omega)
theorem seg_mem {be : Nat → Nat} {a b q : Nat} (h1 : a ≤ q) (h2 : q < b) : be q ∈ segL be a b := by
  unfold segL
  exact List.mem_map.mpr ⟨q, by rw [List.mem_range'_1]; omega, rfl⟩
theorem blk_mem {o : Nat → Int32} {be : Nat → Nat} {a b q : Nat} (h : Blk o be a b) (h1 : a ≤ q) (h2 : q < b) : a ≤ be q ∧ be q < b := by
  have := (h.2.mem_iff).mp (seg_mem h1 h2)
  rw [List.mem_range'_1] at this
  omega
def mL (o : Nat → Int32) (be : Nat → Nat) (f m e : Nat) : List Nat := (segL be f m).merge (segL be m e) (leK o)
theorem mg_l {o : Nat → Int32} {be : Nat → Nat} {lf rt m e : Nat} (hl : lf < m) (hr : e ≤ rt ∨ leK o (be lf) (be rt) = true) : (segL be lf m).merge (segL be rt e) (leK o) = be lf :: (segL be (lf + 1) m).merge (segL be rt e) (leK o) := by
  rw [seg_cons hl]
  by_cases g : e ≤ rt
  · rw [seg_nil g]
    cases segL be (lf + 1) m <;> simp [List.merge]
  · rw [seg_cons (show rt < e by omega), List.cons_merge_cons_pos _ _ _ (by rcases hr with q | q; (· omega); (· exact q))]
theorem mg_r {o : Nat → Int32} {be : Nat → Nat} {lf rt m e : Nat} (hr : rt < e) (hl : m ≤ lf ∨ ¬ leK o (be lf) (be rt) = true) : (segL be lf m).merge (segL be rt e) (leK o) = be rt :: (segL be lf m).merge (segL be (rt + 1) e) (leK o) := by
  rw [seg_cons hr]
  by_cases g : m ≤ lf
  · rw [seg_nil g]
    simp [List.merge]
  · rw [seg_cons (show lf < m by omega), List.cons_merge_cons_neg _ _ _ (by rcases hl with q | q; (· omega); (· exact q))]
def stp (ga : Nat → Nat) (t v : Nat) : Nat → Nat := fun q => if q = t then v else ga q
theorem stp_seg {ga : Nat → Nat} {f t v : Nat} (h : f ≤ t) : segL (stp ga t v) f (t + 1) = segL ga f t ++ [v] := by
  rw [seg_snoc h, seg_c (ga := ga) (fun q h1 h2 => by unfold stp; rw [if_neg (by omega)])]
  unfold stp
  rw [if_pos rfl]
theorem mi_s {sp : Nat → Int32} {ga : Nat → Nat} {f t v : Nat} (h : ∀ q : Nat, f ≤ q → q < t → sp q = nI (ga q)) : ∀ q : Nat, f ≤ q → q < t + 1 → upd sp t (nI v) q = nI (stp ga t v q) := fun q h1 h2 => by
  unfold stp
  by_cases e : q = t
  · rw [e, pk_us, if_pos rfl]
  · rw [pk_un e, if_neg e]
    exact h q h1 (by omega)

def BlkS (o : Nat → Int32) (be : Nat → Nat) (rn W : Nat) : Prop := ∀ k : Nat, k * rn < W → Blk o be (k * rn) (min (k * rn + rn) W)
theorem blk_c {o : Nat → Int32} {be ga : Nat → Nat} {a b : Nat} (h : ∀ q : Nat, a ≤ q → q < b → be q = ga q) (g : Blk o be a b) : Blk o ga a b := by
  unfold Blk at *
  rw [← seg_c h]
  exact g
theorem blk_e {o : Nat → Int32} {be : Nat → Nat} {a b : Nat} (h : b ≤ a) : Blk o be a b := by
  unfold Blk
  rw [seg_nil h, show b - a = 0 by omega]
  exact ⟨List.Pairwise.nil, List.Perm.refl _⟩
theorem blk_1 {o : Nat → Int32} {be : Nat → Nat} {W : Nat} (h : ∀ q : Nat, q < W → be q = q) : BlkS o be 1 W := fun k hk => by
  rw [Nat.mul_one] at hk ⊢
  rw [show min (k + 1) W = k + 1 by omega]
  unfold Blk
  rw [seg_cons (by omega), seg_nil (Nat.le_refl _), h k hk, show k + 1 - k = 1 by omega]
  exact ⟨List.pairwise_singleton _ _, List.Perm.refl _⟩
theorem blk_mg {o : Nat → Int32} {be ga : Nat → Nat} {f m e : Nat} (hfm : f ≤ m) (hme : m ≤ e) (h1 : Blk o be f m) (h2 : Blk o be m e) (hg : segL ga f e = mL o be f m e) : Blk o ga f e := by
  unfold Blk
  rw [hg]
  unfold mL
  refine ⟨List.pairwise_merge (le := leK o) leK_trans leK_total _ _ h1.1 h2.1, ?_⟩
  refine List.Perm.trans (List.merge_perm_append (le := leK o)) ?_
  refine List.Perm.trans (List.Perm.append h1.2 h2.2) ?_
  have e1 : List.range' f (m - f) ++ List.range' m (e - m) = List.range' f (e - f) := by
    have := List.range'_append_1 (s := f) (m := m - f) (n := e - m)
    rw [show f + (m - f) = m by omega, show m - f + (e - m) = e - f by omega] at this
    exact this
  rw [e1]
def mx (ga gm : Nat → Nat) (fr : Nat) : Nat → Nat := fun q => if q < fr then ga q else gm q
theorem blk_two {o : Nat → Int32} {be : Nat → Nat} {rn W j : Nat} (h : BlkS o be rn W) (hj : j * (2 * rn) < W) : Blk o be (j * (2 * rn)) (min (j * (2 * rn) + rn) W) ∧ Blk o be (min (j * (2 * rn) + rn) W) (min (j * (2 * rn) + 2 * rn) W) := by
  have e1 : j * (2 * rn) = (2 * j) * rn := by rw [← Nat.mul_assoc, Nat.mul_comm j 2]
  have e2 : (2 * j + 1) * rn = (2 * j) * rn + rn := Nat.succ_mul _ _
  have a1 := h (2 * j) (by omega)
  refine ⟨by rw [e1]; exact a1, ?_⟩
  by_cases g : (2 * j) * rn + rn < W
  · have a2 := h (2 * j + 1) (by omega)
    rw [e2] at a2
    rw [e1, show min ((2 * j) * rn + rn) W = (2 * j) * rn + rn by omega, show min ((2 * j) * rn + 2 * rn) W = min ((2 * j) * rn + rn + rn) W by omega]
    exact a2
  · exact blk_e (by omega)
theorem two_lt {o : Nat → Int32} {be : Nat → Nat} {f m e : Nat} (h1 : Blk o be f m) (h2 : Blk o be m e) : ∀ p9 q : Nat, f ≤ p9 → p9 < m → m ≤ q → q < e → be p9 < be q := fun p9 q a b c d => by
  have x1 := (blk_mem h1 a b).2
  have x2 := (blk_mem h2 c d).1
  omega
theorem mx_B {o : Nat → Int32} {ga gm : Nat → Nat} {rn W j fr : Nat} (hfr : fr = j * (2 * rn)) (hr : 1 ≤ rn) (h : ∀ k : Nat, k * (2 * rn) < fr → k * (2 * rn) < W → Blk o ga (k * (2 * rn)) (min (k * (2 * rn) + 2 * rn) W)) (hm : Blk o gm fr (min (fr + 2 * rn) W)) : ∀ k : Nat, k * (2 * rn) < fr + 2 * rn → k * (2 * rn) < W → Blk o (mx ga gm fr) (k * (2 * rn)) (min (k * (2 * rn) + 2 * rn) W) := fun k hk hW => by
  have e1 : (j + 1) * (2 * rn) = j * (2 * rn) + 2 * rn := Nat.succ_mul _ _
  have hkj : k < j + 1 := Nat.lt_of_mul_lt_mul_right (a := 2 * rn) (by omega)
  by_cases e : k = j
  · subst e
    rw [← hfr]
    refine blk_c (fun q h1 h2 => ?_) hm
    unfold mx
    rw [if_neg (by omega)]
  · have e2 : (k + 1) * (2 * rn) ≤ j * (2 * rn) := Nat.mul_le_mul_right _ (by omega)
    rw [Nat.succ_mul] at e2
    refine blk_c (fun q h1 h2 => ?_) (h k (by omega) hW)
    unfold mx
    rw [if_pos (by omega)]
theorem mx_g {c172 d172 : Nat → Int32} {ga gm : Nat → Nat} {o : Nat → Int32} {fr e W : Nat} (hW : W ≤ 256) (he : e ≤ W) (h : ∀ q : Nat, q < fr → q < W → c172 q = nI (ga q) ∧ ga q < 256) (h1 : ∀ q : Nat, fr ≤ q → q < e → d172 q = nI (gm q)) (h2 : ∀ q : Nat, q < fr → d172 q = c172 q) (hm : Blk o gm fr e) : ∀ q : Nat, q < e → d172 q = nI (mx ga gm fr q) ∧ mx ga gm fr q < 256 := fun q hq => by
  unfold mx
  by_cases g : q < fr
  · rw [if_pos g, h2 q g]
    exact h q g (by omega)
  · rw [if_neg g, h1 q (by omega) hq]
    have := (blk_mem hm (by omega) hq).2
    exact ⟨rfl, by omega⟩
theorem bdX8_mergeRuns_0 : (decode cX8_mergeRuns 0 = .ok (.iload_n 1, 1)) ∧ (decode cX8_mergeRuns 1 = .ok (.istore 4, 2)) ∧ (decode cX8_mergeRuns 3 = .ok (.iload_n 2, 1)) ∧ (decode cX8_mergeRuns 4 = .ok (.istore 5, 2)) ∧ (decode cX8_mergeRuns 6 = .ok (.iload_n 1, 1)) ∧ (decode cX8_mergeRuns 7 = .ok (.istore 6, 2)) ∧ (decode cX8_mergeRuns 9 = .ok (.iload 6, 2)) ∧ (decode cX8_mergeRuns 11 = .ok (.iload_n 3, 1)) ∧ (decode cX8_mergeRuns 12 = .ok (.if_icmp .ge 85, 3)) ∧ (decode cX8_mergeRuns 15 = .ok (.iload 4, 2)) ∧ (decode cX8_mergeRuns 17 = .ok (.iload_n 2, 1)) ∧ (decode cX8_mergeRuns 18 = .ok (.if_icmp .ge 56, 3)) ∧ (decode cX8_mergeRuns 21 = .ok (.iload 5, 2)) ∧ (decode cX8_mergeRuns 23 = .ok (.iload_n 3, 1)) ∧ (decode cX8_mergeRuns 24 = .ok (.if_icmp .ge 30, 3)) ∧ (decode cX8_mergeRuns 27 = .ok (.aload_n 0, 1)) := by decide +kernel
theorem dX8_mergeRuns_0 : decode cX8_mergeRuns 0 = .ok (.iload_n 1, 1) := bdX8_mergeRuns_0.1
theorem dX8_mergeRuns_1 : decode cX8_mergeRuns 1 = .ok (.istore 4, 2) := bdX8_mergeRuns_0.2.1
theorem dX8_mergeRuns_3 : decode cX8_mergeRuns 3 = .ok (.iload_n 2, 1) := bdX8_mergeRuns_0.2.2.1
theorem dX8_mergeRuns_4 : decode cX8_mergeRuns 4 = .ok (.istore 5, 2) := bdX8_mergeRuns_0.2.2.2.1
theorem dX8_mergeRuns_6 : decode cX8_mergeRuns 6 = .ok (.iload_n 1, 1) := bdX8_mergeRuns_0.2.2.2.2.1
theorem dX8_mergeRuns_7 : decode cX8_mergeRuns 7 = .ok (.istore 6, 2) := bdX8_mergeRuns_0.2.2.2.2.2.1
theorem dX8_mergeRuns_9 : decode cX8_mergeRuns 9 = .ok (.iload 6, 2) := bdX8_mergeRuns_0.2.2.2.2.2.2.1
theorem dX8_mergeRuns_11 : decode cX8_mergeRuns 11 = .ok (.iload_n 3, 1) := bdX8_mergeRuns_0.2.2.2.2.2.2.2.1
theorem dX8_mergeRuns_12 : decode cX8_mergeRuns 12 = .ok (.if_icmp .ge 85, 3) := bdX8_mergeRuns_0.2.2.2.2.2.2.2.2.1
theorem dX8_mergeRuns_15 : decode cX8_mergeRuns 15 = .ok (.iload 4, 2) := bdX8_mergeRuns_0.2.2.2.2.2.2.2.2.2.1
theorem dX8_mergeRuns_17 : decode cX8_mergeRuns 17 = .ok (.iload_n 2, 1) := bdX8_mergeRuns_0.2.2.2.2.2.2.2.2.2.2.1
theorem dX8_mergeRuns_18 : decode cX8_mergeRuns 18 = .ok (.if_icmp .ge 56, 3) := bdX8_mergeRuns_0.2.2.2.2.2.2.2.2.2.2.2.1
theorem dX8_mergeRuns_21 : decode cX8_mergeRuns 21 = .ok (.iload 5, 2) := bdX8_mergeRuns_0.2.2.2.2.2.2.2.2.2.2.2.2.1
theorem dX8_mergeRuns_23 : decode cX8_mergeRuns 23 = .ok (.iload_n 3, 1) := bdX8_mergeRuns_0.2.2.2.2.2.2.2.2.2.2.2.2.2.1
theorem dX8_mergeRuns_24 : decode cX8_mergeRuns 24 = .ok (.if_icmp .ge 30, 3) := bdX8_mergeRuns_0.2.2.2.2.2.2.2.2.2.2.2.2.2.2.1
theorem dX8_mergeRuns_27 : decode cX8_mergeRuns 27 = .ok (.aload_n 0, 1) := bdX8_mergeRuns_0.2.2.2.2.2.2.2.2.2.2.2.2.2.2.2
theorem bdX8_mergeRuns_28 : (decode cX8_mergeRuns 28 = .ok (.getfield 9, 3)) ∧ (decode cX8_mergeRuns 31 = .ok (.aload_n 0, 1)) ∧ (decode cX8_mergeRuns 32 = .ok (.getfield 15, 3)) ∧ (decode cX8_mergeRuns 35 = .ok (.iload 4, 2)) ∧ (decode cX8_mergeRuns 37 = .ok (.iaload, 1)) ∧ (decode cX8_mergeRuns 38 = .ok (.iaload, 1)) ∧ (decode cX8_mergeRuns 39 = .ok (.aload_n 0, 1)) ∧ (decode cX8_mergeRuns 40 = .ok (.getfield 9, 3)) ∧ (decode cX8_mergeRuns 43 = .ok (.aload_n 0, 1)) ∧ (decode cX8_mergeRuns 44 = .ok (.getfield 15, 3)) ∧ (decode cX8_mergeRuns 47 = .ok (.iload 5, 2)) ∧ (decode cX8_mergeRuns 49 = .ok (.iaload, 1)) ∧ (decode cX8_mergeRuns 50 = .ok (.iaload, 1)) ∧ (decode cX8_mergeRuns 51 = .ok (.if_icmp .gt 23, 3)) ∧ (decode cX8_mergeRuns 54 = .ok (.aload_n 0, 1)) ∧ (decode cX8_mergeRuns 55 = .ok (.getfield 18, 3)) := by decide +kernel
theorem dX8_mergeRuns_28 : decode cX8_mergeRuns 28 = .ok (.getfield 9, 3) := bdX8_mergeRuns_28.1
theorem dX8_mergeRuns_31 : decode cX8_mergeRuns 31 = .ok (.aload_n 0, 1) := bdX8_mergeRuns_28.2.1
theorem dX8_mergeRuns_32 : decode cX8_mergeRuns 32 = .ok (.getfield 15, 3) := bdX8_mergeRuns_28.2.2.1
theorem dX8_mergeRuns_35 : decode cX8_mergeRuns 35 = .ok (.iload 4, 2) := bdX8_mergeRuns_28.2.2.2.1
theorem dX8_mergeRuns_37 : decode cX8_mergeRuns 37 = .ok (.iaload, 1) := bdX8_mergeRuns_28.2.2.2.2.1
theorem dX8_mergeRuns_38 : decode cX8_mergeRuns 38 = .ok (.iaload, 1) := bdX8_mergeRuns_28.2.2.2.2.2.1
theorem dX8_mergeRuns_39 : decode cX8_mergeRuns 39 = .ok (.aload_n 0, 1) := bdX8_mergeRuns_28.2.2.2.2.2.2.1
theorem dX8_mergeRuns_40 : decode cX8_mergeRuns 40 = .ok (.getfield 9, 3) := bdX8_mergeRuns_28.2.2.2.2.2.2.2.1
theorem dX8_mergeRuns_43 : decode cX8_mergeRuns 43 = .ok (.aload_n 0, 1) := bdX8_mergeRuns_28.2.2.2.2.2.2.2.2.1
theorem dX8_mergeRuns_44 : decode cX8_mergeRuns 44 = .ok (.getfield 15, 3) := bdX8_mergeRuns_28.2.2.2.2.2.2.2.2.2.1
theorem dX8_mergeRuns_47 : decode cX8_mergeRuns 47 = .ok (.iload 5, 2) := bdX8_mergeRuns_28.2.2.2.2.2.2.2.2.2.2.1
theorem dX8_mergeRuns_49 : decode cX8_mergeRuns 49 = .ok (.iaload, 1) := bdX8_mergeRuns_28.2.2.2.2.2.2.2.2.2.2.2.1
theorem dX8_mergeRuns_50 : decode cX8_mergeRuns 50 = .ok (.iaload, 1) := bdX8_mergeRuns_28.2.2.2.2.2.2.2.2.2.2.2.2.1
theorem dX8_mergeRuns_51 : decode cX8_mergeRuns 51 = .ok (.if_icmp .gt 23, 3) := bdX8_mergeRuns_28.2.2.2.2.2.2.2.2.2.2.2.2.2.1
theorem dX8_mergeRuns_54 : decode cX8_mergeRuns 54 = .ok (.aload_n 0, 1) := bdX8_mergeRuns_28.2.2.2.2.2.2.2.2.2.2.2.2.2.2.1
theorem dX8_mergeRuns_55 : decode cX8_mergeRuns 55 = .ok (.getfield 18, 3) := bdX8_mergeRuns_28.2.2.2.2.2.2.2.2.2.2.2.2.2.2.2
theorem bdX8_mergeRuns_58 : (decode cX8_mergeRuns 58 = .ok (.iload 6, 2)) ∧ (decode cX8_mergeRuns 60 = .ok (.aload_n 0, 1)) ∧ (decode cX8_mergeRuns 61 = .ok (.getfield 15, 3)) ∧ (decode cX8_mergeRuns 64 = .ok (.iload 4, 2)) ∧ (decode cX8_mergeRuns 66 = .ok (.iaload, 1)) ∧ (decode cX8_mergeRuns 67 = .ok (.iastore, 1)) ∧ (decode cX8_mergeRuns 68 = .ok (.iinc 4 1, 3)) ∧ (decode cX8_mergeRuns 71 = .ok (.goto 20, 3)) ∧ (decode cX8_mergeRuns 74 = .ok (.aload_n 0, 1)) ∧ (decode cX8_mergeRuns 75 = .ok (.getfield 18, 3)) ∧ (decode cX8_mergeRuns 78 = .ok (.iload 6, 2)) ∧ (decode cX8_mergeRuns 80 = .ok (.aload_n 0, 1)) ∧ (decode cX8_mergeRuns 81 = .ok (.getfield 15, 3)) ∧ (decode cX8_mergeRuns 84 = .ok (.iload 5, 2)) ∧ (decode cX8_mergeRuns 86 = .ok (.iaload, 1)) ∧ (decode cX8_mergeRuns 87 = .ok (.iastore, 1)) := by decide +kernel
theorem dX8_mergeRuns_58 : decode cX8_mergeRuns 58 = .ok (.iload 6, 2) := bdX8_mergeRuns_58.1
theorem dX8_mergeRuns_60 : decode cX8_mergeRuns 60 = .ok (.aload_n 0, 1) := bdX8_mergeRuns_58.2.1
theorem dX8_mergeRuns_61 : decode cX8_mergeRuns 61 = .ok (.getfield 15, 3) := bdX8_mergeRuns_58.2.2.1
theorem dX8_mergeRuns_64 : decode cX8_mergeRuns 64 = .ok (.iload 4, 2) := bdX8_mergeRuns_58.2.2.2.1
theorem dX8_mergeRuns_66 : decode cX8_mergeRuns 66 = .ok (.iaload, 1) := bdX8_mergeRuns_58.2.2.2.2.1
theorem dX8_mergeRuns_67 : decode cX8_mergeRuns 67 = .ok (.iastore, 1) := bdX8_mergeRuns_58.2.2.2.2.2.1
theorem dX8_mergeRuns_68 : decode cX8_mergeRuns 68 = .ok (.iinc 4 1, 3) := bdX8_mergeRuns_58.2.2.2.2.2.2.1
theorem dX8_mergeRuns_71 : decode cX8_mergeRuns 71 = .ok (.goto 20, 3) := bdX8_mergeRuns_58.2.2.2.2.2.2.2.1
theorem dX8_mergeRuns_74 : decode cX8_mergeRuns 74 = .ok (.aload_n 0, 1) := bdX8_mergeRuns_58.2.2.2.2.2.2.2.2.1
theorem dX8_mergeRuns_75 : decode cX8_mergeRuns 75 = .ok (.getfield 18, 3) := bdX8_mergeRuns_58.2.2.2.2.2.2.2.2.2.1
theorem dX8_mergeRuns_78 : decode cX8_mergeRuns 78 = .ok (.iload 6, 2) := bdX8_mergeRuns_58.2.2.2.2.2.2.2.2.2.2.1
theorem dX8_mergeRuns_80 : decode cX8_mergeRuns 80 = .ok (.aload_n 0, 1) := bdX8_mergeRuns_58.2.2.2.2.2.2.2.2.2.2.2.1
theorem dX8_mergeRuns_81 : decode cX8_mergeRuns 81 = .ok (.getfield 15, 3) := bdX8_mergeRuns_58.2.2.2.2.2.2.2.2.2.2.2.2.1
theorem dX8_mergeRuns_84 : decode cX8_mergeRuns 84 = .ok (.iload 5, 2) := bdX8_mergeRuns_58.2.2.2.2.2.2.2.2.2.2.2.2.2.1
theorem dX8_mergeRuns_86 : decode cX8_mergeRuns 86 = .ok (.iaload, 1) := bdX8_mergeRuns_58.2.2.2.2.2.2.2.2.2.2.2.2.2.2.1
theorem dX8_mergeRuns_87 : decode cX8_mergeRuns 87 = .ok (.iastore, 1) := bdX8_mergeRuns_58.2.2.2.2.2.2.2.2.2.2.2.2.2.2.2
theorem bdX8_mergeRuns_88 : (decode cX8_mergeRuns 88 = .ok (.iinc 5 1, 3)) ∧ (decode cX8_mergeRuns 91 = .ok (.iinc 6 1, 3)) ∧ (decode cX8_mergeRuns 94 = .ok (.goto (-85), 3)) ∧ (decode cX8_mergeRuns 97 = .ok (.return_, 1)) := by decide +kernel
theorem dX8_mergeRuns_88 : decode cX8_mergeRuns 88 = .ok (.iinc 5 1, 3) := bdX8_mergeRuns_88.1
theorem dX8_mergeRuns_91 : decode cX8_mergeRuns 91 = .ok (.iinc 6 1, 3) := bdX8_mergeRuns_88.2.1
theorem dX8_mergeRuns_94 : decode cX8_mergeRuns 94 = .ok (.goto (-85), 3) := bdX8_mergeRuns_88.2.2.1
theorem dX8_mergeRuns_97 : decode cX8_mergeRuns 97 = .ok (.return_, 1) := bdX8_mergeRuns_88.2.2.2
set_option maxHeartbeats 4000000 in
set_option maxRecDepth 100000 in
theorem k_X8_mergeRuns (l : Launch) (dC : Nat → ClassId) (dI : Nat → Nat → Nat) (h : Nat → Nat) (cs : Nat → ClassId) (sz : Nat) (I : Nat → Int32) (L : Nat → Int64) (A : Nat → Nat → Int32) (Q : Nat → Nat → Int64) (G : Nat → Nat → Nat → Int32) (J : Nat → Nat → Nat → Int64) (f9 m9 e9 : Nat) (be : Nat → Nat) (hfm : f9 ≤ m9) (hme : m9 ≤ e9) (he9 : e9 ≤ 256) (hby : ∀ q : Nat, q < e9 → A 171 q = nI (be q) ∧ be q < 256) (hlt : ∀ p9 q : Nat, f9 ≤ p9 → p9 < m9 → m9 ≤ q → q < e9 → be p9 < be q) : Met l yX8_mergeRuns wsX8_mergeRuns ({ frames := 0, cells := 0, slots := 0, locals := 0 }) (va_Pc [.ref (h 105), .int (nI f9), .int (nI m9), .int (nI e9)] (xPre (dC, dI) (wWords h cs I L A Q G J) (tysA cs) sz)) (va_Qv (fun (u : CS) => ∃ a172 : Nat → Int32, (∃ ga : Nat → Nat, (∀ q : Nat, f9 ≤ q → q < e9 → a172 q = nI (ga q)) ∧ segL ga f9 e9 = mL (A 170) be f9 m9 e9 ∧ ∀ q : Nat, q < f9 → a172 q = A 172 q) ∧ u = (I, L, (va_up A 172 a172), Q, G, J)) (xB (dC, dI) (tysA cs) (va_A (wWords h cs I L A Q G J) sz) (fun u : CS => wWords h cs u.1 u.2.1 u.2.2.1 u.2.2.2.1 u.2.2.2.2.1 u.2.2.2.2.2)) (va_A (wWords h cs I L A Q G J) sz)) 0 0 (va_A (wWords h cs I L A Q G J) sz) := by
  refine Met.ofW (cc := cX8_mergeRuns) (maxL := 7) (ret := none) (by decide) rfl ?_
  intro p e s m args below meth c s₁ B hml hv
  obtain ⟨rfl, hsz, hP, hK, hD0, hN⟩ := hv
  have hx := B.exec
  have hb := B.bytes
  have hr := B.returns
  have hts := atoms_spec (ws := wsX8_mergeRuns) B.pre
  have hown : s.vm.findClass RX8 = some m.cls := findClass_of_methodNamed B.named
  have hlocks := B.notSynchronized
  subst hsz
  have hD := hD0.self (sz := s.heap.size)
  generalize hAe : va_A (wWords h cs I L A Q G J) s.heap.size = A0 at hD ⊢
  have hA : ∀ q : Nat, s.heap.size ≤ q → A0 q := fun q h => by rw [← hAe]; exact Or.inr h
  have hl := lv_entry ([.ref (h 105), .int (nI f9), .int (nI m9), .int (nI e9)]) (n := 7) (Nat.le_of_ble_eq_true rfl)
  rw [lg_entry_eq]
  generalize (lg_sl ([.ref (h 105), .int (nI f9), .int (nI m9), .int (nI e9)]) ++ List.replicate (7 - (lg_sl ([.ref (h 105), .int (nI f9), .int (nI m9), .int (nI e9)])).length) Slot.unset).toArray = ls at hl ⊢
  have hl : lv_has ls 7 [(0, .ref (h 105)), (1, .int (nI f9)), (2, .int (nI m9)), (3, .int (nI e9))] := hl
  generalize hH : s.heap = H at hP ⊢
  have hS : va_S A0 s.heap H [] := by rw [← hH]; exact va_S.rf
  have hinX8 : ∀ w ∈ wsX80, w ∈ wsX8_mergeRuns := by decide +kernel
  refine lv_iload_n hx hb dX8_mergeRuns_0 rfl (lv_at hl 1 rfl) ?_
  refine lv_istore (lv' := [(4, .int (nI f9)), (0, .ref (h 105)), (1, .int (nI f9)), (2, .int (nI m9)), (3, .int (nI e9))]) hx hb dX8_mergeRuns_1 hl (by decide) rfl (fun ls hl => ?_)
  refine lv_iload_n hx hb dX8_mergeRuns_3 rfl (lv_at hl 3 rfl) ?_
  refine lv_istore (lv' := [(5, .int (nI m9)), (4, .int (nI f9)), (0, .ref (h 105)), (1, .int (nI f9)), (2, .int (nI m9)), (3, .int (nI e9))]) hx hb dX8_mergeRuns_4 hl (by decide) rfl (fun ls hl => ?_)
  refine lv_iload_n hx hb dX8_mergeRuns_6 rfl (lv_at hl 3 rfl) ?_
  refine lv_istore (lv' := [(6, .int (nI f9)), (5, .int (nI m9)), (4, .int (nI f9)), (0, .ref (h 105)), (1, .int (nI f9)), (2, .int (nI m9)), (3, .int (nI e9))]) hx hb dX8_mergeRuns_7 hl (by decide) rfl (fun ls hl => ?_)
  have cut_9 : ∀ (nf : Nat) (lf : Nat) (rt : Nat) (t6 : Nat) (sp : Nat → Int32) (ga : Nat → Nat), (e9 - t6) < nf → (f9 ≤ lf) → (lf ≤ m9) → (m9 ≤ rt) → (rt ≤ e9) → (t6 + m9 = lf + rt) → (t6 ≤ e9) → (∀ q : Nat, f9 ≤ q → q < t6 → sp q = nI (ga q)) → (segL ga f9 t6 ++ (segL be lf m9).merge (segL be rt e9) (leK (A 170)) = mL (A 170) be f9 m9 e9) → (∀ q : Nat, q < f9 → sp q = A 172 q) → ∀ (H : Heap) (locs : List Loc) (ls : Array Slot), va_P (dC, dI) vwCl (wWords h cs I L (va_up A 172 sp) Q G J) H → va_D A0 (wWords h cs I L (va_up A 172 sp) Q G J) → va_S A0 s.heap H locs → lv_has ls 7 [(0, .ref (h 105)), (1, .int (nI f9)), (2, .int (nI m9)), (3, .int (nI e9)), (4, .int (nI lf)), (5, .int (nI rt)), (6, .int (nI t6))] → W p l e (headSpec wsX8_mergeRuns ({ frames := 0, cells := 0, slots := 0, locals := 0 })).room s m ([.ref (h 105), .int (nI f9), .int (nI m9), .int (nI e9)] : List Value).toArray below meth c H locs 0 0 (MQ below (va_Qv (fun (u : CS) => ∃ a172 : Nat → Int32, (∃ ga : Nat → Nat, (∀ q : Nat, f9 ≤ q → q < e9 → a172 q = nI (ga q)) ∧ segL ga f9 e9 = mL (A 170) be f9 m9 e9 ∧ ∀ q : Nat, q < f9 → a172 q = A 172 q) ∧ u = (I, L, (va_up A 172 a172), Q, G, J)) (xB (dC, dI) (tysA cs) A0 (fun u : CS => wWords h cs u.1 u.2.1 u.2.2.1 u.2.2.2.1 u.2.2.2.2.1 u.2.2.2.2.2)) A0) ([.ref (h 105), .int (nI f9), .int (nI m9), .int (nI e9)] : List Value).toArray s 0 0 A0) (F0 m 9 ls []) := by
    intro nf
    induction nf with
    | zero => intro lf rt t6 sp ga hm; exact absurd hm (Nat.not_lt_zero _)
    | succ nf ih_9 =>
      intro lf rt t6 sp ga hm_9 h1_9 h2_9 h3_9 h4_9 h5_9 h6_9 hs9 hm9 ho9 H locs ls hP hD hS hl
      refine lv_iload hx hb dX8_mergeRuns_9 (lv_at hl 6 rfl) ?_
      refine lv_iload_n hx hb dX8_mergeRuns_11 rfl (lv_at hl 3 rfl) ?_
      refine xn_ge (tgt := 97) hx hb dX8_mergeRuns_12 (by decide) (by omega) (by omega) (fun c_12_0 => ?_) (fun c_12_0 => ?_)
      · skip
        exact xr_v hx hb hr hlocks hK hS dX8_mergeRuns_97 (I, L, (va_up A 172 sp), Q, G, J) ⟨sp, ⟨ga, fun q h1 h2 => hs9 q h1 (by omega), by rw [← hm9, seg_nil (be := be) (a := lf) (show m9 ≤ lf by omega), seg_nil (be := be) (a := rt) (show e9 ≤ rt by omega), show e9 = t6 by omega]; simp [List.merge], ho9⟩, rfl⟩ hP hD
      · skip
        refine lv_iload hx hb dX8_mergeRuns_15 (lv_at hl 4 rfl) ?_
        refine lv_iload_n hx hb dX8_mergeRuns_17 rfl (lv_at hl 2 rfl) ?_
        refine xn_ge (tgt := 74) hx hb dX8_mergeRuns_18 (by decide) (by omega) (by omega) (fun c_18_1 => ?_) (fun c_18_1 => ?_)
        · skip
          refine lv_aload_n hx hb dX8_mergeRuns_74 rfl (lv_at hl 0 rfl) ?_
          refine va_get (D := (dC, dI)) (ci := 8) (v := .ref (h 172)) (C := RX8) (T := TX8) (N := 6) hx hb hts hinX8 hown hK hP 0 rfl rfl 3 (by decide) (hts (.fieldLink RX8 18 "MixedWords$Words" "spare" "[I") (by decide +kernel)) (fun _ h9 => h9) rfl dX8_mergeRuns_75 ?_
          refine lv_iload hx hb dX8_mergeRuns_78 (lv_at hl 6 rfl) ?_
          refine lv_aload_n hx hb dX8_mergeRuns_80 rfl (lv_at hl 0 rfl) ?_
          refine va_get (D := (dC, dI)) (ci := 8) (v := .ref (h 171)) (C := RX8) (T := TX8) (N := 6) hx hb hts hinX8 hown hK hP 0 rfl rfl 2 (by decide) (hts (.fieldLink RX8 15 "MixedWords$Words" "byOff" "[I") (by decide +kernel)) (fun _ h9 => h9) rfl dX8_mergeRuns_81 ?_
          refine lv_iload hx hb dX8_mergeRuns_84 (lv_at hl 5 rfl) ?_
          refine xa_iald hx hb hK hP 2 0 rfl rfl (by omega) (by decide) dX8_mergeRuns_86 ?_
          obtain ⟨e87, hv87⟩ := hby rt (by omega)
          refine xt_i (y := nI (be rt)) (e87) ?_
          refine xa_iast hx hb hK hP hD hS 3 0 rfl rfl (by omega) (by decide) dX8_mergeRuns_87 (fun H locs hP hD hS => ?_)
          have hP : va_P (dC, dI) vwCl (wWords h cs I L (va_up A 172 (upd sp t6 (nI (be rt)))) Q G J) H := hP
          have hD : va_D A0 (wWords h cs I L (va_up A 172 (upd sp t6 (nI (be rt)))) Q G J) := hD
          refine lv_iinc (v := nI (rt + 1)) (lv' := [(5, .int (nI (rt + 1))), (0, .ref (h 105)), (1, .int (nI f9)), (2, .int (nI m9)), (3, .int (nI e9)), (4, .int (nI lf)), (6, .int (nI t6))]) hx hb dX8_mergeRuns_88 hl (k := 5) rfl (nI_1 _) (by decide) rfl (fun ls hl => ?_)
          refine lv_iinc (v := nI (t6 + 1)) (lv' := [(6, .int (nI (t6 + 1))), (5, .int (nI (rt + 1))), (0, .ref (h 105)), (1, .int (nI f9)), (2, .int (nI m9)), (3, .int (nI e9)), (4, .int (nI lf))]) hx hb dX8_mergeRuns_91 hl (k := 6) rfl (nI_1 _) (by decide) rfl (fun ls hl => ?_)
          refine lv_goto (tgt := 9) hx hb dX8_mergeRuns_94 (by decide) ?_
          exact ih_9 lf (rt + 1) (t6 + 1) (upd sp t6 (nI (be rt))) (stp ga t6 (be rt)) (by omega) (by first | assumption | omega) (by first | assumption | omega) (by first | assumption | omega) (by first | assumption | omega) (by first | assumption | omega) (by first | assumption | omega) (by first | (intro q h1 h2; omega) | exact mi_s hs9) (by first | (rw [seg_nil (Nat.le_refl f9)]; rfl) | (rw [stp_seg (by omega), List.append_assoc, List.singleton_append, ← mg_l (by omega) (by first | exact Or.inl (by omega) | exact Or.inr (leK_lt (hlt lf rt (by omega) (by omega) (by omega) (by omega)) |>.mpr (by assumption)))]; exact hm9) | (rw [stp_seg (by omega), List.append_assoc, List.singleton_append, ← mg_r (by omega) (by first | exact Or.inl (by omega) | exact Or.inr (fun q9 => absurd ((leK_lt (hlt lf rt (by omega) (by omega) (by omega) (by omega))).mp q9) (by assumption)))]; exact hm9)) (by first | exact (fun _ _ => rfl) | exact (fun q hq => (pk_un (by omega)).trans (ho9 q hq))) _ _ _ hP hD hS (lv_sub hl [2, 3, 4, 5, 6, 1, 0] rfl)
        · skip
          refine lv_iload hx hb dX8_mergeRuns_21 (lv_at hl 5 rfl) ?_
          refine lv_iload_n hx hb dX8_mergeRuns_23 rfl (lv_at hl 3 rfl) ?_
          refine xn_ge (tgt := 54) hx hb dX8_mergeRuns_24 (by decide) (by omega) (by omega) (fun c_24_2 => ?_) (fun c_24_2 => ?_)
          · skip
            refine lv_aload_n hx hb dX8_mergeRuns_54 rfl (lv_at hl 0 rfl) ?_
            refine va_get (D := (dC, dI)) (ci := 8) (v := .ref (h 172)) (C := RX8) (T := TX8) (N := 6) hx hb hts hinX8 hown hK hP 0 rfl rfl 3 (by decide) (hts (.fieldLink RX8 18 "MixedWords$Words" "spare" "[I") (by decide +kernel)) (fun _ h9 => h9) rfl dX8_mergeRuns_55 ?_
            refine lv_iload hx hb dX8_mergeRuns_58 (lv_at hl 6 rfl) ?_
            refine lv_aload_n hx hb dX8_mergeRuns_60 rfl (lv_at hl 0 rfl) ?_
            refine va_get (D := (dC, dI)) (ci := 8) (v := .ref (h 171)) (C := RX8) (T := TX8) (N := 6) hx hb hts hinX8 hown hK hP 0 rfl rfl 2 (by decide) (hts (.fieldLink RX8 15 "MixedWords$Words" "byOff" "[I") (by decide +kernel)) (fun _ h9 => h9) rfl dX8_mergeRuns_61 ?_
            refine lv_iload hx hb dX8_mergeRuns_64 (lv_at hl 4 rfl) ?_
            refine xa_iald hx hb hK hP 2 0 rfl rfl (by omega) (by decide) dX8_mergeRuns_66 ?_
            obtain ⟨e67, hv67⟩ := hby lf (by omega)
            refine xt_i (y := nI (be lf)) (e67) ?_
            refine xa_iast hx hb hK hP hD hS 3 0 rfl rfl (by omega) (by decide) dX8_mergeRuns_67 (fun H locs hP hD hS => ?_)
            have hP : va_P (dC, dI) vwCl (wWords h cs I L (va_up A 172 (upd sp t6 (nI (be lf)))) Q G J) H := hP
            have hD : va_D A0 (wWords h cs I L (va_up A 172 (upd sp t6 (nI (be lf)))) Q G J) := hD
            refine lv_iinc (v := nI (lf + 1)) (lv' := [(4, .int (nI (lf + 1))), (0, .ref (h 105)), (1, .int (nI f9)), (2, .int (nI m9)), (3, .int (nI e9)), (5, .int (nI rt)), (6, .int (nI t6))]) hx hb dX8_mergeRuns_68 hl (k := 4) rfl (nI_1 _) (by decide) rfl (fun ls hl => ?_)
            refine lv_goto (tgt := 91) hx hb dX8_mergeRuns_71 (by decide) ?_
            refine lv_iinc (v := nI (t6 + 1)) (lv' := [(6, .int (nI (t6 + 1))), (4, .int (nI (lf + 1))), (0, .ref (h 105)), (1, .int (nI f9)), (2, .int (nI m9)), (3, .int (nI e9)), (5, .int (nI rt))]) hx hb dX8_mergeRuns_91 hl (k := 6) rfl (nI_1 _) (by decide) rfl (fun ls hl => ?_)
            refine lv_goto (tgt := 9) hx hb dX8_mergeRuns_94 (by decide) ?_
            exact ih_9 (lf + 1) rt (t6 + 1) (upd sp t6 (nI (be lf))) (stp ga t6 (be lf)) (by omega) (by first | assumption | omega) (by first | assumption | omega) (by first | assumption | omega) (by first | assumption | omega) (by first | assumption | omega) (by first | assumption | omega) (by first | (intro q h1 h2; omega) | exact mi_s hs9) (by first | (rw [seg_nil (Nat.le_refl f9)]; rfl) | (rw [stp_seg (by omega), List.append_assoc, List.singleton_append, ← mg_l (by omega) (by first | exact Or.inl (by omega) | exact Or.inr (leK_lt (hlt lf rt (by omega) (by omega) (by omega) (by omega)) |>.mpr (by assumption)))]; exact hm9) | (rw [stp_seg (by omega), List.append_assoc, List.singleton_append, ← mg_r (by omega) (by first | exact Or.inl (by omega) | exact Or.inr (fun q9 => absurd ((leK_lt (hlt lf rt (by omega) (by omega) (by omega) (by omega))).mp q9) (by assumption)))]; exact hm9)) (by first | exact (fun _ _ => rfl) | exact (fun q hq => (pk_un (by omega)).trans (ho9 q hq))) _ _ _ hP hD hS (lv_sub hl [2, 3, 4, 5, 1, 6, 0] rfl)
          · skip
            refine lv_aload_n hx hb dX8_mergeRuns_27 rfl (lv_at hl 0 rfl) ?_
            refine va_get (D := (dC, dI)) (ci := 8) (v := .ref (h 170)) (C := RX8) (T := TX8) (N := 6) hx hb hts hinX8 hown hK hP 0 rfl rfl 1 (by decide) (hts (.fieldLink RX8 9 "MixedWords$Words" "offs" "[I") (by decide +kernel)) (fun _ h9 => h9) rfl dX8_mergeRuns_28 ?_
            refine lv_aload_n hx hb dX8_mergeRuns_31 rfl (lv_at hl 0 rfl) ?_
            refine va_get (D := (dC, dI)) (ci := 8) (v := .ref (h 171)) (C := RX8) (T := TX8) (N := 6) hx hb hts hinX8 hown hK hP 0 rfl rfl 2 (by decide) (hts (.fieldLink RX8 15 "MixedWords$Words" "byOff" "[I") (by decide +kernel)) (fun _ h9 => h9) rfl dX8_mergeRuns_32 ?_
            refine lv_iload hx hb dX8_mergeRuns_35 (lv_at hl 4 rfl) ?_
            refine xa_iald hx hb hK hP 2 0 rfl rfl (by omega) (by decide) dX8_mergeRuns_37 ?_
            obtain ⟨e38, hv38⟩ := hby lf (by omega)
            refine xt_i (y := nI (be lf)) (e38) ?_
            refine xa_iald hx hb hK hP 1 0 rfl rfl (by omega) (by decide) dX8_mergeRuns_38 ?_
            refine lv_aload_n hx hb dX8_mergeRuns_39 rfl (lv_at hl 0 rfl) ?_
            refine va_get (D := (dC, dI)) (ci := 8) (v := .ref (h 170)) (C := RX8) (T := TX8) (N := 6) hx hb hts hinX8 hown hK hP 0 rfl rfl 1 (by decide) (hts (.fieldLink RX8 9 "MixedWords$Words" "offs" "[I") (by decide +kernel)) (fun _ h9 => h9) rfl dX8_mergeRuns_40 ?_
            refine lv_aload_n hx hb dX8_mergeRuns_43 rfl (lv_at hl 0 rfl) ?_
            refine va_get (D := (dC, dI)) (ci := 8) (v := .ref (h 171)) (C := RX8) (T := TX8) (N := 6) hx hb hts hinX8 hown hK hP 0 rfl rfl 2 (by decide) (hts (.fieldLink RX8 15 "MixedWords$Words" "byOff" "[I") (by decide +kernel)) (fun _ h9 => h9) rfl dX8_mergeRuns_44 ?_
            refine lv_iload hx hb dX8_mergeRuns_47 (lv_at hl 5 rfl) ?_
            refine xa_iald hx hb hK hP 2 0 rfl rfl (by omega) (by decide) dX8_mergeRuns_49 ?_
            obtain ⟨e50, hv50⟩ := hby rt (by omega)
            refine xt_i (y := nI (be rt)) (e50) ?_
            refine xa_iald hx hb hK hP 1 0 rfl rfl (by omega) (by decide) dX8_mergeRuns_50 ?_
            refine lv_icmp_gt (tgt := 74) hx hb dX8_mergeRuns_51 (by decide) (fun c_51_3 => ?_) (fun c_51_3 => ?_)
            · skip
              have c51 : ¬ A 170 (be lf) ≤ A 170 (be rt) := Int32.not_le.mpr c_51_3
              refine lv_aload_n hx hb dX8_mergeRuns_74 rfl (lv_at hl 0 rfl) ?_
              refine va_get (D := (dC, dI)) (ci := 8) (v := .ref (h 172)) (C := RX8) (T := TX8) (N := 6) hx hb hts hinX8 hown hK hP 0 rfl rfl 3 (by decide) (hts (.fieldLink RX8 18 "MixedWords$Words" "spare" "[I") (by decide +kernel)) (fun _ h9 => h9) rfl dX8_mergeRuns_75 ?_
              refine lv_iload hx hb dX8_mergeRuns_78 (lv_at hl 6 rfl) ?_
              refine lv_aload_n hx hb dX8_mergeRuns_80 rfl (lv_at hl 0 rfl) ?_
              refine va_get (D := (dC, dI)) (ci := 8) (v := .ref (h 171)) (C := RX8) (T := TX8) (N := 6) hx hb hts hinX8 hown hK hP 0 rfl rfl 2 (by decide) (hts (.fieldLink RX8 15 "MixedWords$Words" "byOff" "[I") (by decide +kernel)) (fun _ h9 => h9) rfl dX8_mergeRuns_81 ?_
              refine lv_iload hx hb dX8_mergeRuns_84 (lv_at hl 5 rfl) ?_
              refine xa_iald hx hb hK hP 2 0 rfl rfl (by omega) (by decide) dX8_mergeRuns_86 ?_
              obtain ⟨e87, hv87⟩ := hby rt (by omega)
              refine xt_i (y := nI (be rt)) (e87) ?_
              refine xa_iast hx hb hK hP hD hS 3 0 rfl rfl (by omega) (by decide) dX8_mergeRuns_87 (fun H locs hP hD hS => ?_)
              have hP : va_P (dC, dI) vwCl (wWords h cs I L (va_up A 172 (upd sp t6 (nI (be rt)))) Q G J) H := hP
              have hD : va_D A0 (wWords h cs I L (va_up A 172 (upd sp t6 (nI (be rt)))) Q G J) := hD
              refine lv_iinc (v := nI (rt + 1)) (lv' := [(5, .int (nI (rt + 1))), (0, .ref (h 105)), (1, .int (nI f9)), (2, .int (nI m9)), (3, .int (nI e9)), (4, .int (nI lf)), (6, .int (nI t6))]) hx hb dX8_mergeRuns_88 hl (k := 5) rfl (nI_1 _) (by decide) rfl (fun ls hl => ?_)
              refine lv_iinc (v := nI (t6 + 1)) (lv' := [(6, .int (nI (t6 + 1))), (5, .int (nI (rt + 1))), (0, .ref (h 105)), (1, .int (nI f9)), (2, .int (nI m9)), (3, .int (nI e9)), (4, .int (nI lf))]) hx hb dX8_mergeRuns_91 hl (k := 6) rfl (nI_1 _) (by decide) rfl (fun ls hl => ?_)
              refine lv_goto (tgt := 9) hx hb dX8_mergeRuns_94 (by decide) ?_
              exact ih_9 lf (rt + 1) (t6 + 1) (upd sp t6 (nI (be rt))) (stp ga t6 (be rt)) (by omega) (by first | assumption | omega) (by first | assumption | omega) (by first | assumption | omega) (by first | assumption | omega) (by first | assumption | omega) (by first | assumption | omega) (by first | (intro q h1 h2; omega) | exact mi_s hs9) (by first | (rw [seg_nil (Nat.le_refl f9)]; rfl) | (rw [stp_seg (by omega), List.append_assoc, List.singleton_append, ← mg_l (by omega) (by first | exact Or.inl (by omega) | exact Or.inr (leK_lt (hlt lf rt (by omega) (by omega) (by omega) (by omega)) |>.mpr (by assumption)))]; exact hm9) | (rw [stp_seg (by omega), List.append_assoc, List.singleton_append, ← mg_r (by omega) (by first | exact Or.inl (by omega) | exact Or.inr (fun q9 => absurd ((leK_lt (hlt lf rt (by omega) (by omega) (by omega) (by omega))).mp q9) (by assumption)))]; exact hm9)) (by first | exact (fun _ _ => rfl) | exact (fun q hq => (pk_un (by omega)).trans (ho9 q hq))) _ _ _ hP hD hS (lv_sub hl [2, 3, 4, 5, 6, 1, 0] rfl)
            · skip
              have c51 : A 170 (be lf) ≤ A 170 (be rt) := Int32.not_lt.mp c_51_3
              refine lv_aload_n hx hb dX8_mergeRuns_54 rfl (lv_at hl 0 rfl) ?_
              refine va_get (D := (dC, dI)) (ci := 8) (v := .ref (h 172)) (C := RX8) (T := TX8) (N := 6) hx hb hts hinX8 hown hK hP 0 rfl rfl 3 (by decide) (hts (.fieldLink RX8 18 "MixedWords$Words" "spare" "[I") (by decide +kernel)) (fun _ h9 => h9) rfl dX8_mergeRuns_55 ?_
              refine lv_iload hx hb dX8_mergeRuns_58 (lv_at hl 6 rfl) ?_
              refine lv_aload_n hx hb dX8_mergeRuns_60 rfl (lv_at hl 0 rfl) ?_
              refine va_get (D := (dC, dI)) (ci := 8) (v := .ref (h 171)) (C := RX8) (T := TX8) (N := 6) hx hb hts hinX8 hown hK hP 0 rfl rfl 2 (by decide) (hts (.fieldLink RX8 15 "MixedWords$Words" "byOff" "[I") (by decide +kernel)) (fun _ h9 => h9) rfl dX8_mergeRuns_61 ?_
              refine lv_iload hx hb dX8_mergeRuns_64 (lv_at hl 4 rfl) ?_
              refine xa_iald hx hb hK hP 2 0 rfl rfl (by omega) (by decide) dX8_mergeRuns_66 ?_
              obtain ⟨e67, hv67⟩ := hby lf (by omega)
              refine xt_i (y := nI (be lf)) (e67) ?_
              refine xa_iast hx hb hK hP hD hS 3 0 rfl rfl (by omega) (by decide) dX8_mergeRuns_67 (fun H locs hP hD hS => ?_)
              have hP : va_P (dC, dI) vwCl (wWords h cs I L (va_up A 172 (upd sp t6 (nI (be lf)))) Q G J) H := hP
              have hD : va_D A0 (wWords h cs I L (va_up A 172 (upd sp t6 (nI (be lf)))) Q G J) := hD
              refine lv_iinc (v := nI (lf + 1)) (lv' := [(4, .int (nI (lf + 1))), (0, .ref (h 105)), (1, .int (nI f9)), (2, .int (nI m9)), (3, .int (nI e9)), (5, .int (nI rt)), (6, .int (nI t6))]) hx hb dX8_mergeRuns_68 hl (k := 4) rfl (nI_1 _) (by decide) rfl (fun ls hl => ?_)
              refine lv_goto (tgt := 91) hx hb dX8_mergeRuns_71 (by decide) ?_
              refine lv_iinc (v := nI (t6 + 1)) (lv' := [(6, .int (nI (t6 + 1))), (4, .int (nI (lf + 1))), (0, .ref (h 105)), (1, .int (nI f9)), (2, .int (nI m9)), (3, .int (nI e9)), (5, .int (nI rt))]) hx hb dX8_mergeRuns_91 hl (k := 6) rfl (nI_1 _) (by decide) rfl (fun ls hl => ?_)
              refine lv_goto (tgt := 9) hx hb dX8_mergeRuns_94 (by decide) ?_
              exact ih_9 (lf + 1) rt (t6 + 1) (upd sp t6 (nI (be lf))) (stp ga t6 (be lf)) (by omega) (by first | assumption | omega) (by first | assumption | omega) (by first | assumption | omega) (by first | assumption | omega) (by first | assumption | omega) (by first | assumption | omega) (by first | (intro q h1 h2; omega) | exact mi_s hs9) (by first | (rw [seg_nil (Nat.le_refl f9)]; rfl) | (rw [stp_seg (by omega), List.append_assoc, List.singleton_append, ← mg_l (by omega) (by first | exact Or.inl (by omega) | exact Or.inr (leK_lt (hlt lf rt (by omega) (by omega) (by omega) (by omega)) |>.mpr (by assumption)))]; exact hm9) | (rw [stp_seg (by omega), List.append_assoc, List.singleton_append, ← mg_r (by omega) (by first | exact Or.inl (by omega) | exact Or.inr (fun q9 => absurd ((leK_lt (hlt lf rt (by omega) (by omega) (by omega) (by omega))).mp q9) (by assumption)))]; exact hm9)) (by first | exact (fun _ _ => rfl) | exact (fun q hq => (pk_un (by omega)).trans (ho9 q hq))) _ _ _ hP hD hS (lv_sub hl [2, 3, 4, 5, 1, 6, 0] rfl)
  exact cut_9 _ f9 m9 f9 (A 172) be (Nat.lt_succ_self _) (by first | assumption | omega) (by first | assumption | omega) (by first | assumption | omega) (by first | assumption | omega) (by first | assumption | omega) (by first | assumption | omega) (by first | (intro q h1 h2; omega) | exact mi_s hs9) (by first | (rw [seg_nil (Nat.le_refl f9)]; rfl) | (rw [stp_seg (by omega), List.append_assoc, List.singleton_append, ← mg_l (by omega) (by first | exact Or.inl (by omega) | exact Or.inr (leK_lt (hlt lf rt (by omega) (by omega) (by omega) (by omega)) |>.mpr (by assumption)))]; exact hm9) | (rw [stp_seg (by omega), List.append_assoc, List.singleton_append, ← mg_r (by omega) (by first | exact Or.inl (by omega) | exact Or.inr (fun q9 => absurd ((leK_lt (hlt lf rt (by omega) (by omega) (by omega) (by omega))).mp q9) (by assumption)))]; exact hm9)) (by first | exact (fun _ _ => rfl) | exact (fun q hq => (pk_un (by omega)).trans (ho9 q hq))) _ _ _ hP hD hS (lv_sub hl [3, 4, 5, 6, 2, 1, 0] rfl)
set_option maxRecDepth 20000 in
theorem ggX8_sortByOff_X3_wordCount : GoodIn wsX8_sortByOff wsX3_wordCount := goodIn_r _ [18, 19, 20, 21, 22, 17, 23, 24, 37, 38, 39, 40, 41, 42] rfl (by decide +kernel)
set_option maxRecDepth 20000 in
theorem gX8_sortByOff_X3_wordCount : GoodIn wsX8_sortByOff (wsV RX8 62 RX3 yX3_wordCount wsX3_wordCount) := goodIn_app (goodIn_of _ (by decide +kernel)) ggX8_sortByOff_X3_wordCount
set_option maxRecDepth 20000 in
theorem ggX8_sortByOff_X8_mergeRuns : GoodIn wsX8_sortByOff wsX8_mergeRuns := goodIn_r _ [29, 30, 4, 9, 31, 32, 33, 34, 35, 36] rfl (by decide +kernel)
set_option maxRecDepth 20000 in
theorem gX8_sortByOff_X8_mergeRuns : GoodIn wsX8_sortByOff (wsV RX8 84 RX8 yX8_mergeRuns wsX8_mergeRuns) := goodIn_app (goodIn_of _ (by decide +kernel)) ggX8_sortByOff_X8_mergeRuns
theorem bdX8_sortByOff_0 : (decode cX8_sortByOff 0 = .ok (.aload_n 0, 1)) ∧ (decode cX8_sortByOff 1 = .ok (.getfield 25, 3)) ∧ (decode cX8_sortByOff 4 = .ok (.aload_n 0, 1)) ∧ (decode cX8_sortByOff 5 = .ok (.getfield 28, 3)) ∧ (decode cX8_sortByOff 8 = .ok (.getfield 77, 3)) ∧ (decode cX8_sortByOff 11 = .ok (.if_icmp .ne 4, 3)) ∧ (decode cX8_sortByOff 14 = .ok (.return_, 1)) ∧ (decode cX8_sortByOff 15 = .ok (.aload_n 0, 1)) ∧ (decode cX8_sortByOff 16 = .ok (.getfield 28, 3)) ∧ (decode cX8_sortByOff 19 = .ok (.invokevirtual 62, 3)) ∧ (decode cX8_sortByOff 22 = .ok (.istore_n 1, 1)) ∧ (decode cX8_sortByOff 23 = .ok (.iconst 0, 1)) ∧ (decode cX8_sortByOff 24 = .ok (.istore_n 2, 1)) ∧ (decode cX8_sortByOff 25 = .ok (.iload_n 2, 1)) ∧ (decode cX8_sortByOff 26 = .ok (.iload_n 1, 1)) ∧ (decode cX8_sortByOff 27 = .ok (.if_icmp .ge 16, 3)) := by decide +kernel
theorem dX8_sortByOff_0 : decode cX8_sortByOff 0 = .ok (.aload_n 0, 1) := bdX8_sortByOff_0.1
theorem dX8_sortByOff_1 : decode cX8_sortByOff 1 = .ok (.getfield 25, 3) := bdX8_sortByOff_0.2.1
theorem dX8_sortByOff_4 : decode cX8_sortByOff 4 = .ok (.aload_n 0, 1) := bdX8_sortByOff_0.2.2.1
theorem dX8_sortByOff_5 : decode cX8_sortByOff 5 = .ok (.getfield 28, 3) := bdX8_sortByOff_0.2.2.2.1
theorem dX8_sortByOff_8 : decode cX8_sortByOff 8 = .ok (.getfield 77, 3) := bdX8_sortByOff_0.2.2.2.2.1
theorem dX8_sortByOff_11 : decode cX8_sortByOff 11 = .ok (.if_icmp .ne 4, 3) := bdX8_sortByOff_0.2.2.2.2.2.1
theorem dX8_sortByOff_14 : decode cX8_sortByOff 14 = .ok (.return_, 1) := bdX8_sortByOff_0.2.2.2.2.2.2.1
theorem dX8_sortByOff_15 : decode cX8_sortByOff 15 = .ok (.aload_n 0, 1) := bdX8_sortByOff_0.2.2.2.2.2.2.2.1
theorem dX8_sortByOff_16 : decode cX8_sortByOff 16 = .ok (.getfield 28, 3) := bdX8_sortByOff_0.2.2.2.2.2.2.2.2.1
theorem dX8_sortByOff_19 : decode cX8_sortByOff 19 = .ok (.invokevirtual 62, 3) := bdX8_sortByOff_0.2.2.2.2.2.2.2.2.2.1
theorem dX8_sortByOff_22 : decode cX8_sortByOff 22 = .ok (.istore_n 1, 1) := bdX8_sortByOff_0.2.2.2.2.2.2.2.2.2.2.1
theorem dX8_sortByOff_23 : decode cX8_sortByOff 23 = .ok (.iconst 0, 1) := bdX8_sortByOff_0.2.2.2.2.2.2.2.2.2.2.2.1
theorem dX8_sortByOff_24 : decode cX8_sortByOff 24 = .ok (.istore_n 2, 1) := bdX8_sortByOff_0.2.2.2.2.2.2.2.2.2.2.2.2.1
theorem dX8_sortByOff_25 : decode cX8_sortByOff 25 = .ok (.iload_n 2, 1) := bdX8_sortByOff_0.2.2.2.2.2.2.2.2.2.2.2.2.2.1
theorem dX8_sortByOff_26 : decode cX8_sortByOff 26 = .ok (.iload_n 1, 1) := bdX8_sortByOff_0.2.2.2.2.2.2.2.2.2.2.2.2.2.2.1
theorem dX8_sortByOff_27 : decode cX8_sortByOff 27 = .ok (.if_icmp .ge 16, 3) := bdX8_sortByOff_0.2.2.2.2.2.2.2.2.2.2.2.2.2.2.2
theorem bdX8_sortByOff_30 : (decode cX8_sortByOff 30 = .ok (.aload_n 0, 1)) ∧ (decode cX8_sortByOff 31 = .ok (.getfield 15, 3)) ∧ (decode cX8_sortByOff 34 = .ok (.iload_n 2, 1)) ∧ (decode cX8_sortByOff 35 = .ok (.iload_n 2, 1)) ∧ (decode cX8_sortByOff 36 = .ok (.iastore, 1)) ∧ (decode cX8_sortByOff 37 = .ok (.iinc 2 1, 3)) ∧ (decode cX8_sortByOff 40 = .ok (.goto (-15), 3)) ∧ (decode cX8_sortByOff 43 = .ok (.iconst 1, 1)) ∧ (decode cX8_sortByOff 44 = .ok (.istore_n 2, 1)) ∧ (decode cX8_sortByOff 45 = .ok (.iload_n 2, 1)) ∧ (decode cX8_sortByOff 46 = .ok (.iload_n 1, 1)) ∧ (decode cX8_sortByOff 47 = .ok (.if_icmp .ge 61, 3)) ∧ (decode cX8_sortByOff 50 = .ok (.iconst 0, 1)) ∧ (decode cX8_sortByOff 51 = .ok (.istore_n 3, 1)) ∧ (decode cX8_sortByOff 52 = .ok (.iload_n 3, 1)) ∧ (decode cX8_sortByOff 53 = .ok (.iload_n 1, 1)) := by decide +kernel
theorem dX8_sortByOff_30 : decode cX8_sortByOff 30 = .ok (.aload_n 0, 1) := bdX8_sortByOff_30.1
theorem dX8_sortByOff_31 : decode cX8_sortByOff 31 = .ok (.getfield 15, 3) := bdX8_sortByOff_30.2.1
theorem dX8_sortByOff_34 : decode cX8_sortByOff 34 = .ok (.iload_n 2, 1) := bdX8_sortByOff_30.2.2.1
theorem dX8_sortByOff_35 : decode cX8_sortByOff 35 = .ok (.iload_n 2, 1) := bdX8_sortByOff_30.2.2.2.1
theorem dX8_sortByOff_36 : decode cX8_sortByOff 36 = .ok (.iastore, 1) := bdX8_sortByOff_30.2.2.2.2.1
theorem dX8_sortByOff_37 : decode cX8_sortByOff 37 = .ok (.iinc 2 1, 3) := bdX8_sortByOff_30.2.2.2.2.2.1
theorem dX8_sortByOff_40 : decode cX8_sortByOff 40 = .ok (.goto (-15), 3) := bdX8_sortByOff_30.2.2.2.2.2.2.1
theorem dX8_sortByOff_43 : decode cX8_sortByOff 43 = .ok (.iconst 1, 1) := bdX8_sortByOff_30.2.2.2.2.2.2.2.1
theorem dX8_sortByOff_44 : decode cX8_sortByOff 44 = .ok (.istore_n 2, 1) := bdX8_sortByOff_30.2.2.2.2.2.2.2.2.1
theorem dX8_sortByOff_45 : decode cX8_sortByOff 45 = .ok (.iload_n 2, 1) := bdX8_sortByOff_30.2.2.2.2.2.2.2.2.2.1
theorem dX8_sortByOff_46 : decode cX8_sortByOff 46 = .ok (.iload_n 1, 1) := bdX8_sortByOff_30.2.2.2.2.2.2.2.2.2.2.1
theorem dX8_sortByOff_47 : decode cX8_sortByOff 47 = .ok (.if_icmp .ge 61, 3) := bdX8_sortByOff_30.2.2.2.2.2.2.2.2.2.2.2.1
theorem dX8_sortByOff_50 : decode cX8_sortByOff 50 = .ok (.iconst 0, 1) := bdX8_sortByOff_30.2.2.2.2.2.2.2.2.2.2.2.2.1
theorem dX8_sortByOff_51 : decode cX8_sortByOff 51 = .ok (.istore_n 3, 1) := bdX8_sortByOff_30.2.2.2.2.2.2.2.2.2.2.2.2.2.1
theorem dX8_sortByOff_52 : decode cX8_sortByOff 52 = .ok (.iload_n 3, 1) := bdX8_sortByOff_30.2.2.2.2.2.2.2.2.2.2.2.2.2.2.1
theorem dX8_sortByOff_53 : decode cX8_sortByOff 53 = .ok (.iload_n 1, 1) := bdX8_sortByOff_30.2.2.2.2.2.2.2.2.2.2.2.2.2.2.2
theorem bdX8_sortByOff_54 : (decode cX8_sortByOff 54 = .ok (.if_icmp .ge 33, 3)) ∧ (decode cX8_sortByOff 57 = .ok (.aload_n 0, 1)) ∧ (decode cX8_sortByOff 58 = .ok (.iload_n 3, 1)) ∧ (decode cX8_sortByOff 59 = .ok (.iload_n 3, 1)) ∧ (decode cX8_sortByOff 60 = .ok (.iload_n 2, 1)) ∧ (decode cX8_sortByOff 61 = .ok (.iadd, 1)) ∧ (decode cX8_sortByOff 62 = .ok (.iload_n 1, 1)) ∧ (decode cX8_sortByOff 63 = .ok (.invokestatic 69, 3)) ∧ (decode cX8_sortByOff 66 = .ok (.iload_n 3, 1)) ∧ (decode cX8_sortByOff 67 = .ok (.iconst 2, 1)) ∧ (decode cX8_sortByOff 68 = .ok (.iload_n 2, 1)) ∧ (decode cX8_sortByOff 69 = .ok (.imul, 1)) ∧ (decode cX8_sortByOff 70 = .ok (.iadd, 1)) ∧ (decode cX8_sortByOff 71 = .ok (.iload_n 1, 1)) ∧ (decode cX8_sortByOff 72 = .ok (.invokestatic 69, 3)) ∧ (decode cX8_sortByOff 75 = .ok (.invokevirtual 84, 3)) := by decide +kernel
theorem dX8_sortByOff_54 : decode cX8_sortByOff 54 = .ok (.if_icmp .ge 33, 3) := bdX8_sortByOff_54.1
theorem dX8_sortByOff_57 : decode cX8_sortByOff 57 = .ok (.aload_n 0, 1) := bdX8_sortByOff_54.2.1
theorem dX8_sortByOff_58 : decode cX8_sortByOff 58 = .ok (.iload_n 3, 1) := bdX8_sortByOff_54.2.2.1
theorem dX8_sortByOff_59 : decode cX8_sortByOff 59 = .ok (.iload_n 3, 1) := bdX8_sortByOff_54.2.2.2.1
theorem dX8_sortByOff_60 : decode cX8_sortByOff 60 = .ok (.iload_n 2, 1) := bdX8_sortByOff_54.2.2.2.2.1
theorem dX8_sortByOff_61 : decode cX8_sortByOff 61 = .ok (.iadd, 1) := bdX8_sortByOff_54.2.2.2.2.2.1
theorem dX8_sortByOff_62 : decode cX8_sortByOff 62 = .ok (.iload_n 1, 1) := bdX8_sortByOff_54.2.2.2.2.2.2.1
theorem dX8_sortByOff_63 : decode cX8_sortByOff 63 = .ok (.invokestatic 69, 3) := bdX8_sortByOff_54.2.2.2.2.2.2.2.1
theorem dX8_sortByOff_66 : decode cX8_sortByOff 66 = .ok (.iload_n 3, 1) := bdX8_sortByOff_54.2.2.2.2.2.2.2.2.1
theorem dX8_sortByOff_67 : decode cX8_sortByOff 67 = .ok (.iconst 2, 1) := bdX8_sortByOff_54.2.2.2.2.2.2.2.2.2.1
theorem dX8_sortByOff_68 : decode cX8_sortByOff 68 = .ok (.iload_n 2, 1) := bdX8_sortByOff_54.2.2.2.2.2.2.2.2.2.2.1
theorem dX8_sortByOff_69 : decode cX8_sortByOff 69 = .ok (.imul, 1) := bdX8_sortByOff_54.2.2.2.2.2.2.2.2.2.2.2.1
theorem dX8_sortByOff_70 : decode cX8_sortByOff 70 = .ok (.iadd, 1) := bdX8_sortByOff_54.2.2.2.2.2.2.2.2.2.2.2.2.1
theorem dX8_sortByOff_71 : decode cX8_sortByOff 71 = .ok (.iload_n 1, 1) := bdX8_sortByOff_54.2.2.2.2.2.2.2.2.2.2.2.2.2.1
theorem dX8_sortByOff_72 : decode cX8_sortByOff 72 = .ok (.invokestatic 69, 3) := bdX8_sortByOff_54.2.2.2.2.2.2.2.2.2.2.2.2.2.2.1
theorem dX8_sortByOff_75 : decode cX8_sortByOff 75 = .ok (.invokevirtual 84, 3) := bdX8_sortByOff_54.2.2.2.2.2.2.2.2.2.2.2.2.2.2.2
theorem bdX8_sortByOff_78 : (decode cX8_sortByOff 78 = .ok (.iload_n 3, 1)) ∧ (decode cX8_sortByOff 79 = .ok (.iconst 2, 1)) ∧ (decode cX8_sortByOff 80 = .ok (.iload_n 2, 1)) ∧ (decode cX8_sortByOff 81 = .ok (.imul, 1)) ∧ (decode cX8_sortByOff 82 = .ok (.iadd, 1)) ∧ (decode cX8_sortByOff 83 = .ok (.istore_n 3, 1)) ∧ (decode cX8_sortByOff 84 = .ok (.goto (-32), 3)) ∧ (decode cX8_sortByOff 87 = .ok (.aload_n 0, 1)) ∧ (decode cX8_sortByOff 88 = .ok (.getfield 18, 3)) ∧ (decode cX8_sortByOff 91 = .ok (.iconst 0, 1)) ∧ (decode cX8_sortByOff 92 = .ok (.aload_n 0, 1)) ∧ (decode cX8_sortByOff 93 = .ok (.getfield 15, 3)) ∧ (decode cX8_sortByOff 96 = .ok (.iconst 0, 1)) ∧ (decode cX8_sortByOff 97 = .ok (.iload_n 1, 1)) ∧ (decode cX8_sortByOff 98 = .ok (.invokestatic 88, 3)) ∧ (decode cX8_sortByOff 101 = .ok (.iload_n 2, 1)) := by decide +kernel
theorem dX8_sortByOff_78 : decode cX8_sortByOff 78 = .ok (.iload_n 3, 1) := bdX8_sortByOff_78.1
theorem dX8_sortByOff_79 : decode cX8_sortByOff 79 = .ok (.iconst 2, 1) := bdX8_sortByOff_78.2.1
theorem dX8_sortByOff_80 : decode cX8_sortByOff 80 = .ok (.iload_n 2, 1) := bdX8_sortByOff_78.2.2.1
theorem dX8_sortByOff_81 : decode cX8_sortByOff 81 = .ok (.imul, 1) := bdX8_sortByOff_78.2.2.2.1
theorem dX8_sortByOff_82 : decode cX8_sortByOff 82 = .ok (.iadd, 1) := bdX8_sortByOff_78.2.2.2.2.1
theorem dX8_sortByOff_83 : decode cX8_sortByOff 83 = .ok (.istore_n 3, 1) := bdX8_sortByOff_78.2.2.2.2.2.1
theorem dX8_sortByOff_84 : decode cX8_sortByOff 84 = .ok (.goto (-32), 3) := bdX8_sortByOff_78.2.2.2.2.2.2.1
theorem dX8_sortByOff_87 : decode cX8_sortByOff 87 = .ok (.aload_n 0, 1) := bdX8_sortByOff_78.2.2.2.2.2.2.2.1
theorem dX8_sortByOff_88 : decode cX8_sortByOff 88 = .ok (.getfield 18, 3) := bdX8_sortByOff_78.2.2.2.2.2.2.2.2.1
theorem dX8_sortByOff_91 : decode cX8_sortByOff 91 = .ok (.iconst 0, 1) := bdX8_sortByOff_78.2.2.2.2.2.2.2.2.2.1
theorem dX8_sortByOff_92 : decode cX8_sortByOff 92 = .ok (.aload_n 0, 1) := bdX8_sortByOff_78.2.2.2.2.2.2.2.2.2.2.1
theorem dX8_sortByOff_93 : decode cX8_sortByOff 93 = .ok (.getfield 15, 3) := bdX8_sortByOff_78.2.2.2.2.2.2.2.2.2.2.2.1
theorem dX8_sortByOff_96 : decode cX8_sortByOff 96 = .ok (.iconst 0, 1) := bdX8_sortByOff_78.2.2.2.2.2.2.2.2.2.2.2.2.1
theorem dX8_sortByOff_97 : decode cX8_sortByOff 97 = .ok (.iload_n 1, 1) := bdX8_sortByOff_78.2.2.2.2.2.2.2.2.2.2.2.2.2.1
theorem dX8_sortByOff_98 : decode cX8_sortByOff 98 = .ok (.invokestatic 88, 3) := bdX8_sortByOff_78.2.2.2.2.2.2.2.2.2.2.2.2.2.2.1
theorem dX8_sortByOff_101 : decode cX8_sortByOff 101 = .ok (.iload_n 2, 1) := bdX8_sortByOff_78.2.2.2.2.2.2.2.2.2.2.2.2.2.2.2
theorem bdX8_sortByOff_102 : (decode cX8_sortByOff 102 = .ok (.iconst 2, 1)) ∧ (decode cX8_sortByOff 103 = .ok (.imul, 1)) ∧ (decode cX8_sortByOff 104 = .ok (.istore_n 2, 1)) ∧ (decode cX8_sortByOff 105 = .ok (.goto (-60), 3)) ∧ (decode cX8_sortByOff 108 = .ok (.aload_n 0, 1)) ∧ (decode cX8_sortByOff 109 = .ok (.aload_n 0, 1)) ∧ (decode cX8_sortByOff 110 = .ok (.getfield 28, 3)) ∧ (decode cX8_sortByOff 113 = .ok (.getfield 77, 3)) ∧ (decode cX8_sortByOff 116 = .ok (.putfield 25, 3)) ∧ (decode cX8_sortByOff 119 = .ok (.return_, 1)) := by decide +kernel
theorem dX8_sortByOff_102 : decode cX8_sortByOff 102 = .ok (.iconst 2, 1) := bdX8_sortByOff_102.1
theorem dX8_sortByOff_103 : decode cX8_sortByOff 103 = .ok (.imul, 1) := bdX8_sortByOff_102.2.1
theorem dX8_sortByOff_104 : decode cX8_sortByOff 104 = .ok (.istore_n 2, 1) := bdX8_sortByOff_102.2.2.1
theorem dX8_sortByOff_105 : decode cX8_sortByOff 105 = .ok (.goto (-60), 3) := bdX8_sortByOff_102.2.2.2.1
theorem dX8_sortByOff_108 : decode cX8_sortByOff 108 = .ok (.aload_n 0, 1) := bdX8_sortByOff_102.2.2.2.2.1
theorem dX8_sortByOff_109 : decode cX8_sortByOff 109 = .ok (.aload_n 0, 1) := bdX8_sortByOff_102.2.2.2.2.2.1
theorem dX8_sortByOff_110 : decode cX8_sortByOff 110 = .ok (.getfield 28, 3) := bdX8_sortByOff_102.2.2.2.2.2.2.1
theorem dX8_sortByOff_113 : decode cX8_sortByOff 113 = .ok (.getfield 77, 3) := bdX8_sortByOff_102.2.2.2.2.2.2.2.1
theorem dX8_sortByOff_116 : decode cX8_sortByOff 116 = .ok (.putfield 25, 3) := bdX8_sortByOff_102.2.2.2.2.2.2.2.2.1
theorem dX8_sortByOff_119 : decode cX8_sortByOff 119 = .ok (.return_, 1) := bdX8_sortByOff_102.2.2.2.2.2.2.2.2.2
set_option maxHeartbeats 4000000 in
set_option maxRecDepth 100000 in
theorem k_X8_sortByOff (l : Launch) (dC : Nat → ClassId) (dI : Nat → Nat → Nat) (h : Nat → Nat) (cs : Nat → ClassId) (sz : Nat) (I : Nat → Int32) (L : Nat → Int64) (A : Nat → Nat → Int32) (Q : Nat → Nat → Int64) (G : Nat → Nat → Nat → Int32) (J : Nat → Nat → Nat → Int64) (R M a : Nat) (hR : I 120 = nI R) (hR1 : 1 ≤ R) (hR5 : R ≤ 5) (hM : I 121 = nI M) (hM1 : 1 ≤ M) (hM4 : M ≤ 4) (ha : I 122 = nI a) (ha2 : a = 2 ∨ a = 4) : Met l yX8_sortByOff wsX8_sortByOff ({ frames := 2, cells := 0, slots := 0, locals := 60 }) (va_Pc [.ref (h 105)] (xPre (dC, dI) (wWords h cs I L A Q G J) (tysA cs) sz)) (va_Qv (fun (u : CS) => ∃ i174 : Int32, ∃ a171 : Nat → Int32, ∃ a172 : Nat → Int32, ((I 174 = I 123 ∧ i174 = I 174 ∧ a171 = A 171) ∨ (¬ I 174 = I 123 ∧ i174 = I 123 ∧ ∃ be : Nat → Nat, (∀ q : Nat, q < a ^ M → a171 q = nI (be q)) ∧ Blk (A 170) be 0 (a ^ M))) ∧ u = ((va_up I 174 i174), L, (va_up (va_up A 171 a171) 172 a172), Q, G, J)) (xB (dC, dI) (tysA cs) (va_A (wWords h cs I L A Q G J) sz) (fun u : CS => wWords h cs u.1 u.2.1 u.2.2.1 u.2.2.2.1 u.2.2.2.2.1 u.2.2.2.2.2)) (va_A (wWords h cs I L A Q G J) sz)) 0 0 (va_A (wWords h cs I L A Q G J) sz) := by
  refine Met.ofW (cc := cX8_sortByOff) (maxL := 4) (ret := none) (by decide) rfl ?_
  intro p e s m args below meth c s₁ B hml hv
  obtain ⟨rfl, hsz, hP, hK, hD0, hN⟩ := hv
  have hx := B.exec
  have hb := B.bytes
  have hr := B.returns
  have hts := atoms_spec (ws := wsX8_sortByOff) B.pre
  have hown : s.vm.findClass RX8 = some m.cls := findClass_of_methodNamed B.named
  have hlocks := B.notSynchronized
  subst hsz
  have hD := hD0.self (sz := s.heap.size)
  generalize hAe : va_A (wWords h cs I L A Q G J) s.heap.size = A0 at hD ⊢
  have hA : ∀ q : Nat, s.heap.size ≤ q → A0 q := fun q h => by rw [← hAe]; exact Or.inr h
  have hl := lv_entry ([.ref (h 105)]) (n := 4) (Nat.le_of_ble_eq_true rfl)
  rw [lg_entry_eq]
  generalize (lg_sl ([.ref (h 105)]) ++ List.replicate (4 - (lg_sl ([.ref (h 105)])).length) Slot.unset).toArray = ls at hl ⊢
  have hl : lv_has ls 4 [(0, .ref (h 105))] := hl
  generalize hH : s.heap = H at hP ⊢
  have hS : va_S A0 s.heap H [] := by rw [← hH]; exact va_S.rf
  have hinX8 : ∀ w ∈ wsX80, w ∈ wsX8_sortByOff := by decide +kernel
  have hinX3 : ∀ w ∈ wsX30, w ∈ wsX8_sortByOff := by decide +kernel
  have hpw : a ^ M ≤ 256 := pw_le ha2 hM4
  have hpw1 : 1 ≤ a ^ M := Nat.one_le_pow _ _ (by omega)
  refine lv_aload_n hx hb dX8_sortByOff_0 rfl (lv_at hl 0 rfl) ?_
  refine va_get (D := (dC, dI)) (ci := 8) (v := .int (I 174)) (C := RX8) (T := TX8) (N := 6) hx hb hts hinX8 hown hK hP 0 rfl rfl 5 (by decide) (hts (.fieldLink RX8 25 "MixedWords$Words" "byOffStamp" "I") (by decide +kernel)) (fun _ h9 => h9) rfl dX8_sortByOff_1 ?_
  refine lv_aload_n hx hb dX8_sortByOff_4 rfl (lv_at hl 0 rfl) ?_
  refine va_get (D := (dC, dI)) (ci := 8) (v := .ref (h 101)) (C := RX8) (T := TX8) (N := 6) hx hb hts hinX8 hown hK hP 0 rfl rfl 0 (by decide) (hts (.fieldLink RX8 28 "MixedWords$Words" "mix" "LMixedWords$Mix;") (by decide +kernel)) (fun _ h9 => h9) rfl dX8_sortByOff_5 ?_
  refine va_get (D := (dC, dI)) (ci := 3) (v := .int (I 123)) (C := RX3) (T := TX3) (N := 6) hx hb hts hinX3 hown hK hP 4 rfl rfl 3 (by decide) (hts (.fieldLink RX8 77 "MixedWords$Mix" "stamp" "I") (by decide +kernel)) (fun _ h9 => h9) rfl dX8_sortByOff_8 ?_
  refine lv_icmp_ne (tgt := 15) hx hb dX8_sortByOff_11 (by decide) (fun c_11_0 => ?_) (fun c_11_0 => ?_)
  · skip
    refine lv_aload_n hx hb dX8_sortByOff_15 rfl (lv_at hl 0 rfl) ?_
    refine va_get (D := (dC, dI)) (ci := 8) (v := .ref (h 101)) (C := RX8) (T := TX8) (N := 6) hx hb hts hinX8 hown hK hP 0 rfl rfl 0 (by decide) (hts (.fieldLink RX8 28 "MixedWords$Words" "mix" "LMixedWords$Mix;") (by decide +kernel)) (fun _ h9 => h9) rfl dX8_sortByOff_16 ?_
    refine xj_i (wc := (wMix h cs I L A Q G J)) (wr := [(h 105, .inr (8, [.ref (h 101), .ref (h 170), .ref (h 171), .ref (h 172), .int (I 173), .int (I 174)])), (h 170, .inl (cs 0, 256, .inl (A 170))), (h 171, .inl (cs 0, 256, .inl (A 171))), (h 172, .inl (cs 0, 256, .inl (A 172)))]) hP hD hS hA [4, 5, 6, 7, 8, 9, 10, 11] [0, 1, 2, 3] rfl rfl (by decide +kernel) (by decide +kernel) (va_runV (As := []) (rest := []) ⟨hx, hb, hml, hown, hts⟩ (k_X3_wordCount l dC dI h cs H.size I L A Q G J M a hM (by first | assumption | omega | exact hM1) (by first | assumption | omega | exact hM4) ha (by first | assumption | omega | exact ha2)) (cwV 0 hts gX8_sortByOff_X3_wordCount rfl rfl rfl (by decide +kernel) ⟨Nat.le_of_ble_eq_true rfl, Nat.le_of_ble_eq_true rfl⟩) (xpV (wc := (wMix h cs I L A Q G J)) hP hD hK hN [4, 5, 6, 7, 8, 9, 10, 11] rfl (by decide) 4 (ci := 3) rfl rfl _) rfl rfl hl.1 rfl (lv_room (Nat.le_of_ble_eq_true rfl)) dX8_sortByOff_19 ⟨Nat.zero_le _, Nat.zero_le _⟩) (fun r_3 u_2 H locs hw hP hD hS => ?_)
    obtain ⟨hf_4, rfl⟩ := hw
    have hP : va_P (dC, dI) vwCl (wWords h cs I L A Q G J) H := hP
    have hD : va_D A0 (wWords h cs I L A Q G J) := hD
    obtain rfl := hf_4
    refine lv_istore_n (lv' := [(1, .int (nI (a ^ M))), (0, .ref (h 105))]) hx hb dX8_sortByOff_22 rfl hl (by decide) rfl (fun ls hl => ?_)
    refine lv_iconst (v := nI 0) hx hb dX8_sortByOff_23 (by decide) ?_
    refine lv_istore_n (lv' := [(2, .int (nI 0)), (1, .int (nI (a ^ M))), (0, .ref (h 105))]) hx hb dX8_sortByOff_24 rfl hl (by decide) rfl (fun ls hl => ?_)
    have cut_25 : ∀ (nf : Nat) (k : Nat) (f171 : Nat → Int32), (a ^ M - k) < nf → (k ≤ a ^ M) → (∀ q : Nat, q < k → f171 q = nI q) → ∀ (H : Heap) (locs : List Loc) (ls : Array Slot), va_P (dC, dI) vwCl (wWords h cs I L (va_up A 171 f171) Q G J) H → va_D A0 (wWords h cs I L (va_up A 171 f171) Q G J) → va_S A0 s.heap H locs → lv_has ls 4 [(0, .ref (h 105)), (1, .int (nI (a ^ M))), (2, .int (nI k))] → W p l e (headSpec wsX8_sortByOff ({ frames := 2, cells := 0, slots := 0, locals := 60 })).room s m ([.ref (h 105)] : List Value).toArray below meth c H locs 0 0 (MQ below (va_Qv (fun (u : CS) => ∃ i174 : Int32, ∃ a171 : Nat → Int32, ∃ a172 : Nat → Int32, ((I 174 = I 123 ∧ i174 = I 174 ∧ a171 = A 171) ∨ (¬ I 174 = I 123 ∧ i174 = I 123 ∧ ∃ be : Nat → Nat, (∀ q : Nat, q < a ^ M → a171 q = nI (be q)) ∧ Blk (A 170) be 0 (a ^ M))) ∧ u = ((va_up I 174 i174), L, (va_up (va_up A 171 a171) 172 a172), Q, G, J)) (xB (dC, dI) (tysA cs) A0 (fun u : CS => wWords h cs u.1 u.2.1 u.2.2.1 u.2.2.2.1 u.2.2.2.2.1 u.2.2.2.2.2)) A0) ([.ref (h 105)] : List Value).toArray s 0 0 A0) (F0 m 25 ls []) := by
      intro nf
      induction nf with
      | zero => intro k f171 hm; exact absurd hm (Nat.not_lt_zero _)
      | succ nf ih_25 =>
        intro k f171 hm_25 hk25 hf25 H locs ls hP hD hS hl
        refine lv_iload_n hx hb dX8_sortByOff_25 rfl (lv_at hl 2 rfl) ?_
        refine lv_iload_n hx hb dX8_sortByOff_26 rfl (lv_at hl 1 rfl) ?_
        refine xn_ge (tgt := 43) hx hb dX8_sortByOff_27 (by decide) (by omega) (by omega) (fun c_27_4 => ?_) (fun c_27_4 => ?_)
        · skip
          refine lv_iconst (v := nI 1) hx hb dX8_sortByOff_43 (by decide) ?_
          refine lv_istore_n (lv' := [(2, .int (nI 1)), (0, .ref (h 105)), (1, .int (nI (a ^ M)))]) hx hb dX8_sortByOff_44 rfl hl (by decide) rfl (fun ls hl => ?_)
          have cut_45 : ∀ (nf : Nat) (rn : Nat) (b171 : Nat → Int32) (b172 : Nat → Int32) (be : Nat → Nat), (a ^ M - rn) < nf → (1 ≤ rn) → (rn ≤ 512) → (∀ q : Nat, q < a ^ M → b171 q = nI (be q) ∧ be q < 256) → (BlkS (A 170) be rn (a ^ M)) → ∀ (H : Heap) (locs : List Loc) (ls : Array Slot), va_P (dC, dI) vwCl (wWords h cs I L (va_up (va_up A 171 b171) 172 b172) Q G J) H → va_D A0 (wWords h cs I L (va_up (va_up A 171 b171) 172 b172) Q G J) → va_S A0 s.heap H locs → lv_has ls 4 [(0, .ref (h 105)), (1, .int (nI (a ^ M))), (2, .int (nI rn))] → W p l e (headSpec wsX8_sortByOff ({ frames := 2, cells := 0, slots := 0, locals := 60 })).room s m ([.ref (h 105)] : List Value).toArray below meth c H locs 0 0 (MQ below (va_Qv (fun (u : CS) => ∃ i174 : Int32, ∃ a171 : Nat → Int32, ∃ a172 : Nat → Int32, ((I 174 = I 123 ∧ i174 = I 174 ∧ a171 = A 171) ∨ (¬ I 174 = I 123 ∧ i174 = I 123 ∧ ∃ be : Nat → Nat, (∀ q : Nat, q < a ^ M → a171 q = nI (be q)) ∧ Blk (A 170) be 0 (a ^ M))) ∧ u = ((va_up I 174 i174), L, (va_up (va_up A 171 a171) 172 a172), Q, G, J)) (xB (dC, dI) (tysA cs) A0 (fun u : CS => wWords h cs u.1 u.2.1 u.2.2.1 u.2.2.2.1 u.2.2.2.2.1 u.2.2.2.2.2)) A0) ([.ref (h 105)] : List Value).toArray s 0 0 A0) (F0 m 45 ls []) := by
            intro nf
            induction nf with
            | zero => intro rn b171 b172 be hm; exact absurd hm (Nat.not_lt_zero _)
            | succ nf ih_45 =>
              intro rn b171 b172 be hm_45 hr45 hr45b hf45 hB45 H locs ls hP hD hS hl
              refine lv_iload_n hx hb dX8_sortByOff_45 rfl (lv_at hl 2 rfl) ?_
              refine lv_iload_n hx hb dX8_sortByOff_46 rfl (lv_at hl 1 rfl) ?_
              refine xn_ge (tgt := 108) hx hb dX8_sortByOff_47 (by decide) (by omega) (by omega) (fun c_47_5 => ?_) (fun c_47_5 => ?_)
              · skip
                refine lv_aload_n hx hb dX8_sortByOff_108 rfl (lv_at hl 0 rfl) ?_
                refine lv_aload_n hx hb dX8_sortByOff_109 rfl (lv_at hl 0 rfl) ?_
                refine va_get (D := (dC, dI)) (ci := 8) (v := .ref (h 101)) (C := RX8) (T := TX8) (N := 6) hx hb hts hinX8 hown hK hP 0 rfl rfl 0 (by decide) (hts (.fieldLink RX8 28 "MixedWords$Words" "mix" "LMixedWords$Mix;") (by decide +kernel)) (fun _ h9 => h9) rfl dX8_sortByOff_110 ?_
                refine va_get (D := (dC, dI)) (ci := 3) (v := .int (I 123)) (C := RX3) (T := TX3) (N := 6) hx hb hts hinX3 hown hK hP 4 rfl rfl 3 (by decide) (hts (.fieldLink RX8 77 "MixedWords$Mix" "stamp" "I") (by decide +kernel)) (fun _ h9 => h9) rfl dX8_sortByOff_113 ?_
                refine va_put (D := (dC, dI)) (ci := 8) (v := .int (I 123)) (ty := .int) (C := RX8) (T := TX8) (N := 6) hx hb hts hinX8 tyX8 tyX8_ok nmX8 hown hK hP hD hS 0 rfl rfl 5 (by decide) (hts (.fieldLink RX8 25 "MixedWords$Words" "byOffStamp" "I") (by decide +kernel)) (fun _ h9 => h9) rfl (by decide +kernel) rfl rfl (Nat.le_of_ble_eq_true rfl) dX8_sortByOff_116 (fun H locs hP hD hS => ?_)
                have hP : va_P (dC, dI) vwCl (wWords h cs (va_up I 174 (I 123)) L (va_up (va_up A 171 b171) 172 b172) Q G J) H := hP
                have hD : va_D A0 (wWords h cs (va_up I 174 (I 123)) L (va_up (va_up A 171 b171) 172 b172) Q G J) := hD
                exact xr_v hx hb hr hlocks hK hS dX8_sortByOff_119 ((va_up I 174 (I 123)), L, (va_up (va_up A 171 b171) 172 b172), Q, G, J) ⟨(I 123), b171, b172, (Or.inr ⟨by assumption, rfl, be, fun q hq => (hf45 q hq).1, by have q9 := hB45 0 (by rw [Nat.zero_mul]; omega); rw [Nat.zero_mul, show min (0 + rn) (a ^ M) = a ^ M by omega] at q9; exact q9⟩), rfl⟩ hP hD
              · skip
                refine lv_iconst (v := nI 0) hx hb dX8_sortByOff_50 (by decide) ?_
                refine lv_istore_n (lv' := [(3, .int (nI 0)), (0, .ref (h 105)), (1, .int (nI (a ^ M))), (2, .int (nI rn))]) hx hb dX8_sortByOff_51 rfl hl (by decide) rfl (fun ls hl => ?_)
                have cut_52 : ∀ (nf : Nat) (fr : Nat) (c172 : Nat → Int32) (ga : Nat → Nat), (a ^ M - fr) < nf → (fr ≤ 1280) → (∃ j9 : Nat, fr = j9 * (2 * rn)) → (∀ q : Nat, q < fr → q < a ^ M → c172 q = nI (ga q) ∧ ga q < 256) → (∀ k9 : Nat, k9 * (2 * rn) < fr → k9 * (2 * rn) < a ^ M → Blk (A 170) ga (k9 * (2 * rn)) (min (k9 * (2 * rn) + 2 * rn) (a ^ M))) → ∀ (H : Heap) (locs : List Loc) (ls : Array Slot), va_P (dC, dI) vwCl (wWords h cs I L (va_up (va_up A 171 b171) 172 c172) Q G J) H → va_D A0 (wWords h cs I L (va_up (va_up A 171 b171) 172 c172) Q G J) → va_S A0 s.heap H locs → lv_has ls 4 [(0, .ref (h 105)), (1, .int (nI (a ^ M))), (2, .int (nI rn)), (3, .int (nI fr))] → W p l e (headSpec wsX8_sortByOff ({ frames := 2, cells := 0, slots := 0, locals := 60 })).room s m ([.ref (h 105)] : List Value).toArray below meth c H locs 0 0 (MQ below (va_Qv (fun (u : CS) => ∃ i174 : Int32, ∃ a171 : Nat → Int32, ∃ a172 : Nat → Int32, ((I 174 = I 123 ∧ i174 = I 174 ∧ a171 = A 171) ∨ (¬ I 174 = I 123 ∧ i174 = I 123 ∧ ∃ be : Nat → Nat, (∀ q : Nat, q < a ^ M → a171 q = nI (be q)) ∧ Blk (A 170) be 0 (a ^ M))) ∧ u = ((va_up I 174 i174), L, (va_up (va_up A 171 a171) 172 a172), Q, G, J)) (xB (dC, dI) (tysA cs) A0 (fun u : CS => wWords h cs u.1 u.2.1 u.2.2.1 u.2.2.2.1 u.2.2.2.2.1 u.2.2.2.2.2)) A0) ([.ref (h 105)] : List Value).toArray s 0 0 A0) (F0 m 52 ls []) := by
                  intro nf
                  induction nf with
                  | zero => intro fr c172 ga hm; exact absurd hm (Nat.not_lt_zero _)
                  | succ nf ih_52 =>
                    intro fr c172 ga hm_52 hr52 hj52 hg52 hB52 H locs ls hP hD hS hl
                    refine lv_iload_n hx hb dX8_sortByOff_52 rfl (lv_at hl 3 rfl) ?_
                    refine lv_iload_n hx hb dX8_sortByOff_53 rfl (lv_at hl 1 rfl) ?_
                    refine xn_ge (tgt := 87) hx hb dX8_sortByOff_54 (by decide) (by omega) (by omega) (fun c_54_6 => ?_) (fun c_54_6 => ?_)
                    · skip
                      refine lv_aload_n hx hb dX8_sortByOff_87 rfl (lv_at hl 0 rfl) ?_
                      refine va_get (D := (dC, dI)) (ci := 8) (v := .ref (h 172)) (C := RX8) (T := TX8) (N := 6) hx hb hts hinX8 hown hK hP 0 rfl rfl 3 (by decide) (hts (.fieldLink RX8 18 "MixedWords$Words" "spare" "[I") (by decide +kernel)) (fun _ h9 => h9) rfl dX8_sortByOff_88 ?_
                      refine lv_iconst (v := nI 0) hx hb dX8_sortByOff_91 (by decide) ?_
                      refine lv_aload_n hx hb dX8_sortByOff_92 rfl (lv_at hl 0 rfl) ?_
                      refine va_get (D := (dC, dI)) (ci := 8) (v := .ref (h 171)) (C := RX8) (T := TX8) (N := 6) hx hb hts hinX8 hown hK hP 0 rfl rfl 2 (by decide) (hts (.fieldLink RX8 15 "MixedWords$Words" "byOff" "[I") (by decide +kernel)) (fun _ h9 => h9) rfl dX8_sortByOff_93 ?_
                      refine lv_iconst (v := nI 0) hx hb dX8_sortByOff_96 (by decide) ?_
                      refine lv_iload_n hx hb dX8_sortByOff_97 rfl (lv_at hl 1 rfl) ?_
                      refine xa_copy (cA := cs 0) hx hb (hml.trans hl.1.symm) hown (hts (.methodLink RX8 88 arraycopyName) (by decide +kernel)) (hts (.native arraycopyName) (by decide +kernel)) (hts (.static arraycopyName) (by decide +kernel)) (hts (.initialized "java/lang/System") (by decide +kernel)) hK hP hD hS 3 2 rfl rfl (by omega) (by omega) (by decide) (by decide) (Nat.le_of_ble_eq_true rfl) (Nat.le_of_ble_eq_true rfl) dX8_sortByOff_98 (fun H locs hP hD hS => ?_)
                      have hP : va_P (dC, dI) vwCl (wWords h cs I L (va_up (va_up A 172 c172) 171 (va_cpy c172 b171 0 0 (a ^ M))) Q G J) H := hP
                      have hD : va_D A0 (wWords h cs I L (va_up (va_up A 172 c172) 171 (va_cpy c172 b171 0 0 (a ^ M))) Q G J) := hD
                      refine lv_iload_n hx hb dX8_sortByOff_101 rfl (lv_at hl 2 rfl) ?_
                      refine lv_iconst (v := nI 2) hx hb dX8_sortByOff_102 (by decide) ?_
                      refine lv_imul hx hb dX8_sortByOff_103 ?_
                      refine xt_i (y := nI (rn * 2)) (pk_mul _ _) ?_
                      refine lv_istore_n (lv' := [(2, .int (nI (rn * 2))), (0, .ref (h 105)), (1, .int (nI (a ^ M))), (3, .int (nI fr))]) hx hb dX8_sortByOff_104 rfl hl (by decide) rfl (fun ls hl => ?_)
                      refine lv_goto (tgt := 45) hx hb dX8_sortByOff_105 (by decide) ?_
                      exact ih_45 (rn * 2) (va_cpy c172 b171 0 0 (a ^ M)) c172 ga (by omega) (by first | assumption | omega) (by first | assumption | omega) (by first | exact (fun q hq => ⟨hf25 q (by omega), by omega⟩) | exact (fun q hq => by rw [va_cpy, if_pos (by omega), show 0 + (q - 0) = q by omega]; exact hg52 q (by omega) hq)) (by first | exact blk_1 (fun _ _ => rfl) | (intro k9 hk9; rw [Nat.mul_comm rn 2] at hk9 ⊢; exact hB52 k9 (by omega) hk9)) _ _ _ hP hD hS (lv_sub hl [1, 2, 0] rfl)
                    · skip
                      refine lv_aload_n hx hb dX8_sortByOff_57 rfl (lv_at hl 0 rfl) ?_
                      refine lv_iload_n hx hb dX8_sortByOff_58 rfl (lv_at hl 3 rfl) ?_
                      refine lv_iload_n hx hb dX8_sortByOff_59 rfl (lv_at hl 3 rfl) ?_
                      refine lv_iload_n hx hb dX8_sortByOff_60 rfl (lv_at hl 2 rfl) ?_
                      refine lv_iadd hx hb dX8_sortByOff_61 ?_
                      refine xt_i (y := nI (fr + rn)) (nI_add _ _) ?_
                      refine lv_iload_n hx hb dX8_sortByOff_62 rfl (lv_at hl 1 rfl) ?_
                      refine va_mmin hx hb (hml.trans hl.1.symm) hown (hts (.methodLink RX8 69 Lib.Math.min.name) (by decide +kernel)) (hts (.static Lib.Math.min.name) (by decide +kernel)) (hts (.initialized "java/lang/Math") (by decide +kernel)) (hts (.code Lib.Math.min.name Lib.Math.min.code 2 (some .int)) (by decide +kernel)) (Nat.le_of_ble_eq_true rfl) (Nat.le_of_ble_eq_true rfl) (Nat.zero_le _) (Nat.zero_le _) dX8_sortByOff_63 ?_
                      refine xt_i (y := nI (min (fr + rn) (a ^ M))) (min_nI (by omega) (by omega)) ?_
                      refine lv_iload_n hx hb dX8_sortByOff_66 rfl (lv_at hl 3 rfl) ?_
                      refine lv_iconst (v := nI 2) hx hb dX8_sortByOff_67 (by decide) ?_
                      refine lv_iload_n hx hb dX8_sortByOff_68 rfl (lv_at hl 2 rfl) ?_
                      refine lv_imul hx hb dX8_sortByOff_69 ?_
                      refine xt_i (y := nI (2 * rn)) (pk_mul _ _) ?_
                      refine lv_iadd hx hb dX8_sortByOff_70 ?_
                      refine xt_i (y := nI (fr + (2 * rn))) (nI_add _ _) ?_
                      refine lv_iload_n hx hb dX8_sortByOff_71 rfl (lv_at hl 1 rfl) ?_
                      refine va_mmin hx hb (hml.trans hl.1.symm) hown (hts (.methodLink RX8 69 Lib.Math.min.name) (by decide +kernel)) (hts (.static Lib.Math.min.name) (by decide +kernel)) (hts (.initialized "java/lang/Math") (by decide +kernel)) (hts (.code Lib.Math.min.name Lib.Math.min.code 2 (some .int)) (by decide +kernel)) (Nat.le_of_ble_eq_true rfl) (Nat.le_of_ble_eq_true rfl) (Nat.zero_le _) (Nat.zero_le _) dX8_sortByOff_72 ?_
                      refine xt_i (y := nI (min (fr + (2 * rn)) (a ^ M))) (min_nI (by omega) (by omega)) ?_
                      obtain ⟨j9, hj9⟩ := hj52
                      have hb12 := blk_two hB45 (j := j9) (by omega)
                      rw [← hj9] at hb12
                      obtain ⟨hb1, hb2⟩ := hb12
                      refine xj_v (wc := (wWords h cs I L (va_up (va_up A 171 b171) 172 c172) Q G J)) (wr := ([] : va_W)) hP hD hS hA [0, 1, 2, 3, 4, 5, 6, 7, 8, 9, 10, 11] [] rfl rfl (by decide +kernel) (by decide +kernel) (va_runV (As := [.int (nI fr), .int (nI (min (fr + rn) (a ^ M))), .int (nI (min (fr + (2 * rn)) (a ^ M)))]) (rest := []) ⟨hx, hb, hml, hown, hts⟩ (k_X8_mergeRuns l dC dI h cs H.size I L (va_up (va_up A 171 b171) 172 c172) Q G J fr (min (fr + rn) (a ^ M)) (min (fr + (2 * rn)) (a ^ M)) be (by omega) (by omega) (by omega) (fun q hq => hf45 q (by omega)) (two_lt hb1 hb2)) (cwV 3 hts gX8_sortByOff_X8_mergeRuns rfl rfl rfl (by decide +kernel) ⟨Nat.le_of_ble_eq_true rfl, Nat.le_of_ble_eq_true rfl⟩) (xpV (wc := (wWords h cs I L (va_up (va_up A 171 b171) 172 c172) Q G J)) hP hD hK hN [0, 1, 2, 3, 4, 5, 6, 7, 8, 9, 10, 11] rfl (by decide) 0 (ci := 8) rfl rfl _) rfl rfl hl.1 rfl (lv_room (Nat.le_of_ble_eq_true rfl)) dX8_sortByOff_75 ⟨Nat.zero_le _, Nat.zero_le _⟩) (fun u_8 H locs hw hP hD hS => ?_)
                      obtain ⟨a172_10, hf_11, rfl⟩ := hw
                      have hP : va_P (dC, dI) vwCl (wWords h cs I L (va_up (va_up A 171 b171) 172 a172_10) Q G J) H := hP
                      have hD : va_D A0 (wWords h cs I L (va_up (va_up A 171 b171) 172 a172_10) Q G J) := hD
                      obtain ⟨gm, hgm1, hgm2, hgm3⟩ := hf_11
                      have hbm := blk_mg (by omega) (by omega) hb1 hb2 hgm2
                      refine lv_iload_n hx hb dX8_sortByOff_78 rfl (lv_at hl 3 rfl) ?_
                      refine lv_iconst (v := nI 2) hx hb dX8_sortByOff_79 (by decide) ?_
                      refine lv_iload_n hx hb dX8_sortByOff_80 rfl (lv_at hl 2 rfl) ?_
                      refine lv_imul hx hb dX8_sortByOff_81 ?_
                      refine xt_i (y := nI (2 * rn)) (pk_mul _ _) ?_
                      refine lv_iadd hx hb dX8_sortByOff_82 ?_
                      refine xt_i (y := nI (fr + (2 * rn))) (nI_add _ _) ?_
                      refine lv_istore_n (lv' := [(3, .int (nI (fr + (2 * rn)))), (0, .ref (h 105)), (1, .int (nI (a ^ M))), (2, .int (nI rn))]) hx hb dX8_sortByOff_83 rfl hl (by decide) rfl (fun ls hl => ?_)
                      refine lv_goto (tgt := 52) hx hb dX8_sortByOff_84 (by decide) ?_
                      exact ih_52 (fr + (2 * rn)) a172_10 (mx ga gm fr) (by omega) (by first | assumption | omega) (by first | exact ⟨0, (Nat.zero_mul _).symm⟩ | exact ⟨j9 + 1, by rw [Nat.succ_mul j9]; omega⟩) (by first | (intro q h1 h2; omega) | exact (fun q h1 h2 => mx_g hpw (by omega) hg52 hgm1 hgm3 hbm q (by omega))) (by first | (intro k9 h1 h2; omega) | exact mx_B hj9 hr45 hB52 hbm) _ _ _ hP hD hS (lv_sub hl [1, 2, 3, 0] rfl)
                exact cut_52 _ 0 b172 be (Nat.lt_succ_self _) (by first | assumption | omega) (by first | exact ⟨0, (Nat.zero_mul _).symm⟩ | exact ⟨j9 + 1, by rw [Nat.succ_mul j9]; omega⟩) (by first | (intro q h1 h2; omega) | exact (fun q h1 h2 => mx_g hpw (by omega) hg52 hgm1 hgm3 hbm q (by omega))) (by first | (intro k9 h1 h2; omega) | exact mx_B hj9 hr45 hB52 hbm) _ _ _ hP hD hS (lv_sub hl [1, 2, 3, 0] rfl)
          exact cut_45 _ 1 f171 (A 172) (fun q => q) (Nat.lt_succ_self _) (by first | assumption | omega) (by first | assumption | omega) (by first | exact (fun q hq => ⟨hf25 q (by omega), by omega⟩) | exact (fun q hq => by rw [va_cpy, if_pos (by omega), show 0 + (q - 0) = q by omega]; exact hg52 q (by omega) hq)) (by first | exact blk_1 (fun _ _ => rfl) | (intro k9 hk9; rw [Nat.mul_comm rn 2] at hk9 ⊢; exact hB52 k9 (by omega) hk9)) _ _ _ hP hD hS (lv_sub hl [1, 2, 0] rfl)
        · skip
          refine lv_aload_n hx hb dX8_sortByOff_30 rfl (lv_at hl 0 rfl) ?_
          refine va_get (D := (dC, dI)) (ci := 8) (v := .ref (h 171)) (C := RX8) (T := TX8) (N := 6) hx hb hts hinX8 hown hK hP 0 rfl rfl 2 (by decide) (hts (.fieldLink RX8 15 "MixedWords$Words" "byOff" "[I") (by decide +kernel)) (fun _ h9 => h9) rfl dX8_sortByOff_31 ?_
          refine lv_iload_n hx hb dX8_sortByOff_34 rfl (lv_at hl 2 rfl) ?_
          refine lv_iload_n hx hb dX8_sortByOff_35 rfl (lv_at hl 2 rfl) ?_
          refine xa_iast hx hb hK hP hD hS 2 0 rfl rfl (by omega) (by decide) dX8_sortByOff_36 (fun H locs hP hD hS => ?_)
          have hP : va_P (dC, dI) vwCl (wWords h cs I L (va_up A 171 (upd f171 k (nI k))) Q G J) H := hP
          have hD : va_D A0 (wWords h cs I L (va_up A 171 (upd f171 k (nI k))) Q G J) := hD
          refine lv_iinc (v := nI (k + 1)) (lv' := [(2, .int (nI (k + 1))), (0, .ref (h 105)), (1, .int (nI (a ^ M)))]) hx hb dX8_sortByOff_37 hl (k := 2) rfl (nI_1 _) (by decide) rfl (fun ls hl => ?_)
          refine lv_goto (tgt := 25) hx hb dX8_sortByOff_40 (by decide) ?_
          exact ih_25 (k + 1) (upd f171 k (nI k)) (by omega) (by first | assumption | omega) (by first | exact (fun q hq => absurd hq (Nat.not_lt_zero q)) | exact offs_s (F := fun q => nI q) hf25) _ _ _ hP hD hS (lv_sub hl [1, 2, 0] rfl)
    exact cut_25 _ 0 (A 171) (Nat.lt_succ_self _) (by first | assumption | omega) (by first | exact (fun q hq => absurd hq (Nat.not_lt_zero q)) | exact offs_s (F := fun q => nI q) hf25) _ _ _ hP hD hS (lv_sub hl [2, 1, 0] rfl)
  · skip
    exact xr_v hx hb hr hlocks hK hS dX8_sortByOff_14 ((va_up I 174 (I 174)), L, (va_up (va_up A 171 (A 171)) 172 (A 172)), Q, G, J) ⟨(I 174), (A 171), (A 172), (Or.inl ⟨by assumption, rfl, rfl⟩), rfl⟩ hP hD
set_option maxRecDepth 20000 in
theorem ggX8_ranked_X8_workOutOffs : GoodIn wsX8_ranked wsX8_workOutOffs := goodIn_r _ [6, 7, 8, 9, 10, 11, 12, 13, 14, 15, 16, 17, 18, 19, 20, 21, 22, 23, 24, 5, 25, 26, 27, 28, 29, 30, 31, 32, 33, 34, 35, 54, 55, 56, 57, 58, 59, 60, 61, 62, 63, 64, 65] rfl (by decide +kernel)
set_option maxRecDepth 20000 in
theorem gX8_ranked_X8_workOutOffs : GoodIn wsX8_ranked (wsV RX8 58 RX8 yX8_workOutOffs wsX8_workOutOffs) := goodIn_app (goodIn_of _ (by decide +kernel)) ggX8_ranked_X8_workOutOffs
set_option maxRecDepth 20000 in
theorem ggX8_ranked_X8_sortByOff : GoodIn wsX8_ranked wsX8_sortByOff := goodIn_r _ [39, 40, 8, 9, 1, 41, 42, 43, 44, 45, 46, 47, 48, 49, 11, 12, 13, 14, 15, 16, 17, 18, 19, 20, 21, 50, 51, 52, 5, 53, 10, 54, 55, 56, 57, 58, 59, 60, 61, 62, 63, 64, 65] rfl (by decide +kernel)
set_option maxRecDepth 20000 in
theorem gX8_ranked_X8_sortByOff : GoodIn wsX8_ranked (wsV RX8 74 RX8 yX8_sortByOff wsX8_sortByOff) := goodIn_app (goodIn_of _ (by decide +kernel)) ggX8_ranked_X8_sortByOff
theorem bdX8_ranked_0 : (decode cX8_ranked 0 = .ok (.aload_n 0, 1)) ∧ (decode cX8_ranked 1 = .ok (.invokevirtual 58, 3)) ∧ (decode cX8_ranked 4 = .ok (.aload_n 0, 1)) ∧ (decode cX8_ranked 5 = .ok (.invokevirtual 74, 3)) ∧ (decode cX8_ranked 8 = .ok (.aload_n 0, 1)) ∧ (decode cX8_ranked 9 = .ok (.getfield 15, 3)) ∧ (decode cX8_ranked 12 = .ok (.iload_n 1, 1)) ∧ (decode cX8_ranked 13 = .ok (.iaload, 1)) ∧ (decode cX8_ranked 14 = .ok (.ireturn, 1)) := by decide +kernel
theorem dX8_ranked_0 : decode cX8_ranked 0 = .ok (.aload_n 0, 1) := bdX8_ranked_0.1
theorem dX8_ranked_1 : decode cX8_ranked 1 = .ok (.invokevirtual 58, 3) := bdX8_ranked_0.2.1
theorem dX8_ranked_4 : decode cX8_ranked 4 = .ok (.aload_n 0, 1) := bdX8_ranked_0.2.2.1
theorem dX8_ranked_5 : decode cX8_ranked 5 = .ok (.invokevirtual 74, 3) := bdX8_ranked_0.2.2.2.1
theorem dX8_ranked_8 : decode cX8_ranked 8 = .ok (.aload_n 0, 1) := bdX8_ranked_0.2.2.2.2.1
theorem dX8_ranked_9 : decode cX8_ranked 9 = .ok (.getfield 15, 3) := bdX8_ranked_0.2.2.2.2.2.1
theorem dX8_ranked_12 : decode cX8_ranked 12 = .ok (.iload_n 1, 1) := bdX8_ranked_0.2.2.2.2.2.2.1
theorem dX8_ranked_13 : decode cX8_ranked 13 = .ok (.iaload, 1) := bdX8_ranked_0.2.2.2.2.2.2.2.1
theorem dX8_ranked_14 : decode cX8_ranked 14 = .ok (.ireturn, 1) := bdX8_ranked_0.2.2.2.2.2.2.2.2
set_option maxHeartbeats 4000000 in
set_option maxRecDepth 100000 in
theorem k_X8_ranked (l : Launch) (dC : Nat → ClassId) (dI : Nat → Nat → Nat) (h : Nat → Nat) (cs : Nat → ClassId) (sz : Nat) (I : Nat → Int32) (L : Nat → Int64) (A : Nat → Nat → Int32) (Q : Nat → Nat → Int64) (G : Nat → Nat → Nat → Int32) (J : Nat → Nat → Nat → Int64) (i R M a : Nat) (hi : i < a ^ M) (hR : I 120 = nI R) (hR1 : 1 ≤ R) (hR5 : R ≤ 5) (hM : I 121 = nI M) (hM1 : 1 ≤ M) (hM4 : M ≤ 4) (ha : I 122 = nI a) (ha2 : a = 2 ∨ a = 4) : Met l yX8_ranked wsX8_ranked ({ frames := 4, cells := 0, slots := 0, locals := 88 }) (va_Pc [.ref (h 105), .int (nI i)] (xPre (dC, dI) (wWords h cs I L A Q G J) (tysA cs) sz)) (va_Qi (fun (r : Int32) (u : CS) => ∃ i173 : Int32, ∃ i174 : Int32, ∃ a170 : Nat → Int32, ∃ a171 : Nat → Int32, ∃ a172 : Nat → Int32, (((I 173 = I 123 ∧ a170 = A 170 ∧ i173 = I 173) ∨ (¬ I 173 = I 123 ∧ i173 = I 123 ∧ ∀ t : Nat, t < a ^ M → a170 t = offC (A 136) (G 0) a M t R)) ∧ ((I 174 = I 123 ∧ i174 = I 174 ∧ a171 = A 171) ∨ (¬ I 174 = I 123 ∧ i174 = I 123 ∧ ∃ be : Nat → Nat, (∀ q : Nat, q < a ^ M → a171 q = nI (be q)) ∧ Blk a170 be 0 (a ^ M))) ∧ r = a171 i) ∧ u = ((va_up (va_up I 173 i173) 174 i174), L, (va_up (va_up (va_up A 170 a170) 171 a171) 172 a172), Q, G, J)) (xB (dC, dI) (tysA cs) (va_A (wWords h cs I L A Q G J) sz) (fun u : CS => wWords h cs u.1 u.2.1 u.2.2.1 u.2.2.2.1 u.2.2.2.2.1 u.2.2.2.2.2)) (va_A (wWords h cs I L A Q G J) sz)) 0 0 (va_A (wWords h cs I L A Q G J) sz) := by
  refine Met.ofW (cc := cX8_ranked) (maxL := 2) (ret := (some .int)) (by decide) rfl ?_
  intro p e s m args below meth c s₁ B hml hv
  obtain ⟨rfl, hsz, hP, hK, hD0, hN⟩ := hv
  have hx := B.exec
  have hb := B.bytes
  have hr := B.returns
  have hts := atoms_spec (ws := wsX8_ranked) B.pre
  have hown : s.vm.findClass RX8 = some m.cls := findClass_of_methodNamed B.named
  have hlocks := B.notSynchronized
  subst hsz
  have hD := hD0.self (sz := s.heap.size)
  generalize hAe : va_A (wWords h cs I L A Q G J) s.heap.size = A0 at hD ⊢
  have hA : ∀ q : Nat, s.heap.size ≤ q → A0 q := fun q h => by rw [← hAe]; exact Or.inr h
  have hl := lv_entry ([.ref (h 105), .int (nI i)]) (n := 2) (Nat.le_of_ble_eq_true rfl)
  rw [lg_entry_eq]
  generalize (lg_sl ([.ref (h 105), .int (nI i)]) ++ List.replicate (2 - (lg_sl ([.ref (h 105), .int (nI i)])).length) Slot.unset).toArray = ls at hl ⊢
  have hl : lv_has ls 2 [(0, .ref (h 105)), (1, .int (nI i))] := hl
  generalize hH : s.heap = H at hP ⊢
  have hS : va_S A0 s.heap H [] := by rw [← hH]; exact va_S.rf
  have hinX8 : ∀ w ∈ wsX80, w ∈ wsX8_ranked := by decide +kernel
  have hpw : a ^ M ≤ 256 := pw_le ha2 hM4
  have hpw1 : 1 ≤ a ^ M := Nat.one_le_pow _ _ (by omega)
  refine lv_aload_n hx hb dX8_ranked_0 rfl (lv_at hl 0 rfl) ?_
  refine xj_v (wc := (wWords h cs I L A Q G J)) (wr := ([] : va_W)) hP hD hS hA [0, 1, 2, 3, 4, 5, 6, 7, 8, 9, 10, 11] [] rfl rfl (by decide +kernel) (by decide +kernel) (va_runV (As := []) (rest := []) ⟨hx, hb, hml, hown, hts⟩ (k_X8_workOutOffs l dC dI h cs H.size I L A Q G J R M a hR (by first | assumption | omega | exact hR1) (by first | assumption | omega | exact hR5) hM (by first | assumption | omega | exact hM1) (by first | assumption | omega | exact hM4) ha (by first | assumption | omega | exact ha2)) (cwV 0 hts gX8_ranked_X8_workOutOffs rfl rfl rfl (by decide +kernel) ⟨Nat.le_of_ble_eq_true rfl, Nat.le_of_ble_eq_true rfl⟩) (xpV (wc := (wWords h cs I L A Q G J)) hP hD hK hN [0, 1, 2, 3, 4, 5, 6, 7, 8, 9, 10, 11] rfl (by decide) 0 (ci := 8) rfl rfl _) rfl rfl hl.1 rfl (lv_room (Nat.le_of_ble_eq_true rfl)) dX8_ranked_1 ⟨Nat.zero_le _, Nat.zero_le _⟩) (fun u_1 H locs hw hP hD hS => ?_)
  obtain ⟨f170_3, x173_4, hf_5, rfl⟩ := hw
  have hP : va_P (dC, dI) vwCl (wWords h cs (va_up I 173 x173_4) L (va_up A 170 f170_3) Q G J) H := hP
  have hD : va_D A0 (wWords h cs (va_up I 173 x173_4) L (va_up A 170 f170_3) Q G J) := hD
  have hwo := hf_5
  refine lv_aload_n hx hb dX8_ranked_4 rfl (lv_at hl 0 rfl) ?_
  refine xj_v (wc := (wWords h cs (va_up I 173 x173_4) L (va_up A 170 f170_3) Q G J)) (wr := ([] : va_W)) hP hD hS hA [0, 1, 2, 3, 4, 5, 6, 7, 8, 9, 10, 11] [] rfl rfl (by decide +kernel) (by decide +kernel) (va_runV (As := []) (rest := []) ⟨hx, hb, hml, hown, hts⟩ (k_X8_sortByOff l dC dI h cs H.size (va_up I 173 x173_4) L (va_up A 170 f170_3) Q G J R M a hR (by first | assumption | omega | exact hR1) (by first | assumption | omega | exact hR5) hM (by first | assumption | omega | exact hM1) (by first | assumption | omega | exact hM4) ha (by first | assumption | omega | exact ha2)) (cwV 0 hts gX8_ranked_X8_sortByOff rfl rfl rfl (by decide +kernel) ⟨Nat.le_of_ble_eq_true rfl, Nat.le_of_ble_eq_true rfl⟩) (xpV (wc := (wWords h cs (va_up I 173 x173_4) L (va_up A 170 f170_3) Q G J)) hP hD hK hN [0, 1, 2, 3, 4, 5, 6, 7, 8, 9, 10, 11] rfl (by decide) 0 (ci := 8) rfl rfl _) rfl rfl hl.1 rfl (lv_room (Nat.le_of_ble_eq_true rfl)) dX8_ranked_5 ⟨Nat.zero_le _, Nat.zero_le _⟩) (fun u_6 H locs hw hP hD hS => ?_)
  obtain ⟨i174_8, a171_9, a172_10, hf_11, rfl⟩ := hw
  have hP : va_P (dC, dI) vwCl (wWords h cs (va_up (va_up I 173 x173_4) 174 i174_8) L (va_up (va_up (va_up A 170 f170_3) 171 a171_9) 172 a172_10) Q G J) H := hP
  have hD : va_D A0 (wWords h cs (va_up (va_up I 173 x173_4) 174 i174_8) L (va_up (va_up (va_up A 170 f170_3) 171 a171_9) 172 a172_10) Q G J) := hD
  have hso := hf_11
  refine lv_aload_n hx hb dX8_ranked_8 rfl (lv_at hl 0 rfl) ?_
  refine va_get (D := (dC, dI)) (ci := 8) (v := .ref (h 171)) (C := RX8) (T := TX8) (N := 6) hx hb hts hinX8 hown hK hP 0 rfl rfl 2 (by decide) (hts (.fieldLink RX8 15 "MixedWords$Words" "byOff" "[I") (by decide +kernel)) (fun _ h9 => h9) rfl dX8_ranked_9 ?_
  refine lv_iload_n hx hb dX8_ranked_12 rfl (lv_at hl 1 rfl) ?_
  refine xa_iald hx hb hK hP 2 0 rfl rfl (by omega) (by decide) dX8_ranked_13 ?_
  exact xr_i (v := (a171_9 i)) hx hb hr hlocks hK hS dX8_ranked_14 ((va_up (va_up I 173 x173_4) 174 i174_8), L, (va_up (va_up (va_up A 170 f170_3) 171 a171_9) 172 a172_10), Q, G, J) ⟨x173_4, i174_8, f170_3, a171_9, a172_10, ⟨hwo, hso, rfl⟩, rfl⟩ hP hD
