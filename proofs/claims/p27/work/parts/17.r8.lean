
def pivG (m : Nat → Nat → Int64) (n k : Nat) : Nat → Nat → Nat
  | 0, r => r
  | f + 1, r => if r < n ∧ m r k = 0 then pivG m n k f (r + 1) else r
def swapM (m : Nat → Nat → Int64) (p k : Nat) : Nat → Nat → Int64 := fun r c => if r = k then m p c else if r = p then m k c else m r c
def elimM (m : Nat → Nat → Int64) (k : Nat) (b : Int64) : Nat → Nat → Int64 := fun r c => if k < r ∧ k < c then (m r c * m k k - m r k * m k c) / b else m r c
def detG (n : Nat) : Nat → Nat → (Nat → Nat → Int64) → Int64 → Int64 → Int64
  | 0, _, _, b, s => s * b
  | f + 1, k, m, b, s => if pivG m n k (n - k) k = n then 0 else detG n f (k + 1) (elimM (swapM m (pivG m n k (n - k) k) k) k b) (swapM m (pivG m n k (n - k) k) k k k) (if pivG m n k (n - k) k = k then s else 0 - s)
def detM (n : Nat) (m : Nat → Nat → Int64) : Int64 := detG n n 0 m 1 1
theorem det_go {n k p : Nat} {m : Nat → Nat → Int64} {b s : Int64} (hk : k < n) (hp : pivG m n k (n - k) k = p) (hpn : p < n) : detG n (n - k) k m b s = detG n (n - (k + 1)) (k + 1) (elimM (swapM m p k) k b) (swapM m p k k k) (if p = k then s else 0 - s) := by
  rw [show n - k = (n - (k + 1)) + 1 by omega, detG, if_neg (by rw [hp]; omega), hp]
theorem det_zero {n k : Nat} {m : Nat → Nat → Int64} {b s : Int64} (hk : k < n) (hp : pivG m n k (n - k) k = n) : detG n (n - k) k m b s = 0 := by
  rw [show n - k = (n - (k + 1)) + 1 by omega, detG, if_pos hp]
theorem piv_s {n k r : Nat} {m : Nat → Nat → Int64} (hr : r < n) (hz : m r k = 0) : pivG m n k (n - r) r = pivG m n k (n - (r + 1)) (r + 1) := by
  rw [show n - r = (n - (r + 1)) + 1 by omega, pivG, if_pos ⟨hr, hz⟩]
theorem piv_e {n k r : Nat} {m : Nat → Nat → Int64} (hr : r < n) (hz : ¬ m r k = 0) : pivG m n k (n - r) r = r := by
  rw [show n - r = (n - (r + 1)) + 1 by omega, pivG, if_neg (fun h => hz h.2)]
theorem piv_n {n k : Nat} {m : Nat → Nat → Int64} : pivG m n k (n - n) n = n := by rw [Nat.sub_self]; rfl
/-- q holds the matrix m in its first n rows and columns -/
def Sq (n : Nat) (q : Nat → Int64) (m : Nat → Nat → Int64) : Prop := ∀ r c : Nat, r < n → c < n → q (4 * r + c) = m r c
def swapP (m : Nat → Nat → Int64) (p k j : Nat) : Nat → Nat → Int64 := fun r c => if c < j then swapM m p k r c else m r c
theorem swap_s {n p k j : Nat} {m : Nat → Nat → Int64} {w : Nat → Int64} (hn : n ≤ 4) (hp : p < n) (hk : k < n) (hj : j < n) (h : Sq n w (swapP m p k j)) : Sq n (vp_updL (vp_updL w (4 * p + j) (w (4 * k + j))) (4 * k + j) (w (4 * p + j))) (swapP m p k (j + 1)) := by
  intro r c hr hc
  have e1 : w (4 * k + j) = m k j := by rw [h k j hk hj, swapP, if_neg (by omega)]
  have e2 : w (4 * p + j) = m p j := by rw [h p j hp hj, swapP, if_neg (by omega)]
  rw [e1, e2]
  by_cases g1 : 4 * r + c = 4 * k + j
  · have a1 : r = k := by omega
    have a2 : c = j := by omega
    rw [g1, pk_uLs, swapP, if_pos (by omega), a1, a2]
    simp [swapM]
  · rw [pk_uLn g1]
    by_cases g2 : 4 * r + c = 4 * p + j
    · have a1 : r = p := by omega
      have a2 : c = j := by omega
      have a3 : p ≠ k := by omega
      rw [g2, pk_uLs, swapP, if_pos (by omega), a1, a2]
      simp [swapM, a3]
    · rw [pk_uLn g2, h r c hr hc, swapP, swapP]
      by_cases g3 : c < j
      · rw [if_pos g3, if_pos (by omega)]
      · rw [if_neg g3]
        by_cases g4 : c = j
        · rw [if_pos (by omega)]
          have b1 : r ≠ k := by omega
          have b2 : r ≠ p := by omega
          simp [swapM, b1, b2]
        · rw [if_neg (by omega)]
theorem swap_0 {n p k : Nat} {m : Nat → Nat → Int64} {w : Nat → Int64} (h : Sq n w m) : Sq n w (swapP m p k 0) := fun r c hr hc => by rw [h r c hr hc, swapP, if_neg (by omega)]
theorem swap_n {n p k : Nat} {m : Nat → Nat → Int64} {w : Nat → Int64} {j : Nat} (hj : n ≤ j) (h : Sq n w (swapP m p k j)) : Sq n w (swapM m p k) := fun r c hr hc => by rw [h r c hr hc, swapP, if_pos (by omega)]
/-- while a row is worked at: rows below i, and of row i the columns below j, are done -/
def elimP (m : Nat → Nat → Int64) (k : Nat) (b : Int64) (i j : Nat) : Nat → Nat → Int64 := fun r c => if r < i ∨ (r = i ∧ c < j) then elimM m k b r c else m r c
theorem elim_0 {n k j : Nat} {m : Nat → Nat → Int64} {b : Int64} {w : Nat → Int64} (hj : j ≤ k + 1) (h : Sq n w m) : Sq n w (elimP m k b (k + 1) j) := fun r c hr hc => by
  rw [h r c hr hc, elimP]
  split
  · rw [elimM, if_neg (by omega)]
  · rfl
theorem elim_c {n k i : Nat} {m : Nat → Nat → Int64} {b : Int64} {w : Nat → Int64} (h : Sq n w (elimP m k b i 0)) : Sq n w (elimP m k b i (k + 1)) := fun r c hr hc => by
  rw [h r c hr hc, elimP, elimP]
  by_cases g : r < i
  · rw [if_pos (Or.inl g), if_pos (Or.inl g)]
  · rw [if_neg (by omega)]
    split
    · rw [elimM, if_neg (by omega)]
    · rfl
theorem elim_r {n k i j : Nat} {m : Nat → Nat → Int64} {b : Int64} {w : Nat → Int64} (hj : n ≤ j) (h : Sq n w (elimP m k b i j)) : Sq n w (elimP m k b (i + 1) 0) := fun r c hr hc => by
  rw [h r c hr hc, elimP, elimP]
  by_cases g : r < i + 1
  · rw [if_pos (by omega), if_pos (Or.inl g)]
  · rw [if_neg (by omega), if_neg (by omega)]
theorem elim_n {n k i : Nat} {m : Nat → Nat → Int64} {b : Int64} {w : Nat → Int64} (hi : n ≤ i) (h : Sq n w (elimP m k b i 0)) : Sq n w (elimM m k b) := fun r c hr hc => by
  rw [h r c hr hc, elimP, if_pos (by omega)]
theorem elim_s {n k i j : Nat} {m : Nat → Nat → Int64} {b : Int64} {w : Nat → Int64} (hn : n ≤ 4) (hk : k < n) (hi : i < n) (hki : k < i) (hj : j < n) (hkj : k < j) (h : Sq n w (elimP m k b i j)) : Sq n (vp_updL w (4 * i + j) ((w (4 * i + j) * w (4 * k + k) - w (4 * i + k) * w (4 * k + j)) / b)) (elimP m k b i (j + 1)) := by
  have e1 : w (4 * i + j) = m i j := by rw [h i j hi hj, elimP, if_neg (by omega)]
  have e2 : w (4 * k + k) = m k k := by rw [h k k hk hk, elimP, if_pos (by omega), elimM, if_neg (by omega)]
  have e3 : w (4 * i + k) = m i k := by rw [h i k hi hk, elimP, if_pos (by omega), elimM, if_neg (by omega)]
  have e4 : w (4 * k + j) = m k j := by rw [h k j hk hj, elimP, if_pos (by omega), elimM, if_neg (by omega)]
  rw [e1, e2, e3, e4]
  intro r c hr hc
  by_cases g : 4 * r + c = 4 * i + j
  · have a1 : r = i := by omega
    have a2 : c = j := by omega
    rw [g, pk_uLs, elimP, if_pos (by omega), a1, a2, elimM, if_pos ⟨hki, hkj⟩]
  · rw [pk_uLn g, h r c hr hc, elimP, elimP]
    by_cases q : r < i ∨ (r = i ∧ c < j)
    · rw [if_pos q, if_pos (by omega)]
    · rw [if_neg q, if_neg (by omega)]
theorem bdX10_determinant_0 : (decode cX10_determinant 0 = .ok (.lconst 1, 1)) ∧ (decode cX10_determinant 1 = .ok (.lstore_n 2, 1)) ∧ (decode cX10_determinant 2 = .ok (.lconst 1, 1)) ∧ (decode cX10_determinant 3 = .ok (.lstore 4, 2)) ∧ (decode cX10_determinant 5 = .ok (.iconst 0, 1)) ∧ (decode cX10_determinant 6 = .ok (.istore 6, 2)) ∧ (decode cX10_determinant 8 = .ok (.iload 6, 2)) ∧ (decode cX10_determinant 10 = .ok (.iload_n 1, 1)) ∧ (decode cX10_determinant 11 = .ok (.if_icmp .ge 249, 3)) ∧ (decode cX10_determinant 14 = .ok (.iload 6, 2)) ∧ (decode cX10_determinant 16 = .ok (.istore 7, 2)) ∧ (decode cX10_determinant 18 = .ok (.iload 7, 2)) ∧ (decode cX10_determinant 20 = .ok (.iload_n 1, 1)) ∧ (decode cX10_determinant 21 = .ok (.if_icmp .ge 26, 3)) ∧ (decode cX10_determinant 24 = .ok (.aload_n 0, 1)) ∧ (decode cX10_determinant 25 = .ok (.getfield 47, 3)) := by decide +kernel
theorem dX10_determinant_0 : decode cX10_determinant 0 = .ok (.lconst 1, 1) := bdX10_determinant_0.1
theorem dX10_determinant_1 : decode cX10_determinant 1 = .ok (.lstore_n 2, 1) := bdX10_determinant_0.2.1
theorem dX10_determinant_2 : decode cX10_determinant 2 = .ok (.lconst 1, 1) := bdX10_determinant_0.2.2.1
theorem dX10_determinant_3 : decode cX10_determinant 3 = .ok (.lstore 4, 2) := bdX10_determinant_0.2.2.2.1
theorem dX10_determinant_5 : decode cX10_determinant 5 = .ok (.iconst 0, 1) := bdX10_determinant_0.2.2.2.2.1
theorem dX10_determinant_6 : decode cX10_determinant 6 = .ok (.istore 6, 2) := bdX10_determinant_0.2.2.2.2.2.1
theorem dX10_determinant_8 : decode cX10_determinant 8 = .ok (.iload 6, 2) := bdX10_determinant_0.2.2.2.2.2.2.1
theorem dX10_determinant_10 : decode cX10_determinant 10 = .ok (.iload_n 1, 1) := bdX10_determinant_0.2.2.2.2.2.2.2.1
theorem dX10_determinant_11 : decode cX10_determinant 11 = .ok (.if_icmp .ge 249, 3) := bdX10_determinant_0.2.2.2.2.2.2.2.2.1
theorem dX10_determinant_14 : decode cX10_determinant 14 = .ok (.iload 6, 2) := bdX10_determinant_0.2.2.2.2.2.2.2.2.2.1
theorem dX10_determinant_16 : decode cX10_determinant 16 = .ok (.istore 7, 2) := bdX10_determinant_0.2.2.2.2.2.2.2.2.2.2.1
theorem dX10_determinant_18 : decode cX10_determinant 18 = .ok (.iload 7, 2) := bdX10_determinant_0.2.2.2.2.2.2.2.2.2.2.2.1
theorem dX10_determinant_20 : decode cX10_determinant 20 = .ok (.iload_n 1, 1) := bdX10_determinant_0.2.2.2.2.2.2.2.2.2.2.2.2.1
theorem dX10_determinant_21 : decode cX10_determinant 21 = .ok (.if_icmp .ge 26, 3) := bdX10_determinant_0.2.2.2.2.2.2.2.2.2.2.2.2.2.1
theorem dX10_determinant_24 : decode cX10_determinant 24 = .ok (.aload_n 0, 1) := bdX10_determinant_0.2.2.2.2.2.2.2.2.2.2.2.2.2.2.1
theorem dX10_determinant_25 : decode cX10_determinant 25 = .ok (.getfield 47, 3) := bdX10_determinant_0.2.2.2.2.2.2.2.2.2.2.2.2.2.2.2
theorem bdX10_determinant_28 : (decode cX10_determinant 28 = .ok (.iconst 4, 1)) ∧ (decode cX10_determinant 29 = .ok (.iload 7, 2)) ∧ (decode cX10_determinant 31 = .ok (.imul, 1)) ∧ (decode cX10_determinant 32 = .ok (.iload 6, 2)) ∧ (decode cX10_determinant 34 = .ok (.iadd, 1)) ∧ (decode cX10_determinant 35 = .ok (.laload, 1)) ∧ (decode cX10_determinant 36 = .ok (.lconst 0, 1)) ∧ (decode cX10_determinant 37 = .ok (.lcmp, 1)) ∧ (decode cX10_determinant 38 = .ok (.ifCond .ne 9, 3)) ∧ (decode cX10_determinant 41 = .ok (.iinc 7 1, 3)) ∧ (decode cX10_determinant 44 = .ok (.goto (-26), 3)) ∧ (decode cX10_determinant 47 = .ok (.iload 7, 2)) ∧ (decode cX10_determinant 49 = .ok (.iload_n 1, 1)) ∧ (decode cX10_determinant 50 = .ok (.if_icmp .ne 5, 3)) ∧ (decode cX10_determinant 53 = .ok (.lconst 0, 1)) ∧ (decode cX10_determinant 54 = .ok (.lreturn, 1)) := by decide +kernel
theorem dX10_determinant_28 : decode cX10_determinant 28 = .ok (.iconst 4, 1) := bdX10_determinant_28.1
theorem dX10_determinant_29 : decode cX10_determinant 29 = .ok (.iload 7, 2) := bdX10_determinant_28.2.1
theorem dX10_determinant_31 : decode cX10_determinant 31 = .ok (.imul, 1) := bdX10_determinant_28.2.2.1
theorem dX10_determinant_32 : decode cX10_determinant 32 = .ok (.iload 6, 2) := bdX10_determinant_28.2.2.2.1
theorem dX10_determinant_34 : decode cX10_determinant 34 = .ok (.iadd, 1) := bdX10_determinant_28.2.2.2.2.1
theorem dX10_determinant_35 : decode cX10_determinant 35 = .ok (.laload, 1) := bdX10_determinant_28.2.2.2.2.2.1
theorem dX10_determinant_36 : decode cX10_determinant 36 = .ok (.lconst 0, 1) := bdX10_determinant_28.2.2.2.2.2.2.1
theorem dX10_determinant_37 : decode cX10_determinant 37 = .ok (.lcmp, 1) := bdX10_determinant_28.2.2.2.2.2.2.2.1
theorem dX10_determinant_38 : decode cX10_determinant 38 = .ok (.ifCond .ne 9, 3) := bdX10_determinant_28.2.2.2.2.2.2.2.2.1
theorem dX10_determinant_41 : decode cX10_determinant 41 = .ok (.iinc 7 1, 3) := bdX10_determinant_28.2.2.2.2.2.2.2.2.2.1
theorem dX10_determinant_44 : decode cX10_determinant 44 = .ok (.goto (-26), 3) := bdX10_determinant_28.2.2.2.2.2.2.2.2.2.2.1
theorem dX10_determinant_47 : decode cX10_determinant 47 = .ok (.iload 7, 2) := bdX10_determinant_28.2.2.2.2.2.2.2.2.2.2.2.1
theorem dX10_determinant_49 : decode cX10_determinant 49 = .ok (.iload_n 1, 1) := bdX10_determinant_28.2.2.2.2.2.2.2.2.2.2.2.2.1
theorem dX10_determinant_50 : decode cX10_determinant 50 = .ok (.if_icmp .ne 5, 3) := bdX10_determinant_28.2.2.2.2.2.2.2.2.2.2.2.2.2.1
theorem dX10_determinant_53 : decode cX10_determinant 53 = .ok (.lconst 0, 1) := bdX10_determinant_28.2.2.2.2.2.2.2.2.2.2.2.2.2.2.1
theorem dX10_determinant_54 : decode cX10_determinant 54 = .ok (.lreturn, 1) := bdX10_determinant_28.2.2.2.2.2.2.2.2.2.2.2.2.2.2.2
theorem bdX10_determinant_55 : (decode cX10_determinant 55 = .ok (.iconst 0, 1)) ∧ (decode cX10_determinant 56 = .ok (.istore 8, 2)) ∧ (decode cX10_determinant 58 = .ok (.iload 8, 2)) ∧ (decode cX10_determinant 60 = .ok (.iload_n 1, 1)) ∧ (decode cX10_determinant 61 = .ok (.if_icmp .ge 61, 3)) ∧ (decode cX10_determinant 64 = .ok (.aload_n 0, 1)) ∧ (decode cX10_determinant 65 = .ok (.getfield 47, 3)) ∧ (decode cX10_determinant 68 = .ok (.iconst 4, 1)) ∧ (decode cX10_determinant 69 = .ok (.iload 7, 2)) ∧ (decode cX10_determinant 71 = .ok (.imul, 1)) ∧ (decode cX10_determinant 72 = .ok (.iload 8, 2)) ∧ (decode cX10_determinant 74 = .ok (.iadd, 1)) ∧ (decode cX10_determinant 75 = .ok (.laload, 1)) ∧ (decode cX10_determinant 76 = .ok (.lstore 9, 2)) ∧ (decode cX10_determinant 78 = .ok (.aload_n 0, 1)) ∧ (decode cX10_determinant 79 = .ok (.getfield 47, 3)) := by decide +kernel
theorem dX10_determinant_55 : decode cX10_determinant 55 = .ok (.iconst 0, 1) := bdX10_determinant_55.1
theorem dX10_determinant_56 : decode cX10_determinant 56 = .ok (.istore 8, 2) := bdX10_determinant_55.2.1
theorem dX10_determinant_58 : decode cX10_determinant 58 = .ok (.iload 8, 2) := bdX10_determinant_55.2.2.1
theorem dX10_determinant_60 : decode cX10_determinant 60 = .ok (.iload_n 1, 1) := bdX10_determinant_55.2.2.2.1
theorem dX10_determinant_61 : decode cX10_determinant 61 = .ok (.if_icmp .ge 61, 3) := bdX10_determinant_55.2.2.2.2.1
theorem dX10_determinant_64 : decode cX10_determinant 64 = .ok (.aload_n 0, 1) := bdX10_determinant_55.2.2.2.2.2.1
theorem dX10_determinant_65 : decode cX10_determinant 65 = .ok (.getfield 47, 3) := bdX10_determinant_55.2.2.2.2.2.2.1
theorem dX10_determinant_68 : decode cX10_determinant 68 = .ok (.iconst 4, 1) := bdX10_determinant_55.2.2.2.2.2.2.2.1
theorem dX10_determinant_69 : decode cX10_determinant 69 = .ok (.iload 7, 2) := bdX10_determinant_55.2.2.2.2.2.2.2.2.1
theorem dX10_determinant_71 : decode cX10_determinant 71 = .ok (.imul, 1) := bdX10_determinant_55.2.2.2.2.2.2.2.2.2.1
theorem dX10_determinant_72 : decode cX10_determinant 72 = .ok (.iload 8, 2) := bdX10_determinant_55.2.2.2.2.2.2.2.2.2.2.1
theorem dX10_determinant_74 : decode cX10_determinant 74 = .ok (.iadd, 1) := bdX10_determinant_55.2.2.2.2.2.2.2.2.2.2.2.1
theorem dX10_determinant_75 : decode cX10_determinant 75 = .ok (.laload, 1) := bdX10_determinant_55.2.2.2.2.2.2.2.2.2.2.2.2.1
theorem dX10_determinant_76 : decode cX10_determinant 76 = .ok (.lstore 9, 2) := bdX10_determinant_55.2.2.2.2.2.2.2.2.2.2.2.2.2.1
theorem dX10_determinant_78 : decode cX10_determinant 78 = .ok (.aload_n 0, 1) := bdX10_determinant_55.2.2.2.2.2.2.2.2.2.2.2.2.2.2.1
theorem dX10_determinant_79 : decode cX10_determinant 79 = .ok (.getfield 47, 3) := bdX10_determinant_55.2.2.2.2.2.2.2.2.2.2.2.2.2.2.2
theorem bdX10_determinant_82 : (decode cX10_determinant 82 = .ok (.iconst 4, 1)) ∧ (decode cX10_determinant 83 = .ok (.iload 7, 2)) ∧ (decode cX10_determinant 85 = .ok (.imul, 1)) ∧ (decode cX10_determinant 86 = .ok (.iload 8, 2)) ∧ (decode cX10_determinant 88 = .ok (.iadd, 1)) ∧ (decode cX10_determinant 89 = .ok (.aload_n 0, 1)) ∧ (decode cX10_determinant 90 = .ok (.getfield 47, 3)) ∧ (decode cX10_determinant 93 = .ok (.iconst 4, 1)) ∧ (decode cX10_determinant 94 = .ok (.iload 6, 2)) ∧ (decode cX10_determinant 96 = .ok (.imul, 1)) ∧ (decode cX10_determinant 97 = .ok (.iload 8, 2)) ∧ (decode cX10_determinant 99 = .ok (.iadd, 1)) ∧ (decode cX10_determinant 100 = .ok (.laload, 1)) ∧ (decode cX10_determinant 101 = .ok (.lastore, 1)) ∧ (decode cX10_determinant 102 = .ok (.aload_n 0, 1)) ∧ (decode cX10_determinant 103 = .ok (.getfield 47, 3)) := by decide +kernel
theorem dX10_determinant_82 : decode cX10_determinant 82 = .ok (.iconst 4, 1) := bdX10_determinant_82.1
theorem dX10_determinant_83 : decode cX10_determinant 83 = .ok (.iload 7, 2) := bdX10_determinant_82.2.1
theorem dX10_determinant_85 : decode cX10_determinant 85 = .ok (.imul, 1) := bdX10_determinant_82.2.2.1
theorem dX10_determinant_86 : decode cX10_determinant 86 = .ok (.iload 8, 2) := bdX10_determinant_82.2.2.2.1
theorem dX10_determinant_88 : decode cX10_determinant 88 = .ok (.iadd, 1) := bdX10_determinant_82.2.2.2.2.1
theorem dX10_determinant_89 : decode cX10_determinant 89 = .ok (.aload_n 0, 1) := bdX10_determinant_82.2.2.2.2.2.1
theorem dX10_determinant_90 : decode cX10_determinant 90 = .ok (.getfield 47, 3) := bdX10_determinant_82.2.2.2.2.2.2.1
theorem dX10_determinant_93 : decode cX10_determinant 93 = .ok (.iconst 4, 1) := bdX10_determinant_82.2.2.2.2.2.2.2.1
theorem dX10_determinant_94 : decode cX10_determinant 94 = .ok (.iload 6, 2) := bdX10_determinant_82.2.2.2.2.2.2.2.2.1
theorem dX10_determinant_96 : decode cX10_determinant 96 = .ok (.imul, 1) := bdX10_determinant_82.2.2.2.2.2.2.2.2.2.1
theorem dX10_determinant_97 : decode cX10_determinant 97 = .ok (.iload 8, 2) := bdX10_determinant_82.2.2.2.2.2.2.2.2.2.2.1
theorem dX10_determinant_99 : decode cX10_determinant 99 = .ok (.iadd, 1) := bdX10_determinant_82.2.2.2.2.2.2.2.2.2.2.2.1
theorem dX10_determinant_100 : decode cX10_determinant 100 = .ok (.laload, 1) := bdX10_determinant_82.2.2.2.2.2.2.2.2.2.2.2.2.1
theorem dX10_determinant_101 : decode cX10_determinant 101 = .ok (.lastore, 1) := bdX10_determinant_82.2.2.2.2.2.2.2.2.2.2.2.2.2.1
theorem dX10_determinant_102 : decode cX10_determinant 102 = .ok (.aload_n 0, 1) := bdX10_determinant_82.2.2.2.2.2.2.2.2.2.2.2.2.2.2.1
theorem dX10_determinant_103 : decode cX10_determinant 103 = .ok (.getfield 47, 3) := bdX10_determinant_82.2.2.2.2.2.2.2.2.2.2.2.2.2.2.2
theorem bdX10_determinant_106 : (decode cX10_determinant 106 = .ok (.iconst 4, 1)) ∧ (decode cX10_determinant 107 = .ok (.iload 6, 2)) ∧ (decode cX10_determinant 109 = .ok (.imul, 1)) ∧ (decode cX10_determinant 110 = .ok (.iload 8, 2)) ∧ (decode cX10_determinant 112 = .ok (.iadd, 1)) ∧ (decode cX10_determinant 113 = .ok (.lload 9, 2)) ∧ (decode cX10_determinant 115 = .ok (.lastore, 1)) ∧ (decode cX10_determinant 116 = .ok (.iinc 8 1, 3)) ∧ (decode cX10_determinant 119 = .ok (.goto (-61), 3)) ∧ (decode cX10_determinant 122 = .ok (.iload 7, 2)) ∧ (decode cX10_determinant 124 = .ok (.iload 6, 2)) ∧ (decode cX10_determinant 126 = .ok (.if_icmp .ne 8, 3)) ∧ (decode cX10_determinant 129 = .ok (.lload 4, 2)) ∧ (decode cX10_determinant 131 = .ok (.goto 7, 3)) ∧ (decode cX10_determinant 134 = .ok (.lconst 0, 1)) ∧ (decode cX10_determinant 135 = .ok (.lload 4, 2)) := by decide +kernel
theorem dX10_determinant_106 : decode cX10_determinant 106 = .ok (.iconst 4, 1) := bdX10_determinant_106.1
theorem dX10_determinant_107 : decode cX10_determinant 107 = .ok (.iload 6, 2) := bdX10_determinant_106.2.1
theorem dX10_determinant_109 : decode cX10_determinant 109 = .ok (.imul, 1) := bdX10_determinant_106.2.2.1
theorem dX10_determinant_110 : decode cX10_determinant 110 = .ok (.iload 8, 2) := bdX10_determinant_106.2.2.2.1
theorem dX10_determinant_112 : decode cX10_determinant 112 = .ok (.iadd, 1) := bdX10_determinant_106.2.2.2.2.1
theorem dX10_determinant_113 : decode cX10_determinant 113 = .ok (.lload 9, 2) := bdX10_determinant_106.2.2.2.2.2.1
theorem dX10_determinant_115 : decode cX10_determinant 115 = .ok (.lastore, 1) := bdX10_determinant_106.2.2.2.2.2.2.1
theorem dX10_determinant_116 : decode cX10_determinant 116 = .ok (.iinc 8 1, 3) := bdX10_determinant_106.2.2.2.2.2.2.2.1
theorem dX10_determinant_119 : decode cX10_determinant 119 = .ok (.goto (-61), 3) := bdX10_determinant_106.2.2.2.2.2.2.2.2.1
theorem dX10_determinant_122 : decode cX10_determinant 122 = .ok (.iload 7, 2) := bdX10_determinant_106.2.2.2.2.2.2.2.2.2.1
theorem dX10_determinant_124 : decode cX10_determinant 124 = .ok (.iload 6, 2) := bdX10_determinant_106.2.2.2.2.2.2.2.2.2.2.1
theorem dX10_determinant_126 : decode cX10_determinant 126 = .ok (.if_icmp .ne 8, 3) := bdX10_determinant_106.2.2.2.2.2.2.2.2.2.2.2.1
theorem dX10_determinant_129 : decode cX10_determinant 129 = .ok (.lload 4, 2) := bdX10_determinant_106.2.2.2.2.2.2.2.2.2.2.2.2.1
theorem dX10_determinant_131 : decode cX10_determinant 131 = .ok (.goto 7, 3) := bdX10_determinant_106.2.2.2.2.2.2.2.2.2.2.2.2.2.1
theorem dX10_determinant_134 : decode cX10_determinant 134 = .ok (.lconst 0, 1) := bdX10_determinant_106.2.2.2.2.2.2.2.2.2.2.2.2.2.2.1
theorem dX10_determinant_135 : decode cX10_determinant 135 = .ok (.lload 4, 2) := bdX10_determinant_106.2.2.2.2.2.2.2.2.2.2.2.2.2.2.2
theorem bdX10_determinant_137 : (decode cX10_determinant 137 = .ok (.lsub, 1)) ∧ (decode cX10_determinant 138 = .ok (.lstore 4, 2)) ∧ (decode cX10_determinant 140 = .ok (.iload 6, 2)) ∧ (decode cX10_determinant 142 = .ok (.iconst 1, 1)) ∧ (decode cX10_determinant 143 = .ok (.iadd, 1)) ∧ (decode cX10_determinant 144 = .ok (.istore 8, 2)) ∧ (decode cX10_determinant 146 = .ok (.iload 8, 2)) ∧ (decode cX10_determinant 148 = .ok (.iload_n 1, 1)) ∧ (decode cX10_determinant 149 = .ok (.if_icmp .ge 92, 3)) ∧ (decode cX10_determinant 152 = .ok (.iload 6, 2)) ∧ (decode cX10_determinant 154 = .ok (.iconst 1, 1)) ∧ (decode cX10_determinant 155 = .ok (.iadd, 1)) ∧ (decode cX10_determinant 156 = .ok (.istore 9, 2)) ∧ (decode cX10_determinant 158 = .ok (.iload 9, 2)) ∧ (decode cX10_determinant 160 = .ok (.iload_n 1, 1)) ∧ (decode cX10_determinant 161 = .ok (.if_icmp .ge 74, 3)) := by decide +kernel
theorem dX10_determinant_137 : decode cX10_determinant 137 = .ok (.lsub, 1) := bdX10_determinant_137.1
theorem dX10_determinant_138 : decode cX10_determinant 138 = .ok (.lstore 4, 2) := bdX10_determinant_137.2.1
theorem dX10_determinant_140 : decode cX10_determinant 140 = .ok (.iload 6, 2) := bdX10_determinant_137.2.2.1
theorem dX10_determinant_142 : decode cX10_determinant 142 = .ok (.iconst 1, 1) := bdX10_determinant_137.2.2.2.1
theorem dX10_determinant_143 : decode cX10_determinant 143 = .ok (.iadd, 1) := bdX10_determinant_137.2.2.2.2.1
theorem dX10_determinant_144 : decode cX10_determinant 144 = .ok (.istore 8, 2) := bdX10_determinant_137.2.2.2.2.2.1
theorem dX10_determinant_146 : decode cX10_determinant 146 = .ok (.iload 8, 2) := bdX10_determinant_137.2.2.2.2.2.2.1
theorem dX10_determinant_148 : decode cX10_determinant 148 = .ok (.iload_n 1, 1) := bdX10_determinant_137.2.2.2.2.2.2.2.1
theorem dX10_determinant_149 : decode cX10_determinant 149 = .ok (.if_icmp .ge 92, 3) := bdX10_determinant_137.2.2.2.2.2.2.2.2.1
theorem dX10_determinant_152 : decode cX10_determinant 152 = .ok (.iload 6, 2) := bdX10_determinant_137.2.2.2.2.2.2.2.2.2.1
theorem dX10_determinant_154 : decode cX10_determinant 154 = .ok (.iconst 1, 1) := bdX10_determinant_137.2.2.2.2.2.2.2.2.2.2.1
theorem dX10_determinant_155 : decode cX10_determinant 155 = .ok (.iadd, 1) := bdX10_determinant_137.2.2.2.2.2.2.2.2.2.2.2.1
theorem dX10_determinant_156 : decode cX10_determinant 156 = .ok (.istore 9, 2) := bdX10_determinant_137.2.2.2.2.2.2.2.2.2.2.2.2.1
theorem dX10_determinant_158 : decode cX10_determinant 158 = .ok (.iload 9, 2) := bdX10_determinant_137.2.2.2.2.2.2.2.2.2.2.2.2.2.1
theorem dX10_determinant_160 : decode cX10_determinant 160 = .ok (.iload_n 1, 1) := bdX10_determinant_137.2.2.2.2.2.2.2.2.2.2.2.2.2.2.1
theorem dX10_determinant_161 : decode cX10_determinant 161 = .ok (.if_icmp .ge 74, 3) := bdX10_determinant_137.2.2.2.2.2.2.2.2.2.2.2.2.2.2.2
theorem bdX10_determinant_164 : (decode cX10_determinant 164 = .ok (.aload_n 0, 1)) ∧ (decode cX10_determinant 165 = .ok (.getfield 47, 3)) ∧ (decode cX10_determinant 168 = .ok (.iconst 4, 1)) ∧ (decode cX10_determinant 169 = .ok (.iload 8, 2)) ∧ (decode cX10_determinant 171 = .ok (.imul, 1)) ∧ (decode cX10_determinant 172 = .ok (.iload 9, 2)) ∧ (decode cX10_determinant 174 = .ok (.iadd, 1)) ∧ (decode cX10_determinant 175 = .ok (.aload_n 0, 1)) ∧ (decode cX10_determinant 176 = .ok (.getfield 47, 3)) ∧ (decode cX10_determinant 179 = .ok (.iconst 4, 1)) ∧ (decode cX10_determinant 180 = .ok (.iload 8, 2)) ∧ (decode cX10_determinant 182 = .ok (.imul, 1)) ∧ (decode cX10_determinant 183 = .ok (.iload 9, 2)) ∧ (decode cX10_determinant 185 = .ok (.iadd, 1)) ∧ (decode cX10_determinant 186 = .ok (.laload, 1)) ∧ (decode cX10_determinant 187 = .ok (.aload_n 0, 1)) := by decide +kernel
theorem dX10_determinant_164 : decode cX10_determinant 164 = .ok (.aload_n 0, 1) := bdX10_determinant_164.1
theorem dX10_determinant_165 : decode cX10_determinant 165 = .ok (.getfield 47, 3) := bdX10_determinant_164.2.1
theorem dX10_determinant_168 : decode cX10_determinant 168 = .ok (.iconst 4, 1) := bdX10_determinant_164.2.2.1
theorem dX10_determinant_169 : decode cX10_determinant 169 = .ok (.iload 8, 2) := bdX10_determinant_164.2.2.2.1
theorem dX10_determinant_171 : decode cX10_determinant 171 = .ok (.imul, 1) := bdX10_determinant_164.2.2.2.2.1
theorem dX10_determinant_172 : decode cX10_determinant 172 = .ok (.iload 9, 2) := bdX10_determinant_164.2.2.2.2.2.1
theorem dX10_determinant_174 : decode cX10_determinant 174 = .ok (.iadd, 1) := bdX10_determinant_164.2.2.2.2.2.2.1
theorem dX10_determinant_175 : decode cX10_determinant 175 = .ok (.aload_n 0, 1) := bdX10_determinant_164.2.2.2.2.2.2.2.1
theorem dX10_determinant_176 : decode cX10_determinant 176 = .ok (.getfield 47, 3) := bdX10_determinant_164.2.2.2.2.2.2.2.2.1
theorem dX10_determinant_179 : decode cX10_determinant 179 = .ok (.iconst 4, 1) := bdX10_determinant_164.2.2.2.2.2.2.2.2.2.1
theorem dX10_determinant_180 : decode cX10_determinant 180 = .ok (.iload 8, 2) := bdX10_determinant_164.2.2.2.2.2.2.2.2.2.2.1
theorem dX10_determinant_182 : decode cX10_determinant 182 = .ok (.imul, 1) := bdX10_determinant_164.2.2.2.2.2.2.2.2.2.2.2.1
theorem dX10_determinant_183 : decode cX10_determinant 183 = .ok (.iload 9, 2) := bdX10_determinant_164.2.2.2.2.2.2.2.2.2.2.2.2.1
theorem dX10_determinant_185 : decode cX10_determinant 185 = .ok (.iadd, 1) := bdX10_determinant_164.2.2.2.2.2.2.2.2.2.2.2.2.2.1
theorem dX10_determinant_186 : decode cX10_determinant 186 = .ok (.laload, 1) := bdX10_determinant_164.2.2.2.2.2.2.2.2.2.2.2.2.2.2.1
theorem dX10_determinant_187 : decode cX10_determinant 187 = .ok (.aload_n 0, 1) := bdX10_determinant_164.2.2.2.2.2.2.2.2.2.2.2.2.2.2.2
theorem bdX10_determinant_188 : (decode cX10_determinant 188 = .ok (.getfield 47, 3)) ∧ (decode cX10_determinant 191 = .ok (.iconst 4, 1)) ∧ (decode cX10_determinant 192 = .ok (.iload 6, 2)) ∧ (decode cX10_determinant 194 = .ok (.imul, 1)) ∧ (decode cX10_determinant 195 = .ok (.iload 6, 2)) ∧ (decode cX10_determinant 197 = .ok (.iadd, 1)) ∧ (decode cX10_determinant 198 = .ok (.laload, 1)) ∧ (decode cX10_determinant 199 = .ok (.lmul, 1)) ∧ (decode cX10_determinant 200 = .ok (.aload_n 0, 1)) ∧ (decode cX10_determinant 201 = .ok (.getfield 47, 3)) ∧ (decode cX10_determinant 204 = .ok (.iconst 4, 1)) ∧ (decode cX10_determinant 205 = .ok (.iload 8, 2)) ∧ (decode cX10_determinant 207 = .ok (.imul, 1)) ∧ (decode cX10_determinant 208 = .ok (.iload 6, 2)) ∧ (decode cX10_determinant 210 = .ok (.iadd, 1)) ∧ (decode cX10_determinant 211 = .ok (.laload, 1)) := by decide +kernel
theorem dX10_determinant_188 : decode cX10_determinant 188 = .ok (.getfield 47, 3) := bdX10_determinant_188.1
theorem dX10_determinant_191 : decode cX10_determinant 191 = .ok (.iconst 4, 1) := bdX10_determinant_188.2.1
theorem dX10_determinant_192 : decode cX10_determinant 192 = .ok (.iload 6, 2) := bdX10_determinant_188.2.2.1
theorem dX10_determinant_194 : decode cX10_determinant 194 = .ok (.imul, 1) := bdX10_determinant_188.2.2.2.1
theorem dX10_determinant_195 : decode cX10_determinant 195 = .ok (.iload 6, 2) := bdX10_determinant_188.2.2.2.2.1
theorem dX10_determinant_197 : decode cX10_determinant 197 = .ok (.iadd, 1) := bdX10_determinant_188.2.2.2.2.2.1
theorem dX10_determinant_198 : decode cX10_determinant 198 = .ok (.laload, 1) := bdX10_determinant_188.2.2.2.2.2.2.1
theorem dX10_determinant_199 : decode cX10_determinant 199 = .ok (.lmul, 1) := bdX10_determinant_188.2.2.2.2.2.2.2.1
theorem dX10_determinant_200 : decode cX10_determinant 200 = .ok (.aload_n 0, 1) := bdX10_determinant_188.2.2.2.2.2.2.2.2.1
theorem dX10_determinant_201 : decode cX10_determinant 201 = .ok (.getfield 47, 3) := bdX10_determinant_188.2.2.2.2.2.2.2.2.2.1
theorem dX10_determinant_204 : decode cX10_determinant 204 = .ok (.iconst 4, 1) := bdX10_determinant_188.2.2.2.2.2.2.2.2.2.2.1
theorem dX10_determinant_205 : decode cX10_determinant 205 = .ok (.iload 8, 2) := bdX10_determinant_188.2.2.2.2.2.2.2.2.2.2.2.1
theorem dX10_determinant_207 : decode cX10_determinant 207 = .ok (.imul, 1) := bdX10_determinant_188.2.2.2.2.2.2.2.2.2.2.2.2.1
theorem dX10_determinant_208 : decode cX10_determinant 208 = .ok (.iload 6, 2) := bdX10_determinant_188.2.2.2.2.2.2.2.2.2.2.2.2.2.1
theorem dX10_determinant_210 : decode cX10_determinant 210 = .ok (.iadd, 1) := bdX10_determinant_188.2.2.2.2.2.2.2.2.2.2.2.2.2.2.1
theorem dX10_determinant_211 : decode cX10_determinant 211 = .ok (.laload, 1) := bdX10_determinant_188.2.2.2.2.2.2.2.2.2.2.2.2.2.2.2
theorem bdX10_determinant_212 : (decode cX10_determinant 212 = .ok (.aload_n 0, 1)) ∧ (decode cX10_determinant 213 = .ok (.getfield 47, 3)) ∧ (decode cX10_determinant 216 = .ok (.iconst 4, 1)) ∧ (decode cX10_determinant 217 = .ok (.iload 6, 2)) ∧ (decode cX10_determinant 219 = .ok (.imul, 1)) ∧ (decode cX10_determinant 220 = .ok (.iload 9, 2)) ∧ (decode cX10_determinant 222 = .ok (.iadd, 1)) ∧ (decode cX10_determinant 223 = .ok (.laload, 1)) ∧ (decode cX10_determinant 224 = .ok (.lmul, 1)) ∧ (decode cX10_determinant 225 = .ok (.lsub, 1)) ∧ (decode cX10_determinant 226 = .ok (.lload_n 2, 1)) ∧ (decode cX10_determinant 227 = .ok (.ldiv, 1)) ∧ (decode cX10_determinant 228 = .ok (.lastore, 1)) ∧ (decode cX10_determinant 229 = .ok (.iinc 9 1, 3)) ∧ (decode cX10_determinant 232 = .ok (.goto (-74), 3)) ∧ (decode cX10_determinant 235 = .ok (.iinc 8 1, 3)) := by decide +kernel
theorem dX10_determinant_212 : decode cX10_determinant 212 = .ok (.aload_n 0, 1) := bdX10_determinant_212.1
theorem dX10_determinant_213 : decode cX10_determinant 213 = .ok (.getfield 47, 3) := bdX10_determinant_212.2.1
theorem dX10_determinant_216 : decode cX10_determinant 216 = .ok (.iconst 4, 1) := bdX10_determinant_212.2.2.1
theorem dX10_determinant_217 : decode cX10_determinant 217 = .ok (.iload 6, 2) := bdX10_determinant_212.2.2.2.1
theorem dX10_determinant_219 : decode cX10_determinant 219 = .ok (.imul, 1) := bdX10_determinant_212.2.2.2.2.1
theorem dX10_determinant_220 : decode cX10_determinant 220 = .ok (.iload 9, 2) := bdX10_determinant_212.2.2.2.2.2.1
theorem dX10_determinant_222 : decode cX10_determinant 222 = .ok (.iadd, 1) := bdX10_determinant_212.2.2.2.2.2.2.1
theorem dX10_determinant_223 : decode cX10_determinant 223 = .ok (.laload, 1) := bdX10_determinant_212.2.2.2.2.2.2.2.1
theorem dX10_determinant_224 : decode cX10_determinant 224 = .ok (.lmul, 1) := bdX10_determinant_212.2.2.2.2.2.2.2.2.1
theorem dX10_determinant_225 : decode cX10_determinant 225 = .ok (.lsub, 1) := bdX10_determinant_212.2.2.2.2.2.2.2.2.2.1
theorem dX10_determinant_226 : decode cX10_determinant 226 = .ok (.lload_n 2, 1) := bdX10_determinant_212.2.2.2.2.2.2.2.2.2.2.1
theorem dX10_determinant_227 : decode cX10_determinant 227 = .ok (.ldiv, 1) := bdX10_determinant_212.2.2.2.2.2.2.2.2.2.2.2.1
theorem dX10_determinant_228 : decode cX10_determinant 228 = .ok (.lastore, 1) := bdX10_determinant_212.2.2.2.2.2.2.2.2.2.2.2.2.1
theorem dX10_determinant_229 : decode cX10_determinant 229 = .ok (.iinc 9 1, 3) := bdX10_determinant_212.2.2.2.2.2.2.2.2.2.2.2.2.2.1
theorem dX10_determinant_232 : decode cX10_determinant 232 = .ok (.goto (-74), 3) := bdX10_determinant_212.2.2.2.2.2.2.2.2.2.2.2.2.2.2.1
theorem dX10_determinant_235 : decode cX10_determinant 235 = .ok (.iinc 8 1, 3) := bdX10_determinant_212.2.2.2.2.2.2.2.2.2.2.2.2.2.2.2
theorem bdX10_determinant_238 : (decode cX10_determinant 238 = .ok (.goto (-92), 3)) ∧ (decode cX10_determinant 241 = .ok (.aload_n 0, 1)) ∧ (decode cX10_determinant 242 = .ok (.getfield 47, 3)) ∧ (decode cX10_determinant 245 = .ok (.iconst 4, 1)) ∧ (decode cX10_determinant 246 = .ok (.iload 6, 2)) ∧ (decode cX10_determinant 248 = .ok (.imul, 1)) ∧ (decode cX10_determinant 249 = .ok (.iload 6, 2)) ∧ (decode cX10_determinant 251 = .ok (.iadd, 1)) ∧ (decode cX10_determinant 252 = .ok (.laload, 1)) ∧ (decode cX10_determinant 253 = .ok (.lstore_n 2, 1)) ∧ (decode cX10_determinant 254 = .ok (.iinc 6 1, 3)) ∧ (decode cX10_determinant 257 = .ok (.goto (-249), 3)) ∧ (decode cX10_determinant 260 = .ok (.lload 4, 2)) ∧ (decode cX10_determinant 262 = .ok (.lload_n 2, 1)) ∧ (decode cX10_determinant 263 = .ok (.lmul, 1)) ∧ (decode cX10_determinant 264 = .ok (.lreturn, 1)) := by decide +kernel
theorem dX10_determinant_238 : decode cX10_determinant 238 = .ok (.goto (-92), 3) := bdX10_determinant_238.1
theorem dX10_determinant_241 : decode cX10_determinant 241 = .ok (.aload_n 0, 1) := bdX10_determinant_238.2.1
theorem dX10_determinant_242 : decode cX10_determinant 242 = .ok (.getfield 47, 3) := bdX10_determinant_238.2.2.1
theorem dX10_determinant_245 : decode cX10_determinant 245 = .ok (.iconst 4, 1) := bdX10_determinant_238.2.2.2.1
theorem dX10_determinant_246 : decode cX10_determinant 246 = .ok (.iload 6, 2) := bdX10_determinant_238.2.2.2.2.1
theorem dX10_determinant_248 : decode cX10_determinant 248 = .ok (.imul, 1) := bdX10_determinant_238.2.2.2.2.2.1
theorem dX10_determinant_249 : decode cX10_determinant 249 = .ok (.iload 6, 2) := bdX10_determinant_238.2.2.2.2.2.2.1
theorem dX10_determinant_251 : decode cX10_determinant 251 = .ok (.iadd, 1) := bdX10_determinant_238.2.2.2.2.2.2.2.1
theorem dX10_determinant_252 : decode cX10_determinant 252 = .ok (.laload, 1) := bdX10_determinant_238.2.2.2.2.2.2.2.2.1
theorem dX10_determinant_253 : decode cX10_determinant 253 = .ok (.lstore_n 2, 1) := bdX10_determinant_238.2.2.2.2.2.2.2.2.2.1
theorem dX10_determinant_254 : decode cX10_determinant 254 = .ok (.iinc 6 1, 3) := bdX10_determinant_238.2.2.2.2.2.2.2.2.2.2.1
theorem dX10_determinant_257 : decode cX10_determinant 257 = .ok (.goto (-249), 3) := bdX10_determinant_238.2.2.2.2.2.2.2.2.2.2.2.1
theorem dX10_determinant_260 : decode cX10_determinant 260 = .ok (.lload 4, 2) := bdX10_determinant_238.2.2.2.2.2.2.2.2.2.2.2.2.1
theorem dX10_determinant_262 : decode cX10_determinant 262 = .ok (.lload_n 2, 1) := bdX10_determinant_238.2.2.2.2.2.2.2.2.2.2.2.2.2.1
theorem dX10_determinant_263 : decode cX10_determinant 263 = .ok (.lmul, 1) := bdX10_determinant_238.2.2.2.2.2.2.2.2.2.2.2.2.2.2.1
theorem dX10_determinant_264 : decode cX10_determinant 264 = .ok (.lreturn, 1) := bdX10_determinant_238.2.2.2.2.2.2.2.2.2.2.2.2.2.2.2
set_option maxHeartbeats 4000000 in
set_option maxRecDepth 100000 in
theorem k_X10_determinant (l : Launch) (dC : Nat → ClassId) (dI : Nat → Nat → Nat) (h : Nat → Nat) (cs : Nat → ClassId) (sz : Nat) (I : Nat → Int32) (L : Nat → Int64) (A : Nat → Nat → Int32) (Q : Nat → Nat → Int64) (n : Nat) (mm : Nat → Nat → Int64) (hn4 : n ≤ 4) (hsq : Sq n (Q 19) mm) : Met l yX10_determinant wsX10_determinant ({ frames := 0, cells := 0, slots := 0, locals := 0 }) (va_Pc [.ref (h 0), .int (nI n)] (xPre (dC, dI) (rW h cs I L A Q) (tysA cs) sz)) (va_Ql (fun (r : Int64) (u : RS) => ∃ q19 : Nat → Int64, (r = detM n mm) ∧ u = (I, L, A, (va_up Q 19 q19))) (xB (dC, dI) (tysA cs) (va_A (rW h cs I L A Q) sz) (fun u : RS => rW h cs u.1 u.2.1 u.2.2.1 u.2.2.2)) (va_A (rW h cs I L A Q) sz)) 0 0 (va_A (rW h cs I L A Q) sz) := by
  refine Met.ofW (cc := cX10_determinant) (maxL := 11) (ret := (some .long)) (by decide) rfl ?_
  intro p e s m args below meth c s₁ B hml hv
  obtain ⟨rfl, hsz, hP, hK, hD0, hN⟩ := hv
  have hx := B.exec
  have hb := B.bytes
  have hr := B.returns
  have hts := atoms_spec (ws := wsX10_determinant) B.pre
  have hown : s.vm.findClass RX10 = some m.cls := findClass_of_methodNamed B.named
  have hlocks := B.notSynchronized
  subst hsz
  have hD := hD0.self (sz := s.heap.size)
  generalize hAe : va_A (rW h cs I L A Q) s.heap.size = A0 at hD ⊢
  have hA : ∀ q : Nat, s.heap.size ≤ q → A0 q := fun q h => by rw [← hAe]; exact Or.inr h
  have hl := lv_entry ([.ref (h 0), .int (nI n)]) (n := 11) (Nat.le_of_ble_eq_true rfl)
  rw [lg_entry_eq]
  generalize (lg_sl ([.ref (h 0), .int (nI n)]) ++ List.replicate (11 - (lg_sl ([.ref (h 0), .int (nI n)])).length) Slot.unset).toArray = ls at hl ⊢
  have hl : lv_has ls 11 [(0, .ref (h 0)), (1, .int (nI n))] := hl
  generalize hH : s.heap = H at hP ⊢
  have hS : va_S A0 s.heap H [] := by rw [← hH]; exact va_S.rf
  have hinX10 : ∀ w ∈ wsX100, w ∈ wsX10_determinant := by decide +kernel
  refine lv_lconst (v := 1) hx hb dX10_determinant_0 rfl ?_
  refine lv_lstore_n (lv' := [(2, .long (1 : Int64)), (0, .ref (h 0)), (1, .int (nI n))]) hx hb dX10_determinant_1 rfl hl (by decide) rfl (fun ls hl => ?_)
  refine lv_lconst (v := 1) hx hb dX10_determinant_2 rfl ?_
  refine lv_lstore (lv' := [(4, .long (1 : Int64)), (2, .long (1 : Int64)), (0, .ref (h 0)), (1, .int (nI n))]) hx hb dX10_determinant_3 hl (by decide) rfl (fun ls hl => ?_)
  refine lv_iconst (v := nI 0) hx hb dX10_determinant_5 (by decide) ?_
  refine lv_istore (lv' := [(6, .int (nI 0)), (4, .long (1 : Int64)), (2, .long (1 : Int64)), (0, .ref (h 0)), (1, .int (nI n))]) hx hb dX10_determinant_6 hl (by decide) rfl (fun ls hl => ?_)
  have cut_8 : ∀ (nf : Nat) (k : Nat) (b2 : Int64) (s4 : Int64) (sq : Nat → Int64) (m7 : Nat → Nat → Int64), (n - k) < nf → (k ≤ n) → (¬ b2 = 0) → (Sq n sq m7) → (detG n (n - k) k m7 b2 s4 = detM n mm) → ∀ (H : Heap) (locs : List Loc) (ls : Array Slot), va_P (dC, dI) vwCl (rW h cs I L A (va_up Q 19 sq)) H → va_D A0 (rW h cs I L A (va_up Q 19 sq)) → va_S A0 s.heap H locs → lv_has ls 11 [(0, .ref (h 0)), (1, .int (nI n)), (2, .long b2), (4, .long s4), (6, .int (nI k))] → W p l e (headSpec wsX10_determinant ({ frames := 0, cells := 0, slots := 0, locals := 0 })).room s m ([.ref (h 0), .int (nI n)] : List Value).toArray below meth c H locs 0 0 (MQ below (va_Ql (fun (r : Int64) (u : RS) => ∃ q19 : Nat → Int64, (r = detM n mm) ∧ u = (I, L, A, (va_up Q 19 q19))) (xB (dC, dI) (tysA cs) A0 (fun u : RS => rW h cs u.1 u.2.1 u.2.2.1 u.2.2.2)) A0) ([.ref (h 0), .int (nI n)] : List Value).toArray s 0 0 A0) (F0 m 8 ls []) := by
    intro nf
    induction nf with
    | zero => intro k b2 s4 sq m7 hm; exact absurd hm (Nat.not_lt_zero _)
    | succ nf ih_8 =>
      intro k b2 s4 sq m7 hm_8 hk_8 hb_8 hsq_8 hdet_8 H locs ls hP hD hS hl
      refine lv_iload hx hb dX10_determinant_8 (lv_at hl 4 rfl) ?_
      refine lv_iload_n hx hb dX10_determinant_10 rfl (lv_at hl 1 rfl) ?_
      refine xn_ge (tgt := 260) hx hb dX10_determinant_11 (by decide) (by omega) (by omega) (fun c_11_0 => ?_) (fun c_11_0 => ?_)
      · skip
        refine lv_lload hx hb dX10_determinant_260 (lv_at hl 3 rfl) ?_
        refine lv_lload_n hx hb dX10_determinant_262 rfl (lv_at hl 2 rfl) ?_
        refine lv_lmul hx hb dX10_determinant_263 ?_
        exact xr_l (v := (s4 * b2)) hx hb hr hlocks hK hS dX10_determinant_264 (I, L, A, (va_up Q 19 sq)) ⟨sq, (by rw [← hdet_8, show n - k = 0 by omega]; rfl), rfl⟩ hP hD
      · skip
        refine lv_iload hx hb dX10_determinant_14 (lv_at hl 4 rfl) ?_
        refine lv_istore (lv' := [(7, .int (nI k)), (0, .ref (h 0)), (1, .int (nI n)), (2, .long b2), (4, .long s4), (6, .int (nI k))]) hx hb dX10_determinant_16 hl (by decide) rfl (fun ls hl => ?_)
        have cut_18 : ∀ (nf : Nat) (r7 : Nat), (n - r7) < nf → (r7 ≤ n) → (k ≤ r7) → (pivG m7 n k (n - r7) r7 = pivG m7 n k (n - k) k) → ∀ (H : Heap) (locs : List Loc) (ls : Array Slot), va_P (dC, dI) vwCl (rW h cs I L A (va_up Q 19 sq)) H → va_D A0 (rW h cs I L A (va_up Q 19 sq)) → va_S A0 s.heap H locs → lv_has ls 11 [(0, .ref (h 0)), (1, .int (nI n)), (2, .long b2), (4, .long s4), (6, .int (nI k)), (7, .int (nI r7))] → W p l e (headSpec wsX10_determinant ({ frames := 0, cells := 0, slots := 0, locals := 0 })).room s m ([.ref (h 0), .int (nI n)] : List Value).toArray below meth c H locs 0 0 (MQ below (va_Ql (fun (r : Int64) (u : RS) => ∃ q19 : Nat → Int64, (r = detM n mm) ∧ u = (I, L, A, (va_up Q 19 q19))) (xB (dC, dI) (tysA cs) A0 (fun u : RS => rW h cs u.1 u.2.1 u.2.2.1 u.2.2.2)) A0) ([.ref (h 0), .int (nI n)] : List Value).toArray s 0 0 A0) (F0 m 18 ls []) := by
          intro nf
          induction nf with
          | zero => intro r7 hm; exact absurd hm (Nat.not_lt_zero _)
          | succ nf ih_18 =>
            intro r7 hm_18 hr_18 hkr_18 hp_18 H locs ls hP hD hS hl
            refine lv_iload hx hb dX10_determinant_18 (lv_at hl 5 rfl) ?_
            refine lv_iload_n hx hb dX10_determinant_20 rfl (lv_at hl 1 rfl) ?_
            refine xn_ge (tgt := 47) hx hb dX10_determinant_21 (by decide) (by omega) (by omega) (fun c_21_1 => ?_) (fun c_21_1 => ?_)
            · skip
              refine lv_iload hx hb dX10_determinant_47 (lv_at hl 5 rfl) ?_
              refine lv_iload_n hx hb dX10_determinant_49 rfl (lv_at hl 1 rfl) ?_
              refine xn_neF (tgt := 55) hx hb dX10_determinant_50 (by decide) (by omega) (by omega) (by omega) ?_
              refine lv_lconst (v := 0) hx hb dX10_determinant_53 rfl ?_
              exact xr_l (v := (0 : Int64)) hx hb hr hlocks hK hS dX10_determinant_54 (I, L, A, (va_up Q 19 sq)) ⟨sq, (by rw [← hdet_8]; exact (det_zero (by omega) (hp_18.symm.trans (by rw [show r7 = n by omega]; exact piv_n))).symm), rfl⟩ hP hD
            · skip
              refine lv_aload_n hx hb dX10_determinant_24 rfl (lv_at hl 0 rfl) ?_
              refine va_get (D := (dC, dI)) (ci := 10) (v := .ref (h 19)) (C := RX10) (T := TX10) (N := 28) hx hb hts hinX10 hown hK hP 0 rfl rfl 19 (by decide) (hts (.fieldLink RX10 47 "MixedWordsModel" "square" "[J") (by decide +kernel)) (fun _ h9 => h9) rfl dX10_determinant_25 ?_
              refine lv_iconst (v := nI 4) hx hb dX10_determinant_28 (by decide) ?_
              refine lv_iload hx hb dX10_determinant_29 (lv_at hl 5 rfl) ?_
              refine lv_imul hx hb dX10_determinant_31 ?_
              refine xt_i (y := nI (4 * r7)) (pk_mul _ _) ?_
              refine lv_iload hx hb dX10_determinant_32 (lv_at hl 4 rfl) ?_
              refine lv_iadd hx hb dX10_determinant_34 ?_
              refine xt_i (y := nI ((4 * r7) + k)) (nI_add _ _) ?_
              refine xa_lald hx hb hK hP 10 1 rfl rfl (by omega) (by decide) dX10_determinant_35 ?_
              refine lv_lconst (v := 0) hx hb dX10_determinant_36 rfl ?_
              refine xl_ne (tgt := 47) hx hb dX10_determinant_37 dX10_determinant_38 (by decide) (fun c_37_3 => ?_) (fun c_37_3 => ?_)
              · skip
                have hnz : ¬ m7 r7 k = 0 := fun g => c_37_3 ((hsq_8 r7 k (by omega) (by omega)).trans g)
                refine lv_iload hx hb dX10_determinant_47 (lv_at hl 5 rfl) ?_
                refine lv_iload_n hx hb dX10_determinant_49 rfl (lv_at hl 1 rfl) ?_
                refine xn_neT (tgt := 55) hx hb dX10_determinant_50 (by decide) (by omega) (by omega) (by omega) ?_
                have hpiv : pivG m7 n k (n - k) k = r7 := hp_18.symm.trans (piv_e (by omega) hnz)
                refine lv_iconst (v := nI 0) hx hb dX10_determinant_55 (by decide) ?_
                refine lv_istore (lv' := [(8, .int (nI 0)), (0, .ref (h 0)), (1, .int (nI n)), (2, .long b2), (4, .long s4), (6, .int (nI k)), (7, .int (nI r7))]) hx hb dX10_determinant_56 hl (by decide) rfl (fun ls hl => ?_)
                have cut_58 : ∀ (nf : Nat) (j8 : Nat) (sw : Nat → Int64), (n - j8) < nf → (j8 ≤ n) → (Sq n sw (swapP m7 r7 k j8)) → ∀ (H : Heap) (locs : List Loc) (ls : Array Slot), va_P (dC, dI) vwCl (rW h cs I L A (va_up Q 19 sw)) H → va_D A0 (rW h cs I L A (va_up Q 19 sw)) → va_S A0 s.heap H locs → lv_has ls 11 [(0, .ref (h 0)), (1, .int (nI n)), (2, .long b2), (4, .long s4), (6, .int (nI k)), (7, .int (nI r7)), (8, .int (nI j8))] → W p l e (headSpec wsX10_determinant ({ frames := 0, cells := 0, slots := 0, locals := 0 })).room s m ([.ref (h 0), .int (nI n)] : List Value).toArray below meth c H locs 0 0 (MQ below (va_Ql (fun (r : Int64) (u : RS) => ∃ q19 : Nat → Int64, (r = detM n mm) ∧ u = (I, L, A, (va_up Q 19 q19))) (xB (dC, dI) (tysA cs) A0 (fun u : RS => rW h cs u.1 u.2.1 u.2.2.1 u.2.2.2)) A0) ([.ref (h 0), .int (nI n)] : List Value).toArray s 0 0 A0) (F0 m 58 ls []) := by
                  intro nf
                  induction nf with
                  | zero => intro j8 sw hm; exact absurd hm (Nat.not_lt_zero _)
                  | succ nf ih_58 =>
                    intro j8 sw hm_58 hj_58 hsw_58 H locs ls hP hD hS hl
                    refine lv_iload hx hb dX10_determinant_58 (lv_at hl 6 rfl) ?_
                    refine lv_iload_n hx hb dX10_determinant_60 rfl (lv_at hl 1 rfl) ?_
                    refine xn_ge (tgt := 122) hx hb dX10_determinant_61 (by decide) (by omega) (by omega) (fun c_61_5 => ?_) (fun c_61_5 => ?_)
                    · skip
                      refine lv_iload hx hb dX10_determinant_122 (lv_at hl 5 rfl) ?_
                      refine lv_iload hx hb dX10_determinant_124 (lv_at hl 4 rfl) ?_
                      refine xn_ne (tgt := 134) hx hb dX10_determinant_126 (by decide) (by omega) (by omega) (fun c_126_6 => ?_) (fun c_126_6 => ?_)
                      · skip
                        refine lv_lconst (v := 0) hx hb dX10_determinant_134 rfl ?_
                        refine lv_lload hx hb dX10_determinant_135 (lv_at hl 3 rfl) ?_
                        refine lv_lsub hx hb dX10_determinant_137 ?_
                        refine lv_lstore (lv' := [(4, .long ((0 : Int64) - s4)), (0, .ref (h 0)), (1, .int (nI n)), (2, .long b2), (6, .int (nI k)), (7, .int (nI r7)), (8, .int (nI j8))]) hx hb dX10_determinant_138 hl (by decide) rfl (fun ls hl => ?_)
                        refine lv_iload hx hb dX10_determinant_140 (lv_at hl 4 rfl) ?_
                        refine lv_iconst (v := nI 1) hx hb dX10_determinant_142 (by decide) ?_
                        refine lv_iadd hx hb dX10_determinant_143 ?_
                        refine xt_i (y := nI (k + 1)) (nI_add _ _) ?_
                        refine lv_istore (lv' := [(8, .int (nI (k + 1))), (4, .long ((0 : Int64) - s4)), (0, .ref (h 0)), (1, .int (nI n)), (2, .long b2), (6, .int (nI k)), (7, .int (nI r7))]) hx hb dX10_determinant_144 hl (by decide) rfl (fun ls hl => ?_)
                        have cut_146 : ∀ (nf : Nat) (i8 : Nat) (e1 : Nat → Int64), (n - i8) < nf → (i8 ≤ n) → (k + 1 ≤ i8) → (Sq n e1 (elimP (swapM m7 r7 k) k b2 i8 0)) → ∀ (H : Heap) (locs : List Loc) (ls : Array Slot), va_P (dC, dI) vwCl (rW h cs I L A (va_up Q 19 e1)) H → va_D A0 (rW h cs I L A (va_up Q 19 e1)) → va_S A0 s.heap H locs → lv_has ls 11 [(0, .ref (h 0)), (1, .int (nI n)), (2, .long b2), (4, .long ((0 : Int64) - s4)), (6, .int (nI k)), (7, .int (nI r7)), (8, .int (nI i8))] → W p l e (headSpec wsX10_determinant ({ frames := 0, cells := 0, slots := 0, locals := 0 })).room s m ([.ref (h 0), .int (nI n)] : List Value).toArray below meth c H locs 0 0 (MQ below (va_Ql (fun (r : Int64) (u : RS) => ∃ q19 : Nat → Int64, (r = detM n mm) ∧ u = (I, L, A, (va_up Q 19 q19))) (xB (dC, dI) (tysA cs) A0 (fun u : RS => rW h cs u.1 u.2.1 u.2.2.1 u.2.2.2)) A0) ([.ref (h 0), .int (nI n)] : List Value).toArray s 0 0 A0) (F0 m 146 ls []) := by
                          intro nf
                          induction nf with
                          | zero => intro i8 e1 hm; exact absurd hm (Nat.not_lt_zero _)
                          | succ nf ih_146 =>
                            intro i8 e1 hm_146 hi_146 hki_146 he_146 H locs ls hP hD hS hl
                            refine lv_iload hx hb dX10_determinant_146 (lv_at hl 6 rfl) ?_
                            refine lv_iload_n hx hb dX10_determinant_148 rfl (lv_at hl 1 rfl) ?_
                            refine xn_ge (tgt := 241) hx hb dX10_determinant_149 (by decide) (by omega) (by omega) (fun c_149_7 => ?_) (fun c_149_7 => ?_)
                            · skip
                              refine lv_aload_n hx hb dX10_determinant_241 rfl (lv_at hl 0 rfl) ?_
                              refine va_get (D := (dC, dI)) (ci := 10) (v := .ref (h 19)) (C := RX10) (T := TX10) (N := 28) hx hb hts hinX10 hown hK hP 0 rfl rfl 19 (by decide) (hts (.fieldLink RX10 47 "MixedWordsModel" "square" "[J") (by decide +kernel)) (fun _ h9 => h9) rfl dX10_determinant_242 ?_
                              refine lv_iconst (v := nI 4) hx hb dX10_determinant_245 (by decide) ?_
                              refine lv_iload hx hb dX10_determinant_246 (lv_at hl 4 rfl) ?_
                              refine lv_imul hx hb dX10_determinant_248 ?_
                              refine xt_i (y := nI (4 * k)) (pk_mul _ _) ?_
                              refine lv_iload hx hb dX10_determinant_249 (lv_at hl 4 rfl) ?_
                              refine lv_iadd hx hb dX10_determinant_251 ?_
                              refine xt_i (y := nI ((4 * k) + k)) (nI_add _ _) ?_
                              refine xa_lald hx hb hK hP 10 1 rfl rfl (by omega) (by decide) dX10_determinant_252 ?_
                              refine xt_l (y := swapM m7 r7 k k k) (elim_n (by omega) he_146 k k (by omega) (by omega) |>.trans (by rw [elimM, if_neg (by omega)])) ?_
                              refine lv_lstore_n (lv' := [(2, .long (swapM m7 r7 k k k)), (0, .ref (h 0)), (1, .int (nI n)), (4, .long ((0 : Int64) - s4)), (6, .int (nI k)), (7, .int (nI r7)), (8, .int (nI i8))]) hx hb dX10_determinant_253 rfl hl (by decide) rfl (fun ls hl => ?_)
                              refine lv_iinc (v := nI (k + 1)) (lv' := [(6, .int (nI (k + 1))), (2, .long (swapM m7 r7 k k k)), (0, .ref (h 0)), (1, .int (nI n)), (4, .long ((0 : Int64) - s4)), (7, .int (nI r7)), (8, .int (nI i8))]) hx hb dX10_determinant_254 hl (k := 4) rfl (nI_1 _) (by decide) rfl (fun ls hl => ?_)
                              refine lv_goto (tgt := 8) hx hb dX10_determinant_257 (by decide) ?_
                              exact ih_8 (k + 1) (swapM m7 r7 k k k) ((0 : Int64) - s4) e1 (elimM (swapM m7 r7 k) k b2) (by omega) (by first | assumption | omega) (by first | decide | (intro g; simp [swapM] at g; exact hnz g)) (by first | exact hsq | exact elim_n (by omega) he_146) (by first | rfl | (rw [← hdet_8, det_go (by omega) hpiv (by omega)]; first | rw [if_pos (by assumption)] | rw [if_neg (by assumption)])) _ _ _ hP hD hS (lv_sub hl [2, 3, 1, 4, 0] rfl)
                            · skip
                              refine lv_iload hx hb dX10_determinant_152 (lv_at hl 4 rfl) ?_
                              refine lv_iconst (v := nI 1) hx hb dX10_determinant_154 (by decide) ?_
                              refine lv_iadd hx hb dX10_determinant_155 ?_
                              refine xt_i (y := nI (k + 1)) (nI_add _ _) ?_
                              refine lv_istore (lv' := [(9, .int (nI (k + 1))), (0, .ref (h 0)), (1, .int (nI n)), (2, .long b2), (4, .long ((0 : Int64) - s4)), (6, .int (nI k)), (7, .int (nI r7)), (8, .int (nI i8))]) hx hb dX10_determinant_156 hl (by decide) rfl (fun ls hl => ?_)
                              have cut_158 : ∀ (nf : Nat) (j9 : Nat) (e2 : Nat → Int64), (n - j9) < nf → (j9 ≤ n) → (k + 1 ≤ j9) → (Sq n e2 (elimP (swapM m7 r7 k) k b2 i8 j9)) → ∀ (H : Heap) (locs : List Loc) (ls : Array Slot), va_P (dC, dI) vwCl (rW h cs I L A (va_up Q 19 e2)) H → va_D A0 (rW h cs I L A (va_up Q 19 e2)) → va_S A0 s.heap H locs → lv_has ls 11 [(0, .ref (h 0)), (1, .int (nI n)), (2, .long b2), (4, .long ((0 : Int64) - s4)), (6, .int (nI k)), (7, .int (nI r7)), (8, .int (nI i8)), (9, .int (nI j9))] → W p l e (headSpec wsX10_determinant ({ frames := 0, cells := 0, slots := 0, locals := 0 })).room s m ([.ref (h 0), .int (nI n)] : List Value).toArray below meth c H locs 0 0 (MQ below (va_Ql (fun (r : Int64) (u : RS) => ∃ q19 : Nat → Int64, (r = detM n mm) ∧ u = (I, L, A, (va_up Q 19 q19))) (xB (dC, dI) (tysA cs) A0 (fun u : RS => rW h cs u.1 u.2.1 u.2.2.1 u.2.2.2)) A0) ([.ref (h 0), .int (nI n)] : List Value).toArray s 0 0 A0) (F0 m 158 ls []) := by
                                intro nf
                                induction nf with
                                | zero => intro j9 e2 hm; exact absurd hm (Nat.not_lt_zero _)
                                | succ nf ih_158 =>
                                  intro j9 e2 hm_158 hj_158 hkj_158 he_158 H locs ls hP hD hS hl
                                  refine lv_iload hx hb dX10_determinant_158 (lv_at hl 7 rfl) ?_
                                  refine lv_iload_n hx hb dX10_determinant_160 rfl (lv_at hl 1 rfl) ?_
                                  refine xn_ge (tgt := 235) hx hb dX10_determinant_161 (by decide) (by omega) (by omega) (fun c_161_8 => ?_) (fun c_161_8 => ?_)
                                  · skip
                                    refine lv_iinc (v := nI (i8 + 1)) (lv' := [(8, .int (nI (i8 + 1))), (0, .ref (h 0)), (1, .int (nI n)), (2, .long b2), (4, .long ((0 : Int64) - s4)), (6, .int (nI k)), (7, .int (nI r7)), (9, .int (nI j9))]) hx hb dX10_determinant_235 hl (k := 6) rfl (nI_1 _) (by decide) rfl (fun ls hl => ?_)
                                    refine lv_goto (tgt := 146) hx hb dX10_determinant_238 (by decide) ?_
                                    exact ih_146 (i8 + 1) e2 (by omega) (by first | assumption | omega) (by first | assumption | omega) (by first | exact elim_0 (by omega) (swap_n (by omega) hsw_58) | exact elim_r (by omega) he_158) _ _ _ hP hD hS (lv_sub hl [1, 2, 3, 4, 5, 6, 0] rfl)
                                  · skip
                                    refine lv_aload_n hx hb dX10_determinant_164 rfl (lv_at hl 0 rfl) ?_
                                    refine va_get (D := (dC, dI)) (ci := 10) (v := .ref (h 19)) (C := RX10) (T := TX10) (N := 28) hx hb hts hinX10 hown hK hP 0 rfl rfl 19 (by decide) (hts (.fieldLink RX10 47 "MixedWordsModel" "square" "[J") (by decide +kernel)) (fun _ h9 => h9) rfl dX10_determinant_165 ?_
                                    refine lv_iconst (v := nI 4) hx hb dX10_determinant_168 (by decide) ?_
                                    refine lv_iload hx hb dX10_determinant_169 (lv_at hl 6 rfl) ?_
                                    refine lv_imul hx hb dX10_determinant_171 ?_
                                    refine xt_i (y := nI (4 * i8)) (pk_mul _ _) ?_
                                    refine lv_iload hx hb dX10_determinant_172 (lv_at hl 7 rfl) ?_
                                    refine lv_iadd hx hb dX10_determinant_174 ?_
                                    refine xt_i (y := nI ((4 * i8) + j9)) (nI_add _ _) ?_
                                    refine lv_aload_n hx hb dX10_determinant_175 rfl (lv_at hl 0 rfl) ?_
                                    refine va_get (D := (dC, dI)) (ci := 10) (v := .ref (h 19)) (C := RX10) (T := TX10) (N := 28) hx hb hts hinX10 hown hK hP 0 rfl rfl 19 (by decide) (hts (.fieldLink RX10 47 "MixedWordsModel" "square" "[J") (by decide +kernel)) (fun _ h9 => h9) rfl dX10_determinant_176 ?_
                                    refine lv_iconst (v := nI 4) hx hb dX10_determinant_179 (by decide) ?_
                                    refine lv_iload hx hb dX10_determinant_180 (lv_at hl 6 rfl) ?_
                                    refine lv_imul hx hb dX10_determinant_182 ?_
                                    refine xt_i (y := nI (4 * i8)) (pk_mul _ _) ?_
                                    refine lv_iload hx hb dX10_determinant_183 (lv_at hl 7 rfl) ?_
                                    refine lv_iadd hx hb dX10_determinant_185 ?_
                                    refine xt_i (y := nI ((4 * i8) + j9)) (nI_add _ _) ?_
                                    refine xa_lald hx hb hK hP 10 1 rfl rfl (by omega) (by decide) dX10_determinant_186 ?_
                                    refine lv_aload_n hx hb dX10_determinant_187 rfl (lv_at hl 0 rfl) ?_
                                    refine va_get (D := (dC, dI)) (ci := 10) (v := .ref (h 19)) (C := RX10) (T := TX10) (N := 28) hx hb hts hinX10 hown hK hP 0 rfl rfl 19 (by decide) (hts (.fieldLink RX10 47 "MixedWordsModel" "square" "[J") (by decide +kernel)) (fun _ h9 => h9) rfl dX10_determinant_188 ?_
                                    refine lv_iconst (v := nI 4) hx hb dX10_determinant_191 (by decide) ?_
                                    refine lv_iload hx hb dX10_determinant_192 (lv_at hl 4 rfl) ?_
                                    refine lv_imul hx hb dX10_determinant_194 ?_
                                    refine xt_i (y := nI (4 * k)) (pk_mul _ _) ?_
                                    refine lv_iload hx hb dX10_determinant_195 (lv_at hl 4 rfl) ?_
                                    refine lv_iadd hx hb dX10_determinant_197 ?_
                                    refine xt_i (y := nI ((4 * k) + k)) (nI_add _ _) ?_
                                    refine xa_lald hx hb hK hP 10 1 rfl rfl (by omega) (by decide) dX10_determinant_198 ?_
                                    refine lv_lmul hx hb dX10_determinant_199 ?_
                                    refine lv_aload_n hx hb dX10_determinant_200 rfl (lv_at hl 0 rfl) ?_
                                    refine va_get (D := (dC, dI)) (ci := 10) (v := .ref (h 19)) (C := RX10) (T := TX10) (N := 28) hx hb hts hinX10 hown hK hP 0 rfl rfl 19 (by decide) (hts (.fieldLink RX10 47 "MixedWordsModel" "square" "[J") (by decide +kernel)) (fun _ h9 => h9) rfl dX10_determinant_201 ?_
                                    refine lv_iconst (v := nI 4) hx hb dX10_determinant_204 (by decide) ?_
                                    refine lv_iload hx hb dX10_determinant_205 (lv_at hl 6 rfl) ?_
                                    refine lv_imul hx hb dX10_determinant_207 ?_
                                    refine xt_i (y := nI (4 * i8)) (pk_mul _ _) ?_
                                    refine lv_iload hx hb dX10_determinant_208 (lv_at hl 4 rfl) ?_
                                    refine lv_iadd hx hb dX10_determinant_210 ?_
                                    refine xt_i (y := nI ((4 * i8) + k)) (nI_add _ _) ?_
                                    refine xa_lald hx hb hK hP 10 1 rfl rfl (by omega) (by decide) dX10_determinant_211 ?_
                                    refine lv_aload_n hx hb dX10_determinant_212 rfl (lv_at hl 0 rfl) ?_
                                    refine va_get (D := (dC, dI)) (ci := 10) (v := .ref (h 19)) (C := RX10) (T := TX10) (N := 28) hx hb hts hinX10 hown hK hP 0 rfl rfl 19 (by decide) (hts (.fieldLink RX10 47 "MixedWordsModel" "square" "[J") (by decide +kernel)) (fun _ h9 => h9) rfl dX10_determinant_213 ?_
                                    refine lv_iconst (v := nI 4) hx hb dX10_determinant_216 (by decide) ?_
                                    refine lv_iload hx hb dX10_determinant_217 (lv_at hl 4 rfl) ?_
                                    refine lv_imul hx hb dX10_determinant_219 ?_
                                    refine xt_i (y := nI (4 * k)) (pk_mul _ _) ?_
                                    refine lv_iload hx hb dX10_determinant_220 (lv_at hl 7 rfl) ?_
                                    refine lv_iadd hx hb dX10_determinant_222 ?_
                                    refine xt_i (y := nI ((4 * k) + j9)) (nI_add _ _) ?_
                                    refine xa_lald hx hb hK hP 10 1 rfl rfl (by omega) (by decide) dX10_determinant_223 ?_
                                    refine lv_lmul hx hb dX10_determinant_224 ?_
                                    refine lv_lsub hx hb dX10_determinant_225 ?_
                                    refine lv_lload_n hx hb dX10_determinant_226 rfl (lv_at hl 2 rfl) ?_
                                    refine lv_ldiv hx hb dX10_determinant_227 (hb_8) ?_
                                    refine xa_last hx hb hK hP hD hS 10 1 rfl rfl (by omega) (by decide) dX10_determinant_228 (fun H locs hP hD hS => ?_)
                                    have hP : va_P (dC, dI) vwCl (rW h cs I L A (va_up Q 19 (vp_updL e2 ((4 * i8) + j9) ((((e2 ((4 * i8) + j9)) * (e2 ((4 * k) + k))) - ((e2 ((4 * i8) + k)) * (e2 ((4 * k) + j9)))) / b2)))) H := hP
                                    have hD : va_D A0 (rW h cs I L A (va_up Q 19 (vp_updL e2 ((4 * i8) + j9) ((((e2 ((4 * i8) + j9)) * (e2 ((4 * k) + k))) - ((e2 ((4 * i8) + k)) * (e2 ((4 * k) + j9)))) / b2)))) := hD
                                    refine lv_iinc (v := nI (j9 + 1)) (lv' := [(9, .int (nI (j9 + 1))), (0, .ref (h 0)), (1, .int (nI n)), (2, .long b2), (4, .long ((0 : Int64) - s4)), (6, .int (nI k)), (7, .int (nI r7)), (8, .int (nI i8))]) hx hb dX10_determinant_229 hl (k := 7) rfl (nI_1 _) (by decide) rfl (fun ls hl => ?_)
                                    refine lv_goto (tgt := 158) hx hb dX10_determinant_232 (by decide) ?_
                                    exact ih_158 (j9 + 1) (vp_updL e2 ((4 * i8) + j9) ((((e2 ((4 * i8) + j9)) * (e2 ((4 * k) + k))) - ((e2 ((4 * i8) + k)) * (e2 ((4 * k) + j9)))) / b2)) (by omega) (by first | assumption | omega) (by first | assumption | omega) (by first | exact elim_c he_146 | exact elim_s hn4 (by omega) (by omega) (by omega) (by omega) (by omega) he_158) _ _ _ hP hD hS (lv_sub hl [1, 2, 3, 4, 5, 6, 7, 0] rfl)
                              exact cut_158 _ (k + 1) e1 (Nat.lt_succ_self _) (by first | assumption | omega) (by first | assumption | omega) (by first | exact elim_c he_146 | exact elim_s hn4 (by omega) (by omega) (by omega) (by omega) (by omega) he_158) _ _ _ hP hD hS (lv_sub hl [1, 2, 3, 4, 5, 6, 7, 0] rfl)
                        exact cut_146 _ (k + 1) sw (Nat.lt_succ_self _) (by first | assumption | omega) (by first | assumption | omega) (by first | exact elim_0 (by omega) (swap_n (by omega) hsw_58) | exact elim_r (by omega) he_158) _ _ _ hP hD hS (lv_sub hl [2, 3, 4, 1, 5, 6, 0] rfl)
                      · skip
                        refine lv_lload hx hb dX10_determinant_129 (lv_at hl 3 rfl) ?_
                        refine lv_goto (tgt := 138) hx hb dX10_determinant_131 (by decide) ?_
                        refine lv_lstore (lv' := [(4, .long s4), (0, .ref (h 0)), (1, .int (nI n)), (2, .long b2), (6, .int (nI k)), (7, .int (nI r7)), (8, .int (nI j8))]) hx hb dX10_determinant_138 hl (by decide) rfl (fun ls hl => ?_)
                        refine lv_iload hx hb dX10_determinant_140 (lv_at hl 4 rfl) ?_
                        refine lv_iconst (v := nI 1) hx hb dX10_determinant_142 (by decide) ?_
                        refine lv_iadd hx hb dX10_determinant_143 ?_
                        refine xt_i (y := nI (k + 1)) (nI_add _ _) ?_
                        refine lv_istore (lv' := [(8, .int (nI (k + 1))), (4, .long s4), (0, .ref (h 0)), (1, .int (nI n)), (2, .long b2), (6, .int (nI k)), (7, .int (nI r7))]) hx hb dX10_determinant_144 hl (by decide) rfl (fun ls hl => ?_)
                        have cut_146 : ∀ (nf : Nat) (i8 : Nat) (e1 : Nat → Int64), (n - i8) < nf → (i8 ≤ n) → (k + 1 ≤ i8) → (Sq n e1 (elimP (swapM m7 r7 k) k b2 i8 0)) → ∀ (H : Heap) (locs : List Loc) (ls : Array Slot), va_P (dC, dI) vwCl (rW h cs I L A (va_up Q 19 e1)) H → va_D A0 (rW h cs I L A (va_up Q 19 e1)) → va_S A0 s.heap H locs → lv_has ls 11 [(0, .ref (h 0)), (1, .int (nI n)), (2, .long b2), (4, .long s4), (6, .int (nI k)), (7, .int (nI r7)), (8, .int (nI i8))] → W p l e (headSpec wsX10_determinant ({ frames := 0, cells := 0, slots := 0, locals := 0 })).room s m ([.ref (h 0), .int (nI n)] : List Value).toArray below meth c H locs 0 0 (MQ below (va_Ql (fun (r : Int64) (u : RS) => ∃ q19 : Nat → Int64, (r = detM n mm) ∧ u = (I, L, A, (va_up Q 19 q19))) (xB (dC, dI) (tysA cs) A0 (fun u : RS => rW h cs u.1 u.2.1 u.2.2.1 u.2.2.2)) A0) ([.ref (h 0), .int (nI n)] : List Value).toArray s 0 0 A0) (F0 m 146 ls []) := by
                          intro nf
                          induction nf with
                          | zero => intro i8 e1 hm; exact absurd hm (Nat.not_lt_zero _)
                          | succ nf ih_146 =>
                            intro i8 e1 hm_146 hi_146 hki_146 he_146 H locs ls hP hD hS hl
                            refine lv_iload hx hb dX10_determinant_146 (lv_at hl 6 rfl) ?_
                            refine lv_iload_n hx hb dX10_determinant_148 rfl (lv_at hl 1 rfl) ?_
                            refine xn_ge (tgt := 241) hx hb dX10_determinant_149 (by decide) (by omega) (by omega) (fun c_149_9 => ?_) (fun c_149_9 => ?_)
                            · skip
                              refine lv_aload_n hx hb dX10_determinant_241 rfl (lv_at hl 0 rfl) ?_
                              refine va_get (D := (dC, dI)) (ci := 10) (v := .ref (h 19)) (C := RX10) (T := TX10) (N := 28) hx hb hts hinX10 hown hK hP 0 rfl rfl 19 (by decide) (hts (.fieldLink RX10 47 "MixedWordsModel" "square" "[J") (by decide +kernel)) (fun _ h9 => h9) rfl dX10_determinant_242 ?_
                              refine lv_iconst (v := nI 4) hx hb dX10_determinant_245 (by decide) ?_
                              refine lv_iload hx hb dX10_determinant_246 (lv_at hl 4 rfl) ?_
                              refine lv_imul hx hb dX10_determinant_248 ?_
                              refine xt_i (y := nI (4 * k)) (pk_mul _ _) ?_
                              refine lv_iload hx hb dX10_determinant_249 (lv_at hl 4 rfl) ?_
                              refine lv_iadd hx hb dX10_determinant_251 ?_
                              refine xt_i (y := nI ((4 * k) + k)) (nI_add _ _) ?_
                              refine xa_lald hx hb hK hP 10 1 rfl rfl (by omega) (by decide) dX10_determinant_252 ?_
                              refine xt_l (y := swapM m7 r7 k k k) (elim_n (by omega) he_146 k k (by omega) (by omega) |>.trans (by rw [elimM, if_neg (by omega)])) ?_
                              refine lv_lstore_n (lv' := [(2, .long (swapM m7 r7 k k k)), (0, .ref (h 0)), (1, .int (nI n)), (4, .long s4), (6, .int (nI k)), (7, .int (nI r7)), (8, .int (nI i8))]) hx hb dX10_determinant_253 rfl hl (by decide) rfl (fun ls hl => ?_)
                              refine lv_iinc (v := nI (k + 1)) (lv' := [(6, .int (nI (k + 1))), (2, .long (swapM m7 r7 k k k)), (0, .ref (h 0)), (1, .int (nI n)), (4, .long s4), (7, .int (nI r7)), (8, .int (nI i8))]) hx hb dX10_determinant_254 hl (k := 4) rfl (nI_1 _) (by decide) rfl (fun ls hl => ?_)
                              refine lv_goto (tgt := 8) hx hb dX10_determinant_257 (by decide) ?_
                              exact ih_8 (k + 1) (swapM m7 r7 k k k) s4 e1 (elimM (swapM m7 r7 k) k b2) (by omega) (by first | assumption | omega) (by first | decide | (intro g; simp [swapM] at g; exact hnz g)) (by first | exact hsq | exact elim_n (by omega) he_146) (by first | rfl | (rw [← hdet_8, det_go (by omega) hpiv (by omega)]; first | rw [if_pos (by assumption)] | rw [if_neg (by assumption)])) _ _ _ hP hD hS (lv_sub hl [2, 3, 1, 4, 0] rfl)
                            · skip
                              refine lv_iload hx hb dX10_determinant_152 (lv_at hl 4 rfl) ?_
                              refine lv_iconst (v := nI 1) hx hb dX10_determinant_154 (by decide) ?_
                              refine lv_iadd hx hb dX10_determinant_155 ?_
                              refine xt_i (y := nI (k + 1)) (nI_add _ _) ?_
                              refine lv_istore (lv' := [(9, .int (nI (k + 1))), (0, .ref (h 0)), (1, .int (nI n)), (2, .long b2), (4, .long s4), (6, .int (nI k)), (7, .int (nI r7)), (8, .int (nI i8))]) hx hb dX10_determinant_156 hl (by decide) rfl (fun ls hl => ?_)
                              have cut_158 : ∀ (nf : Nat) (j9 : Nat) (e2 : Nat → Int64), (n - j9) < nf → (j9 ≤ n) → (k + 1 ≤ j9) → (Sq n e2 (elimP (swapM m7 r7 k) k b2 i8 j9)) → ∀ (H : Heap) (locs : List Loc) (ls : Array Slot), va_P (dC, dI) vwCl (rW h cs I L A (va_up Q 19 e2)) H → va_D A0 (rW h cs I L A (va_up Q 19 e2)) → va_S A0 s.heap H locs → lv_has ls 11 [(0, .ref (h 0)), (1, .int (nI n)), (2, .long b2), (4, .long s4), (6, .int (nI k)), (7, .int (nI r7)), (8, .int (nI i8)), (9, .int (nI j9))] → W p l e (headSpec wsX10_determinant ({ frames := 0, cells := 0, slots := 0, locals := 0 })).room s m ([.ref (h 0), .int (nI n)] : List Value).toArray below meth c H locs 0 0 (MQ below (va_Ql (fun (r : Int64) (u : RS) => ∃ q19 : Nat → Int64, (r = detM n mm) ∧ u = (I, L, A, (va_up Q 19 q19))) (xB (dC, dI) (tysA cs) A0 (fun u : RS => rW h cs u.1 u.2.1 u.2.2.1 u.2.2.2)) A0) ([.ref (h 0), .int (nI n)] : List Value).toArray s 0 0 A0) (F0 m 158 ls []) := by
                                intro nf
                                induction nf with
                                | zero => intro j9 e2 hm; exact absurd hm (Nat.not_lt_zero _)
                                | succ nf ih_158 =>
                                  intro j9 e2 hm_158 hj_158 hkj_158 he_158 H locs ls hP hD hS hl
                                  refine lv_iload hx hb dX10_determinant_158 (lv_at hl 7 rfl) ?_
                                  refine lv_iload_n hx hb dX10_determinant_160 rfl (lv_at hl 1 rfl) ?_
                                  refine xn_ge (tgt := 235) hx hb dX10_determinant_161 (by decide) (by omega) (by omega) (fun c_161_10 => ?_) (fun c_161_10 => ?_)
                                  · skip
                                    refine lv_iinc (v := nI (i8 + 1)) (lv' := [(8, .int (nI (i8 + 1))), (0, .ref (h 0)), (1, .int (nI n)), (2, .long b2), (4, .long s4), (6, .int (nI k)), (7, .int (nI r7)), (9, .int (nI j9))]) hx hb dX10_determinant_235 hl (k := 6) rfl (nI_1 _) (by decide) rfl (fun ls hl => ?_)
                                    refine lv_goto (tgt := 146) hx hb dX10_determinant_238 (by decide) ?_
                                    exact ih_146 (i8 + 1) e2 (by omega) (by first | assumption | omega) (by first | assumption | omega) (by first | exact elim_0 (by omega) (swap_n (by omega) hsw_58) | exact elim_r (by omega) he_158) _ _ _ hP hD hS (lv_sub hl [1, 2, 3, 4, 5, 6, 0] rfl)
                                  · skip
                                    refine lv_aload_n hx hb dX10_determinant_164 rfl (lv_at hl 0 rfl) ?_
                                    refine va_get (D := (dC, dI)) (ci := 10) (v := .ref (h 19)) (C := RX10) (T := TX10) (N := 28) hx hb hts hinX10 hown hK hP 0 rfl rfl 19 (by decide) (hts (.fieldLink RX10 47 "MixedWordsModel" "square" "[J") (by decide +kernel)) (fun _ h9 => h9) rfl dX10_determinant_165 ?_
                                    refine lv_iconst (v := nI 4) hx hb dX10_determinant_168 (by decide) ?_
                                    refine lv_iload hx hb dX10_determinant_169 (lv_at hl 6 rfl) ?_
                                    refine lv_imul hx hb dX10_determinant_171 ?_
                                    refine xt_i (y := nI (4 * i8)) (pk_mul _ _) ?_
                                    refine lv_iload hx hb dX10_determinant_172 (lv_at hl 7 rfl) ?_
                                    refine lv_iadd hx hb dX10_determinant_174 ?_
                                    refine xt_i (y := nI ((4 * i8) + j9)) (nI_add _ _) ?_
                                    refine lv_aload_n hx hb dX10_determinant_175 rfl (lv_at hl 0 rfl) ?_
                                    refine va_get (D := (dC, dI)) (ci := 10) (v := .ref (h 19)) (C := RX10) (T := TX10) (N := 28) hx hb hts hinX10 hown hK hP 0 rfl rfl 19 (by decide) (hts (.fieldLink RX10 47 "MixedWordsModel" "square" "[J") (by decide +kernel)) (fun _ h9 => h9) rfl dX10_determinant_176 ?_
                                    refine lv_iconst (v := nI 4) hx hb dX10_determinant_179 (by decide) ?_
                                    refine lv_iload hx hb dX10_determinant_180 (lv_at hl 6 rfl) ?_
                                    refine lv_imul hx hb dX10_determinant_182 ?_
                                    refine xt_i (y := nI (4 * i8)) (pk_mul _ _) ?_
                                    refine lv_iload hx hb dX10_determinant_183 (lv_at hl 7 rfl) ?_
                                    refine lv_iadd hx hb dX10_determinant_185 ?_
                                    refine xt_i (y := nI ((4 * i8) + j9)) (nI_add _ _) ?_
                                    refine xa_lald hx hb hK hP 10 1 rfl rfl (by omega) (by decide) dX10_determinant_186 ?_
                                    refine lv_aload_n hx hb dX10_determinant_187 rfl (lv_at hl 0 rfl) ?_
                                    refine va_get (D := (dC, dI)) (ci := 10) (v := .ref (h 19)) (C := RX10) (T := TX10) (N := 28) hx hb hts hinX10 hown hK hP 0 rfl rfl 19 (by decide) (hts (.fieldLink RX10 47 "MixedWordsModel" "square" "[J") (by decide +kernel)) (fun _ h9 => h9) rfl dX10_determinant_188 ?_
                                    refine lv_iconst (v := nI 4) hx hb dX10_determinant_191 (by decide) ?_
                                    refine lv_iload hx hb dX10_determinant_192 (lv_at hl 4 rfl) ?_
                                    refine lv_imul hx hb dX10_determinant_194 ?_
                                    refine xt_i (y := nI (4 * k)) (pk_mul _ _) ?_
                                    refine lv_iload hx hb dX10_determinant_195 (lv_at hl 4 rfl) ?_
                                    refine lv_iadd hx hb dX10_determinant_197 ?_
                                    refine xt_i (y := nI ((4 * k) + k)) (nI_add _ _) ?_
                                    refine xa_lald hx hb hK hP 10 1 rfl rfl (by omega) (by decide) dX10_determinant_198 ?_
                                    refine lv_lmul hx hb dX10_determinant_199 ?_
                                    refine lv_aload_n hx hb dX10_determinant_200 rfl (lv_at hl 0 rfl) ?_
                                    refine va_get (D := (dC, dI)) (ci := 10) (v := .ref (h 19)) (C := RX10) (T := TX10) (N := 28) hx hb hts hinX10 hown hK hP 0 rfl rfl 19 (by decide) (hts (.fieldLink RX10 47 "MixedWordsModel" "square" "[J") (by decide +kernel)) (fun _ h9 => h9) rfl dX10_determinant_201 ?_
                                    refine lv_iconst (v := nI 4) hx hb dX10_determinant_204 (by decide) ?_
                                    refine lv_iload hx hb dX10_determinant_205 (lv_at hl 6 rfl) ?_
                                    refine lv_imul hx hb dX10_determinant_207 ?_
                                    refine xt_i (y := nI (4 * i8)) (pk_mul _ _) ?_
                                    refine lv_iload hx hb dX10_determinant_208 (lv_at hl 4 rfl) ?_
                                    refine lv_iadd hx hb dX10_determinant_210 ?_
                                    refine xt_i (y := nI ((4 * i8) + k)) (nI_add _ _) ?_
                                    refine xa_lald hx hb hK hP 10 1 rfl rfl (by omega) (by decide) dX10_determinant_211 ?_
                                    refine lv_aload_n hx hb dX10_determinant_212 rfl (lv_at hl 0 rfl) ?_
                                    refine va_get (D := (dC, dI)) (ci := 10) (v := .ref (h 19)) (C := RX10) (T := TX10) (N := 28) hx hb hts hinX10 hown hK hP 0 rfl rfl 19 (by decide) (hts (.fieldLink RX10 47 "MixedWordsModel" "square" "[J") (by decide +kernel)) (fun _ h9 => h9) rfl dX10_determinant_213 ?_
                                    refine lv_iconst (v := nI 4) hx hb dX10_determinant_216 (by decide) ?_
                                    refine lv_iload hx hb dX10_determinant_217 (lv_at hl 4 rfl) ?_
                                    refine lv_imul hx hb dX10_determinant_219 ?_
                                    refine xt_i (y := nI (4 * k)) (pk_mul _ _) ?_
                                    refine lv_iload hx hb dX10_determinant_220 (lv_at hl 7 rfl) ?_
                                    refine lv_iadd hx hb dX10_determinant_222 ?_
                                    refine xt_i (y := nI ((4 * k) + j9)) (nI_add _ _) ?_
                                    refine xa_lald hx hb hK hP 10 1 rfl rfl (by omega) (by decide) dX10_determinant_223 ?_
                                    refine lv_lmul hx hb dX10_determinant_224 ?_
                                    refine lv_lsub hx hb dX10_determinant_225 ?_
                                    refine lv_lload_n hx hb dX10_determinant_226 rfl (lv_at hl 2 rfl) ?_
                                    refine lv_ldiv hx hb dX10_determinant_227 (hb_8) ?_
                                    refine xa_last hx hb hK hP hD hS 10 1 rfl rfl (by omega) (by decide) dX10_determinant_228 (fun H locs hP hD hS => ?_)
                                    have hP : va_P (dC, dI) vwCl (rW h cs I L A (va_up Q 19 (vp_updL e2 ((4 * i8) + j9) ((((e2 ((4 * i8) + j9)) * (e2 ((4 * k) + k))) - ((e2 ((4 * i8) + k)) * (e2 ((4 * k) + j9)))) / b2)))) H := hP
                                    have hD : va_D A0 (rW h cs I L A (va_up Q 19 (vp_updL e2 ((4 * i8) + j9) ((((e2 ((4 * i8) + j9)) * (e2 ((4 * k) + k))) - ((e2 ((4 * i8) + k)) * (e2 ((4 * k) + j9)))) / b2)))) := hD
                                    refine lv_iinc (v := nI (j9 + 1)) (lv' := [(9, .int (nI (j9 + 1))), (0, .ref (h 0)), (1, .int (nI n)), (2, .long b2), (4, .long s4), (6, .int (nI k)), (7, .int (nI r7)), (8, .int (nI i8))]) hx hb dX10_determinant_229 hl (k := 7) rfl (nI_1 _) (by decide) rfl (fun ls hl => ?_)
                                    refine lv_goto (tgt := 158) hx hb dX10_determinant_232 (by decide) ?_
                                    exact ih_158 (j9 + 1) (vp_updL e2 ((4 * i8) + j9) ((((e2 ((4 * i8) + j9)) * (e2 ((4 * k) + k))) - ((e2 ((4 * i8) + k)) * (e2 ((4 * k) + j9)))) / b2)) (by omega) (by first | assumption | omega) (by first | assumption | omega) (by first | exact elim_c he_146 | exact elim_s hn4 (by omega) (by omega) (by omega) (by omega) (by omega) he_158) _ _ _ hP hD hS (lv_sub hl [1, 2, 3, 4, 5, 6, 7, 0] rfl)
                              exact cut_158 _ (k + 1) e1 (Nat.lt_succ_self _) (by first | assumption | omega) (by first | assumption | omega) (by first | exact elim_c he_146 | exact elim_s hn4 (by omega) (by omega) (by omega) (by omega) (by omega) he_158) _ _ _ hP hD hS (lv_sub hl [1, 2, 3, 4, 5, 6, 7, 0] rfl)
                        exact cut_146 _ (k + 1) sw (Nat.lt_succ_self _) (by first | assumption | omega) (by first | assumption | omega) (by first | exact elim_0 (by omega) (swap_n (by omega) hsw_58) | exact elim_r (by omega) he_158) _ _ _ hP hD hS (lv_sub hl [2, 3, 4, 1, 5, 6, 0] rfl)
                    · skip
                      refine lv_aload_n hx hb dX10_determinant_64 rfl (lv_at hl 0 rfl) ?_
                      refine va_get (D := (dC, dI)) (ci := 10) (v := .ref (h 19)) (C := RX10) (T := TX10) (N := 28) hx hb hts hinX10 hown hK hP 0 rfl rfl 19 (by decide) (hts (.fieldLink RX10 47 "MixedWordsModel" "square" "[J") (by decide +kernel)) (fun _ h9 => h9) rfl dX10_determinant_65 ?_
                      refine lv_iconst (v := nI 4) hx hb dX10_determinant_68 (by decide) ?_
                      refine lv_iload hx hb dX10_determinant_69 (lv_at hl 5 rfl) ?_
                      refine lv_imul hx hb dX10_determinant_71 ?_
                      refine xt_i (y := nI (4 * r7)) (pk_mul _ _) ?_
                      refine lv_iload hx hb dX10_determinant_72 (lv_at hl 6 rfl) ?_
                      refine lv_iadd hx hb dX10_determinant_74 ?_
                      refine xt_i (y := nI ((4 * r7) + j8)) (nI_add _ _) ?_
                      refine xa_lald hx hb hK hP 10 1 rfl rfl (by omega) (by decide) dX10_determinant_75 ?_
                      refine lv_lstore (lv' := [(9, .long (sw ((4 * r7) + j8))), (0, .ref (h 0)), (1, .int (nI n)), (2, .long b2), (4, .long s4), (6, .int (nI k)), (7, .int (nI r7)), (8, .int (nI j8))]) hx hb dX10_determinant_76 hl (by decide) rfl (fun ls hl => ?_)
                      refine lv_aload_n hx hb dX10_determinant_78 rfl (lv_at hl 1 rfl) ?_
                      refine va_get (D := (dC, dI)) (ci := 10) (v := .ref (h 19)) (C := RX10) (T := TX10) (N := 28) hx hb hts hinX10 hown hK hP 0 rfl rfl 19 (by decide) (hts (.fieldLink RX10 47 "MixedWordsModel" "square" "[J") (by decide +kernel)) (fun _ h9 => h9) rfl dX10_determinant_79 ?_
                      refine lv_iconst (v := nI 4) hx hb dX10_determinant_82 (by decide) ?_
                      refine lv_iload hx hb dX10_determinant_83 (lv_at hl 6 rfl) ?_
                      refine lv_imul hx hb dX10_determinant_85 ?_
                      refine xt_i (y := nI (4 * r7)) (pk_mul _ _) ?_
                      refine lv_iload hx hb dX10_determinant_86 (lv_at hl 7 rfl) ?_
                      refine lv_iadd hx hb dX10_determinant_88 ?_
                      refine xt_i (y := nI ((4 * r7) + j8)) (nI_add _ _) ?_
                      refine lv_aload_n hx hb dX10_determinant_89 rfl (lv_at hl 1 rfl) ?_
                      refine va_get (D := (dC, dI)) (ci := 10) (v := .ref (h 19)) (C := RX10) (T := TX10) (N := 28) hx hb hts hinX10 hown hK hP 0 rfl rfl 19 (by decide) (hts (.fieldLink RX10 47 "MixedWordsModel" "square" "[J") (by decide +kernel)) (fun _ h9 => h9) rfl dX10_determinant_90 ?_
                      refine lv_iconst (v := nI 4) hx hb dX10_determinant_93 (by decide) ?_
                      refine lv_iload hx hb dX10_determinant_94 (lv_at hl 5 rfl) ?_
                      refine lv_imul hx hb dX10_determinant_96 ?_
                      refine xt_i (y := nI (4 * k)) (pk_mul _ _) ?_
                      refine lv_iload hx hb dX10_determinant_97 (lv_at hl 7 rfl) ?_
                      refine lv_iadd hx hb dX10_determinant_99 ?_
                      refine xt_i (y := nI ((4 * k) + j8)) (nI_add _ _) ?_
                      refine xa_lald hx hb hK hP 10 1 rfl rfl (by omega) (by decide) dX10_determinant_100 ?_
                      refine xa_last hx hb hK hP hD hS 10 1 rfl rfl (by omega) (by decide) dX10_determinant_101 (fun H locs hP hD hS => ?_)
                      have hP : va_P (dC, dI) vwCl (rW h cs I L A (va_up Q 19 (vp_updL sw ((4 * r7) + j8) (sw ((4 * k) + j8))))) H := hP
                      have hD : va_D A0 (rW h cs I L A (va_up Q 19 (vp_updL sw ((4 * r7) + j8) (sw ((4 * k) + j8))))) := hD
                      refine lv_aload_n hx hb dX10_determinant_102 rfl (lv_at hl 1 rfl) ?_
                      refine va_get (D := (dC, dI)) (ci := 10) (v := .ref (h 19)) (C := RX10) (T := TX10) (N := 28) hx hb hts hinX10 hown hK hP 0 rfl rfl 19 (by decide) (hts (.fieldLink RX10 47 "MixedWordsModel" "square" "[J") (by decide +kernel)) (fun _ h9 => h9) rfl dX10_determinant_103 ?_
                      refine lv_iconst (v := nI 4) hx hb dX10_determinant_106 (by decide) ?_
                      refine lv_iload hx hb dX10_determinant_107 (lv_at hl 5 rfl) ?_
                      refine lv_imul hx hb dX10_determinant_109 ?_
                      refine xt_i (y := nI (4 * k)) (pk_mul _ _) ?_
                      refine lv_iload hx hb dX10_determinant_110 (lv_at hl 7 rfl) ?_
                      refine lv_iadd hx hb dX10_determinant_112 ?_
                      refine xt_i (y := nI ((4 * k) + j8)) (nI_add _ _) ?_
                      refine lv_lload hx hb dX10_determinant_113 (lv_at hl 0 rfl) ?_
                      refine xa_last hx hb hK hP hD hS 10 1 rfl rfl (by omega) (by decide) dX10_determinant_115 (fun H locs hP hD hS => ?_)
                      have hP : va_P (dC, dI) vwCl (rW h cs I L A (va_up Q 19 (vp_updL (vp_updL sw ((4 * r7) + j8) (sw ((4 * k) + j8))) ((4 * k) + j8) (sw ((4 * r7) + j8))))) H := hP
                      have hD : va_D A0 (rW h cs I L A (va_up Q 19 (vp_updL (vp_updL sw ((4 * r7) + j8) (sw ((4 * k) + j8))) ((4 * k) + j8) (sw ((4 * r7) + j8))))) := hD
                      refine lv_iinc (v := nI (j8 + 1)) (lv' := [(8, .int (nI (j8 + 1))), (9, .long (sw ((4 * r7) + j8))), (0, .ref (h 0)), (1, .int (nI n)), (2, .long b2), (4, .long s4), (6, .int (nI k)), (7, .int (nI r7))]) hx hb dX10_determinant_116 hl (k := 7) rfl (nI_1 _) (by decide) rfl (fun ls hl => ?_)
                      refine lv_goto (tgt := 58) hx hb dX10_determinant_119 (by decide) ?_
                      exact ih_58 (j8 + 1) (vp_updL (vp_updL sw ((4 * r7) + j8) (sw ((4 * k) + j8))) ((4 * k) + j8) (sw ((4 * r7) + j8))) (by omega) (by first | assumption | omega) (by first | exact swap_0 hsq_8 | exact swap_s hn4 (by omega) (by omega) (by omega) hsw_58) _ _ _ hP hD hS (lv_sub hl [2, 3, 4, 5, 6, 7, 0] rfl)
                exact cut_58 _ 0 sq (Nat.lt_succ_self _) (by first | assumption | omega) (by first | exact swap_0 hsq_8 | exact swap_s hn4 (by omega) (by omega) (by omega) hsw_58) _ _ _ hP hD hS (lv_sub hl [1, 2, 3, 4, 5, 6, 0] rfl)
              · skip
                have hz0 : m7 r7 k = 0 := (hsq_8 r7 k (by omega) (by omega)).symm.trans c_37_3
                refine lv_iinc (v := nI (r7 + 1)) (lv' := [(7, .int (nI (r7 + 1))), (0, .ref (h 0)), (1, .int (nI n)), (2, .long b2), (4, .long s4), (6, .int (nI k))]) hx hb dX10_determinant_41 hl (k := 5) rfl (nI_1 _) (by decide) rfl (fun ls hl => ?_)
                refine lv_goto (tgt := 18) hx hb dX10_determinant_44 (by decide) ?_
                exact ih_18 (r7 + 1) (by omega) (by first | assumption | omega) (by first | assumption | omega) (by first | rfl | (rw [← hp_18]; exact (piv_s (by omega) hz0).symm)) _ _ _ hP hD hS (lv_sub hl [1, 2, 3, 4, 5, 0] rfl)
        exact cut_18 _ k (Nat.lt_succ_self _) (by first | assumption | omega) (by first | assumption | omega) (by first | rfl | (rw [← hp_18]; exact (piv_s (by omega) hz0).symm)) _ _ _ hP hD hS (lv_sub hl [1, 2, 3, 4, 5, 0] rfl)
  exact cut_8 _ 0 (1 : Int64) (1 : Int64) (Q 19) mm (Nat.lt_succ_self _) (by first | assumption | omega) (by first | decide | (intro g; simp [swapM] at g; exact hnz g)) (by first | exact hsq | exact elim_n (by omega) he_146) (by first | rfl | (rw [← hdet_8, det_go (by omega) hpiv (by omega)]; first | rw [if_pos (by assumption)] | rw [if_neg (by assumption)])) _ _ _ hP hD hS (lv_sub hl [3, 4, 2, 1, 0] rfl)
