
theorem s0_a {o bt : Nat → Int32} {k : Nat} {z : Int32} (h : bt k = nI 0) (hz : z = soft0 o bt k) (q : z < 0) : o k = soft0 o bt (k + 1) := by rw [soft0, if_pos h, up1, if_pos (Or.inl (hz ▸ q))]
theorem s0_b {o bt : Nat → Int32} {k : Nat} {z : Int32} (h : bt k = nI 0) (hz : z = soft0 o bt k) (q : ¬ z ≤ o k) : o k = soft0 o bt (k + 1) := by rw [soft0, if_pos h, up1, if_pos (Or.inr (hz ▸ Int32.not_le.mp q))]
theorem s0_c {o bt : Nat → Int32} {k : Nat} {z : Int32} (h : bt k = nI 0) (hz : z = soft0 o bt k) (q : ¬ z < 0) (q2 : z ≤ o k) : z = soft0 o bt (k + 1) := by rw [soft0, if_pos h, up1, if_neg (fun g => g.elim (fun g => q (hz ▸ g)) (fun g => Int32.not_lt.mpr q2 (hz ▸ g)))]; exact hz
theorem s0_d {o bt : Nat → Int32} {k : Nat} {z : Int32} (h : ¬ bt k = nI 0) (hz : z = soft0 o bt k) : z = soft0 o bt (k + 1) := by rw [soft0, if_neg h]; exact hz
theorem s1_a {o bt : Nat → Int32} {k : Nat} {z : Int32} (h : ¬ bt k = nI 0) (hz : z = soft1 o bt k) (q : z < 0) : o k = soft1 o bt (k + 1) := by rw [soft1, if_neg h, up1, if_pos (Or.inl (hz ▸ q))]
theorem s1_b {o bt : Nat → Int32} {k : Nat} {z : Int32} (h : ¬ bt k = nI 0) (hz : z = soft1 o bt k) (q : ¬ z ≤ o k) : o k = soft1 o bt (k + 1) := by rw [soft1, if_neg h, up1, if_pos (Or.inr (hz ▸ Int32.not_le.mp q))]
theorem s1_c {o bt : Nat → Int32} {k : Nat} {z : Int32} (h : ¬ bt k = nI 0) (hz : z = soft1 o bt k) (q : ¬ z < 0) (q2 : z ≤ o k) : z = soft1 o bt (k + 1) := by rw [soft1, if_neg h, up1, if_neg (fun g => g.elim (fun g => q (hz ▸ g)) (fun g => Int32.not_lt.mpr q2 (hz ▸ g)))]; exact hz
theorem s1_d {o bt : Nat → Int32} {k : Nat} {z : Int32} (h : bt k = nI 0) (hz : z = soft1 o bt k) : z = soft1 o bt (k + 1) := by rw [soft1, if_pos h]; exact hz
def bitW (a M cl b w : Nat) : Int32 := bitF (lettr a (w / a ^ (M - 1 - cl))) b

def colF (t : Nat → Int32) (R M c r : Nat) : Int32 := if c < M ∧ r < R then t (5 * r + c) else nI 0
/-- the columns, and ones, as lay() leaves them -/
def laid (t : Nat → Int32) (R M : Nat) (co tr : Nat → Int32) : Prop := (∀ q : Nat, q < 20 → co q = colF t R M (q / 5) (q % 5)) ∧ ∀ k c : Nat, k < 4 → c < 4 → tr (4 * k + c) = if k = c then nI 1 else nI 0
theorem lay_c {t g : Nat → Int32} {R M c r : Nat} {v : Int32} (hr : r < 5) (hv : v = colF t R M c r) (h : ∀ q : Nat, q < 5 * c + r → g q = colF t R M (q / 5) (q % 5)) : ∀ q : Nat, q < 5 * c + (r + 1) → upd g (5 * c + r) v q = colF t R M (q / 5) (q % 5) := fun q hq => by
  by_cases e : q = 5 * c + r
  · subst e
    rw [pk_us, hv, show (5 * c + r) / 5 = c by omega, show (5 * c + r) % 5 = r by omega]
  · rw [pk_un e]
    exact h q (by omega)
theorem lay_t {g : Nat → Int32} {c k : Nat} {v : Int32} (hc : c < 4) (hv : v = if k = c then nI 1 else nI 0) (h : ∀ i j : Nat, i < 4 → (j < c ∨ (j = c ∧ i < k)) → g (4 * i + j) = if i = j then nI 1 else nI 0) : ∀ i j : Nat, i < 4 → (j < c ∨ (j = c ∧ i < k + 1)) → upd g (4 * k + c) v (4 * i + j) = if i = j then nI 1 else nI 0 := fun i j hi hj => by
  by_cases e : 4 * i + j = 4 * k + c
  · have e1 : i = k := by omega
    have e2 : j = c := by omega
    rw [e1, e2, pk_us, hv]
  · rw [pk_un e]
    exact h i j hi (by omega)
def dotF (f : Nat → Int32) (i j : Nat) : Int32 := nI 0 + f (5 * i + 0) * f (5 * j + 0) + f (5 * i + 1) * f (5 * j + 1) + f (5 * i + 2) * f (5 * j + 2) + f (5 * i + 3) * f (5 * j + 3) + f (5 * i + 4) * f (5 * j + 4)
theorem shl1 {M : Nat} (h : M ≤ 4) : nI 1 <<< (nI M &&& 31) = nI (2 ^ M) := by
  have : M = 0 ∨ M = 1 ∨ M = 2 ∨ M = 3 ∨ M = 4 := by omega
  rcases this with rfl | rfl | rfl | rfl | rfl <;> decide

def metF (t : Nat → Int32) (R r : Nat) : Int32 := if r < R then t (5 * r + 4) else nI 0
set_option maxRecDepth 20000 in
theorem ggX10_soft_X10_isColumn : GoodIn wsX10_soft wsX10_isColumn := goodIn_r _ [8, 9, 10, 11, 7, 12, 35, 36, 37, 38, 39, 40, 41, 42, 43, 44, 45, 46, 47, 48, 49, 50, 51, 52, 53, 54, 55, 56, 57, 58, 59, 60, 61, 62] rfl (by decide +kernel)
set_option maxRecDepth 20000 in
theorem gX10_soft_X10_isColumn : GoodIn wsX10_soft (wsV RX10 90 RX10 yX10_isColumn wsX10_isColumn) := goodIn_app (goodIn_of _ (by decide +kernel)) ggX10_soft_X10_isColumn
set_option maxRecDepth 20000 in
theorem ggX10_soft_X10_in : GoodIn wsX10_soft wsX10_in := goodIn_r _ [12] rfl (by decide +kernel)
set_option maxRecDepth 20000 in
theorem gX10_soft_X10_in : GoodIn wsX10_soft (va_wsS RX10 77 yX10_in wsX10_in) := goodIn_app (goodIn_of _ (by decide +kernel)) ggX10_soft_X10_in
set_option maxRecDepth 20000 in
theorem ggX10_soft_X10_offAll : GoodIn wsX10_soft wsX10_offAll := goodIn_r _ [16, 3, 17, 18, 19, 7, 20, 9, 1, 21, 22, 23, 24, 25, 26, 27, 28, 29, 30, 35, 36, 37, 38, 39, 40, 41, 42, 43, 44, 45, 46, 47, 48, 49, 50, 51, 52, 53, 54, 55, 56, 57, 58, 59, 60, 61, 62] rfl (by decide +kernel)
set_option maxRecDepth 20000 in
theorem gX10_soft_X10_offAll : GoodIn wsX10_soft (wsV RX10 165 RX10 yX10_offAll wsX10_offAll) := goodIn_app (goodIn_of _ (by decide +kernel)) ggX10_soft_X10_offAll
set_option maxRecDepth 20000 in
theorem ggX10_soft_X10_words : GoodIn wsX10_soft wsX10_words := goodIn_r _ [20, 9, 1, 35, 36, 37, 38, 39, 40, 41, 42, 43, 44, 45, 46, 47, 48, 49, 50, 51, 52, 53, 54, 55, 56, 57, 58, 59, 60, 61, 62] rfl (by decide +kernel)
set_option maxRecDepth 20000 in
theorem gX10_soft_X10_words : GoodIn wsX10_soft (wsV RX10 153 RX10 yX10_words wsX10_words) := goodIn_app (goodIn_of _ (by decide +kernel)) ggX10_soft_X10_words
set_option maxRecDepth 20000 in
theorem ggX10_soft_X10_letter : GoodIn wsX10_soft wsX10_letter := goodIn_r _ [30, 9, 1, 35, 36, 37, 38, 39, 40, 41, 42, 43, 44, 45, 46, 47, 48, 49, 50, 51, 52, 53, 54, 55, 56, 57, 58, 59, 60, 61, 62] rfl (by decide +kernel)
set_option maxRecDepth 20000 in
theorem gX10_soft_X10_letter : GoodIn wsX10_soft (wsV RX10 156 RX10 yX10_letter wsX10_letter) := goodIn_app (goodIn_of _ (by decide +kernel)) ggX10_soft_X10_letter
set_option maxRecDepth 20000 in
theorem ggX10_soft_X10_bit : GoodIn wsX10_soft wsX10_bit := goodIn_r _ [34] rfl (by decide +kernel)
set_option maxRecDepth 20000 in
theorem gX10_soft_X10_bit : GoodIn wsX10_soft (wsV RX10 169 RX10 yX10_bit wsX10_bit) := goodIn_app (goodIn_of _ (by decide +kernel)) ggX10_soft_X10_bit
theorem bdX10_soft_0 : (decode cX10_soft 0 = .ok (.aload_n 0, 1)) ∧ (decode cX10_soft 1 = .ok (.iload_n 1, 1)) ∧ (decode cX10_soft 2 = .ok (.invokevirtual 90, 3)) ∧ (decode cX10_soft 5 = .ok (.ifCond .eq 21, 3)) ∧ (decode cX10_soft 8 = .ok (.iload_n 2, 1)) ∧ (decode cX10_soft 9 = .ok (.i2l, 1)) ∧ (decode cX10_soft 10 = .ok (.lconst 0, 1)) ∧ (decode cX10_soft 11 = .ok (.aload_n 0, 1)) ∧ (decode cX10_soft 12 = .ok (.getfield 16, 3)) ∧ (decode cX10_soft 15 = .ok (.iconst 2, 1)) ∧ (decode cX10_soft 16 = .ok (.idiv, 1)) ∧ (decode cX10_soft 17 = .ok (.iconst 1, 1)) ∧ (decode cX10_soft 18 = .ok (.isub, 1)) ∧ (decode cX10_soft 19 = .ok (.i2l, 1)) ∧ (decode cX10_soft 20 = .ok (.invokestatic 77, 3)) ∧ (decode cX10_soft 23 = .ok (.ifCond .ne 6, 3)) := by decide +kernel
theorem dX10_soft_0 : decode cX10_soft 0 = .ok (.aload_n 0, 1) := bdX10_soft_0.1
theorem dX10_soft_1 : decode cX10_soft 1 = .ok (.iload_n 1, 1) := bdX10_soft_0.2.1
theorem dX10_soft_2 : decode cX10_soft 2 = .ok (.invokevirtual 90, 3) := bdX10_soft_0.2.2.1
theorem dX10_soft_5 : decode cX10_soft 5 = .ok (.ifCond .eq 21, 3) := bdX10_soft_0.2.2.2.1
theorem dX10_soft_8 : decode cX10_soft 8 = .ok (.iload_n 2, 1) := bdX10_soft_0.2.2.2.2.1
theorem dX10_soft_9 : decode cX10_soft 9 = .ok (.i2l, 1) := bdX10_soft_0.2.2.2.2.2.1
theorem dX10_soft_10 : decode cX10_soft 10 = .ok (.lconst 0, 1) := bdX10_soft_0.2.2.2.2.2.2.1
theorem dX10_soft_11 : decode cX10_soft 11 = .ok (.aload_n 0, 1) := bdX10_soft_0.2.2.2.2.2.2.2.1
theorem dX10_soft_12 : decode cX10_soft 12 = .ok (.getfield 16, 3) := bdX10_soft_0.2.2.2.2.2.2.2.2.1
theorem dX10_soft_15 : decode cX10_soft 15 = .ok (.iconst 2, 1) := bdX10_soft_0.2.2.2.2.2.2.2.2.2.1
theorem dX10_soft_16 : decode cX10_soft 16 = .ok (.idiv, 1) := bdX10_soft_0.2.2.2.2.2.2.2.2.2.2.1
theorem dX10_soft_17 : decode cX10_soft 17 = .ok (.iconst 1, 1) := bdX10_soft_0.2.2.2.2.2.2.2.2.2.2.2.1
theorem dX10_soft_18 : decode cX10_soft 18 = .ok (.isub, 1) := bdX10_soft_0.2.2.2.2.2.2.2.2.2.2.2.2.1
theorem dX10_soft_19 : decode cX10_soft 19 = .ok (.i2l, 1) := bdX10_soft_0.2.2.2.2.2.2.2.2.2.2.2.2.2.1
theorem dX10_soft_20 : decode cX10_soft 20 = .ok (.invokestatic 77, 3) := bdX10_soft_0.2.2.2.2.2.2.2.2.2.2.2.2.2.2.1
theorem dX10_soft_23 : decode cX10_soft 23 = .ok (.ifCond .ne 6, 3) := bdX10_soft_0.2.2.2.2.2.2.2.2.2.2.2.2.2.2.2
theorem bdX10_soft_26 : (decode cX10_soft 26 = .ok (.ldc 168, 2)) ∧ (decode cX10_soft 28 = .ok (.ireturn, 1)) ∧ (decode cX10_soft 29 = .ok (.aload_n 0, 1)) ∧ (decode cX10_soft 30 = .ok (.invokevirtual 165, 3)) ∧ (decode cX10_soft 33 = .ok (.iconst (-1), 1)) ∧ (decode cX10_soft 34 = .ok (.istore_n 3, 1)) ∧ (decode cX10_soft 35 = .ok (.iconst (-1), 1)) ∧ (decode cX10_soft 36 = .ok (.istore 4, 2)) ∧ (decode cX10_soft 38 = .ok (.iconst 0, 1)) ∧ (decode cX10_soft 39 = .ok (.istore 5, 2)) ∧ (decode cX10_soft 41 = .ok (.iload 5, 2)) ∧ (decode cX10_soft 43 = .ok (.aload_n 0, 1)) ∧ (decode cX10_soft 44 = .ok (.invokevirtual 153, 3)) ∧ (decode cX10_soft 47 = .ok (.if_icmp .ge 85, 3)) ∧ (decode cX10_soft 50 = .ok (.aload_n 0, 1)) ∧ (decode cX10_soft 51 = .ok (.aload_n 0, 1)) := by decide +kernel
theorem dX10_soft_26 : decode cX10_soft 26 = .ok (.ldc 168, 2) := bdX10_soft_26.1
theorem dX10_soft_28 : decode cX10_soft 28 = .ok (.ireturn, 1) := bdX10_soft_26.2.1
theorem dX10_soft_29 : decode cX10_soft 29 = .ok (.aload_n 0, 1) := bdX10_soft_26.2.2.1
theorem dX10_soft_30 : decode cX10_soft 30 = .ok (.invokevirtual 165, 3) := bdX10_soft_26.2.2.2.1
theorem dX10_soft_33 : decode cX10_soft 33 = .ok (.iconst (-1), 1) := bdX10_soft_26.2.2.2.2.1
theorem dX10_soft_34 : decode cX10_soft 34 = .ok (.istore_n 3, 1) := bdX10_soft_26.2.2.2.2.2.1
theorem dX10_soft_35 : decode cX10_soft 35 = .ok (.iconst (-1), 1) := bdX10_soft_26.2.2.2.2.2.2.1
theorem dX10_soft_36 : decode cX10_soft 36 = .ok (.istore 4, 2) := bdX10_soft_26.2.2.2.2.2.2.2.1
theorem dX10_soft_38 : decode cX10_soft 38 = .ok (.iconst 0, 1) := bdX10_soft_26.2.2.2.2.2.2.2.2.1
theorem dX10_soft_39 : decode cX10_soft 39 = .ok (.istore 5, 2) := bdX10_soft_26.2.2.2.2.2.2.2.2.2.1
theorem dX10_soft_41 : decode cX10_soft 41 = .ok (.iload 5, 2) := bdX10_soft_26.2.2.2.2.2.2.2.2.2.2.1
theorem dX10_soft_43 : decode cX10_soft 43 = .ok (.aload_n 0, 1) := bdX10_soft_26.2.2.2.2.2.2.2.2.2.2.2.1
theorem dX10_soft_44 : decode cX10_soft 44 = .ok (.invokevirtual 153, 3) := bdX10_soft_26.2.2.2.2.2.2.2.2.2.2.2.2.1
theorem dX10_soft_47 : decode cX10_soft 47 = .ok (.if_icmp .ge 85, 3) := bdX10_soft_26.2.2.2.2.2.2.2.2.2.2.2.2.2.1
theorem dX10_soft_50 : decode cX10_soft 50 = .ok (.aload_n 0, 1) := bdX10_soft_26.2.2.2.2.2.2.2.2.2.2.2.2.2.2.1
theorem dX10_soft_51 : decode cX10_soft 51 = .ok (.aload_n 0, 1) := bdX10_soft_26.2.2.2.2.2.2.2.2.2.2.2.2.2.2.2
theorem bdX10_soft_52 : (decode cX10_soft 52 = .ok (.iload 5, 2)) ∧ (decode cX10_soft 54 = .ok (.iload_n 1, 1)) ∧ (decode cX10_soft 55 = .ok (.invokevirtual 156, 3)) ∧ (decode cX10_soft 58 = .ok (.iload_n 2, 1)) ∧ (decode cX10_soft 59 = .ok (.invokevirtual 169, 3)) ∧ (decode cX10_soft 62 = .ok (.ifCond .ne 33, 3)) ∧ (decode cX10_soft 65 = .ok (.iload_n 3, 1)) ∧ (decode cX10_soft 66 = .ok (.ifCond .lt 14, 3)) ∧ (decode cX10_soft 69 = .ok (.aload_n 0, 1)) ∧ (decode cX10_soft 70 = .ok (.getfield 38, 3)) ∧ (decode cX10_soft 73 = .ok (.iload 5, 2)) ∧ (decode cX10_soft 75 = .ok (.iaload, 1)) ∧ (decode cX10_soft 76 = .ok (.iload_n 3, 1)) ∧ (decode cX10_soft 77 = .ok (.if_icmp .ge 13, 3)) ∧ (decode cX10_soft 80 = .ok (.aload_n 0, 1)) ∧ (decode cX10_soft 81 = .ok (.getfield 38, 3)) := by decide +kernel
theorem dX10_soft_52 : decode cX10_soft 52 = .ok (.iload 5, 2) := bdX10_soft_52.1
theorem dX10_soft_54 : decode cX10_soft 54 = .ok (.iload_n 1, 1) := bdX10_soft_52.2.1
theorem dX10_soft_55 : decode cX10_soft 55 = .ok (.invokevirtual 156, 3) := bdX10_soft_52.2.2.1
theorem dX10_soft_58 : decode cX10_soft 58 = .ok (.iload_n 2, 1) := bdX10_soft_52.2.2.2.1
theorem dX10_soft_59 : decode cX10_soft 59 = .ok (.invokevirtual 169, 3) := bdX10_soft_52.2.2.2.2.1
theorem dX10_soft_62 : decode cX10_soft 62 = .ok (.ifCond .ne 33, 3) := bdX10_soft_52.2.2.2.2.2.1
theorem dX10_soft_65 : decode cX10_soft 65 = .ok (.iload_n 3, 1) := bdX10_soft_52.2.2.2.2.2.2.1
theorem dX10_soft_66 : decode cX10_soft 66 = .ok (.ifCond .lt 14, 3) := bdX10_soft_52.2.2.2.2.2.2.2.1
theorem dX10_soft_69 : decode cX10_soft 69 = .ok (.aload_n 0, 1) := bdX10_soft_52.2.2.2.2.2.2.2.2.1
theorem dX10_soft_70 : decode cX10_soft 70 = .ok (.getfield 38, 3) := bdX10_soft_52.2.2.2.2.2.2.2.2.2.1
theorem dX10_soft_73 : decode cX10_soft 73 = .ok (.iload 5, 2) := bdX10_soft_52.2.2.2.2.2.2.2.2.2.2.1
theorem dX10_soft_75 : decode cX10_soft 75 = .ok (.iaload, 1) := bdX10_soft_52.2.2.2.2.2.2.2.2.2.2.2.1
theorem dX10_soft_76 : decode cX10_soft 76 = .ok (.iload_n 3, 1) := bdX10_soft_52.2.2.2.2.2.2.2.2.2.2.2.2.1
theorem dX10_soft_77 : decode cX10_soft 77 = .ok (.if_icmp .ge 13, 3) := bdX10_soft_52.2.2.2.2.2.2.2.2.2.2.2.2.2.1
theorem dX10_soft_80 : decode cX10_soft 80 = .ok (.aload_n 0, 1) := bdX10_soft_52.2.2.2.2.2.2.2.2.2.2.2.2.2.2.1
theorem dX10_soft_81 : decode cX10_soft 81 = .ok (.getfield 38, 3) := bdX10_soft_52.2.2.2.2.2.2.2.2.2.2.2.2.2.2.2
theorem bdX10_soft_84 : (decode cX10_soft 84 = .ok (.iload 5, 2)) ∧ (decode cX10_soft 86 = .ok (.iaload, 1)) ∧ (decode cX10_soft 87 = .ok (.goto 4, 3)) ∧ (decode cX10_soft 90 = .ok (.iload_n 3, 1)) ∧ (decode cX10_soft 91 = .ok (.istore_n 3, 1)) ∧ (decode cX10_soft 92 = .ok (.goto 34, 3)) ∧ (decode cX10_soft 95 = .ok (.iload 4, 2)) ∧ (decode cX10_soft 97 = .ok (.ifCond .lt 15, 3)) ∧ (decode cX10_soft 100 = .ok (.aload_n 0, 1)) ∧ (decode cX10_soft 101 = .ok (.getfield 38, 3)) ∧ (decode cX10_soft 104 = .ok (.iload 5, 2)) ∧ (decode cX10_soft 106 = .ok (.iaload, 1)) ∧ (decode cX10_soft 107 = .ok (.iload 4, 2)) ∧ (decode cX10_soft 109 = .ok (.if_icmp .ge 13, 3)) ∧ (decode cX10_soft 112 = .ok (.aload_n 0, 1)) ∧ (decode cX10_soft 113 = .ok (.getfield 38, 3)) := by decide +kernel
theorem dX10_soft_84 : decode cX10_soft 84 = .ok (.iload 5, 2) := bdX10_soft_84.1
theorem dX10_soft_86 : decode cX10_soft 86 = .ok (.iaload, 1) := bdX10_soft_84.2.1
theorem dX10_soft_87 : decode cX10_soft 87 = .ok (.goto 4, 3) := bdX10_soft_84.2.2.1
theorem dX10_soft_90 : decode cX10_soft 90 = .ok (.iload_n 3, 1) := bdX10_soft_84.2.2.2.1
theorem dX10_soft_91 : decode cX10_soft 91 = .ok (.istore_n 3, 1) := bdX10_soft_84.2.2.2.2.1
theorem dX10_soft_92 : decode cX10_soft 92 = .ok (.goto 34, 3) := bdX10_soft_84.2.2.2.2.2.1
theorem dX10_soft_95 : decode cX10_soft 95 = .ok (.iload 4, 2) := bdX10_soft_84.2.2.2.2.2.2.1
theorem dX10_soft_97 : decode cX10_soft 97 = .ok (.ifCond .lt 15, 3) := bdX10_soft_84.2.2.2.2.2.2.2.1
theorem dX10_soft_100 : decode cX10_soft 100 = .ok (.aload_n 0, 1) := bdX10_soft_84.2.2.2.2.2.2.2.2.1
theorem dX10_soft_101 : decode cX10_soft 101 = .ok (.getfield 38, 3) := bdX10_soft_84.2.2.2.2.2.2.2.2.2.1
theorem dX10_soft_104 : decode cX10_soft 104 = .ok (.iload 5, 2) := bdX10_soft_84.2.2.2.2.2.2.2.2.2.2.1
theorem dX10_soft_106 : decode cX10_soft 106 = .ok (.iaload, 1) := bdX10_soft_84.2.2.2.2.2.2.2.2.2.2.2.1
theorem dX10_soft_107 : decode cX10_soft 107 = .ok (.iload 4, 2) := bdX10_soft_84.2.2.2.2.2.2.2.2.2.2.2.2.1
theorem dX10_soft_109 : decode cX10_soft 109 = .ok (.if_icmp .ge 13, 3) := bdX10_soft_84.2.2.2.2.2.2.2.2.2.2.2.2.2.1
theorem dX10_soft_112 : decode cX10_soft 112 = .ok (.aload_n 0, 1) := bdX10_soft_84.2.2.2.2.2.2.2.2.2.2.2.2.2.2.1
theorem dX10_soft_113 : decode cX10_soft 113 = .ok (.getfield 38, 3) := bdX10_soft_84.2.2.2.2.2.2.2.2.2.2.2.2.2.2.2
theorem bdX10_soft_116 : (decode cX10_soft 116 = .ok (.iload 5, 2)) ∧ (decode cX10_soft 118 = .ok (.iaload, 1)) ∧ (decode cX10_soft 119 = .ok (.goto 5, 3)) ∧ (decode cX10_soft 122 = .ok (.iload 4, 2)) ∧ (decode cX10_soft 124 = .ok (.istore 4, 2)) ∧ (decode cX10_soft 126 = .ok (.iinc 5 1, 3)) ∧ (decode cX10_soft 129 = .ok (.goto (-88), 3)) ∧ (decode cX10_soft 132 = .ok (.iload 4, 2)) ∧ (decode cX10_soft 134 = .ok (.iload_n 3, 1)) ∧ (decode cX10_soft 135 = .ok (.isub, 1)) ∧ (decode cX10_soft 136 = .ok (.ireturn, 1)) := by decide +kernel
theorem dX10_soft_116 : decode cX10_soft 116 = .ok (.iload 5, 2) := bdX10_soft_116.1
theorem dX10_soft_118 : decode cX10_soft 118 = .ok (.iaload, 1) := bdX10_soft_116.2.1
theorem dX10_soft_119 : decode cX10_soft 119 = .ok (.goto 5, 3) := bdX10_soft_116.2.2.1
theorem dX10_soft_122 : decode cX10_soft 122 = .ok (.iload 4, 2) := bdX10_soft_116.2.2.2.1
theorem dX10_soft_124 : decode cX10_soft 124 = .ok (.istore 4, 2) := bdX10_soft_116.2.2.2.2.1
theorem dX10_soft_126 : decode cX10_soft 126 = .ok (.iinc 5 1, 3) := bdX10_soft_116.2.2.2.2.2.1
theorem dX10_soft_129 : decode cX10_soft 129 = .ok (.goto (-88), 3) := bdX10_soft_116.2.2.2.2.2.2.1
theorem dX10_soft_132 : decode cX10_soft 132 = .ok (.iload 4, 2) := bdX10_soft_116.2.2.2.2.2.2.2.1
theorem dX10_soft_134 : decode cX10_soft 134 = .ok (.iload_n 3, 1) := bdX10_soft_116.2.2.2.2.2.2.2.2.1
theorem dX10_soft_135 : decode cX10_soft 135 = .ok (.isub, 1) := bdX10_soft_116.2.2.2.2.2.2.2.2.2.1
theorem dX10_soft_136 : decode cX10_soft 136 = .ok (.ireturn, 1) := bdX10_soft_116.2.2.2.2.2.2.2.2.2.2
set_option maxHeartbeats 4000000 in
set_option maxRecDepth 100000 in
theorem k_X10_soft (l : Launch) (dC : Nat → ClassId) (dI : Nat → Nat → Nat) (h : Nat → Nat) (cs : Nat → ClassId) (sz : Nat) (I : Nat → Int32) (L : Nat → Int64) (A : Nat → Nat → Int32) (Q : Nat → Nat → Int64) (x y : Int32) (R M a : Nat) (hR : I 0 = nI R) (hR1 : 1 ≤ R) (hR5 : R ≤ 5) (hM : I 1 = nI M) (hM1 : 1 ≤ M) (hM4 : M ≤ 4) (ha : I 2 = nI a) (ha2 : a = 2 ∨ a = 4) : Met l yX10_soft wsX10_soft ({ frames := 3, cells := 0, slots := 0, locals := 70 }) (va_Pc [.ref (h 0), .int x, .int y] (xPre (dC, dI) (rW h cs I L A Q) (tysA cs) sz)) (va_Qi (fun (r : Int32) (u : RS) => ∃ f16 : Nat → Int32, ((∃ i j : Nat, i < M ∧ j < a / 2 ∧ x = nI i ∧ y = nI j ∧ (∀ t : Nat, t < a ^ M → f16 t = offF (A 3) a M t R) ∧ r = soft1 f16 (bitW a M i j) (a ^ M) - soft0 f16 (bitW a M i j) (a ^ M)) ∨ (r = -100000001 ∧ (∀ i j : Nat, i < M → j < a / 2 → x = nI i → y = nI j → False) ∧ f16 = A 16)) ∧ u = (I, L, (va_up A 16 f16), Q)) (xB (dC, dI) (tysA cs) (va_A (rW h cs I L A Q) sz) (fun u : RS => rW h cs u.1 u.2.1 u.2.2.1 u.2.2.2)) (va_A (rW h cs I L A Q) sz)) 0 0 (va_A (rW h cs I L A Q) sz) := by
  refine Met.ofW (cc := cX10_soft) (maxL := 6) (ret := (some .int)) (by decide) rfl ?_
  intro p e s m args below meth c s₁ B hml hv
  obtain ⟨rfl, hsz, hP, hK, hD0, hN⟩ := hv
  have hx := B.exec
  have hb := B.bytes
  have hr := B.returns
  have hts := atoms_spec (ws := wsX10_soft) B.pre
  have hown : s.vm.findClass RX10 = some m.cls := findClass_of_methodNamed B.named
  have hlocks := B.notSynchronized
  subst hsz
  have hD := hD0.self (sz := s.heap.size)
  generalize hAe : va_A (rW h cs I L A Q) s.heap.size = A0 at hD ⊢
  have hA : ∀ q : Nat, s.heap.size ≤ q → A0 q := fun q h => by rw [← hAe]; exact Or.inr h
  have hl := lv_entry ([.ref (h 0), .int x, .int y]) (n := 6) (Nat.le_of_ble_eq_true rfl)
  rw [lg_entry_eq]
  generalize (lg_sl ([.ref (h 0), .int x, .int y]) ++ List.replicate (6 - (lg_sl ([.ref (h 0), .int x, .int y])).length) Slot.unset).toArray = ls at hl ⊢
  have hl : lv_has ls 6 [(0, .ref (h 0)), (1, .int x), (2, .int y)] := hl
  generalize hH : s.heap = H at hP ⊢
  have hS : va_S A0 s.heap H [] := by rw [← hH]; exact va_S.rf
  have hinX10 : ∀ w ∈ wsX100, w ∈ wsX10_soft := by decide +kernel
  have hpw : a ^ M ≤ 256 := pw_le ha2 hM4
  have hpw1 : 1 ≤ a ^ M := pw_pos ha2
  refine lv_aload_n hx hb dX10_soft_0 rfl (lv_at hl 0 rfl) ?_
  refine lv_iload_n hx hb dX10_soft_1 rfl (lv_at hl 1 rfl) ?_
  refine xj_i (wc := (rW h cs I L A Q)) (wr := ([] : va_W)) hP hD hS hA [0, 1, 2, 3, 4, 5, 6, 7, 8, 9, 10, 11, 12, 13, 14, 15, 16] [] rfl rfl (by decide +kernel) (by decide +kernel) (va_runV (As := [.int x]) (rest := []) ⟨hx, hb, hml, hown, hts⟩ (k_X10_isColumn l dC dI h cs H.size I L A Q x M hM (by first | assumption | omega | exact hM1) (by first | assumption | omega | exact hM4)) (cwV 1 hts gX10_soft_X10_isColumn rfl rfl rfl (by decide +kernel) ⟨Nat.le_of_ble_eq_true rfl, Nat.le_of_ble_eq_true rfl⟩) (xpV (wc := (rW h cs I L A Q)) hP hD hK hN [0, 1, 2, 3, 4, 5, 6, 7, 8, 9, 10, 11, 12, 13, 14, 15, 16] rfl (by decide) 0 (ci := 10) rfl rfl _) rfl rfl hl.1 rfl (lv_room (Nat.le_of_ble_eq_true rfl)) dX10_soft_2 ⟨Nat.zero_le _, Nat.zero_le _⟩) (fun r_2 u_1 H locs hw hP hD hS => ?_)
  obtain ⟨hf_3, rfl⟩ := hw
  have hP : va_P (dC, dI) vwCl (rW h cs I L A Q) H := hP
  have hD : va_D A0 (rW h cs I L A Q) := hD
  rcases hf_3 with ⟨rfl, i_4, hi_5, hx_6⟩ | ⟨rfl, hn_7⟩
  · skip
    rw [hx_6] at hl
    refine xs_eqF (tgt := 26) hx hb dX10_soft_5 (by decide) (by decide) ?_
    refine lv_iload_n hx hb dX10_soft_8 rfl (lv_at hl 2 rfl) ?_
    refine lv_i2l (v := y.toInt64) hx hb dX10_soft_9 rfl ?_
    refine lv_lconst (v := 0) hx hb dX10_soft_10 rfl ?_
    refine lv_aload_n hx hb dX10_soft_11 rfl (lv_at hl 0 rfl) ?_
    refine va_get (D := (dC, dI)) (ci := 10) (v := .int (I 2)) (C := RX10) (T := TX10) (N := 28) hx hb hts hinX10 hown hK hP 0 rfl rfl 2 (by decide) (hts (.fieldLink RX10 16 "MixedWordsModel" "a" "I") (by decide +kernel)) (fun _ h9 => h9) rfl dX10_soft_12 ?_
    refine xt_i (y := nI a) (ha) ?_
    refine lv_iconst (v := nI 2) hx hb dX10_soft_15 (by decide) ?_
    refine lv_idiv hx hb dX10_soft_16 (nI_ne0 (by omega) (by omega)) ?_
    refine xt_i (y := nI (a / 2)) (pk_div (by omega) (by omega) (by omega)) ?_
    refine lv_iconst (v := nI 1) hx hb dX10_soft_17 (by decide) ?_
    refine lv_isub hx hb dX10_soft_18 ?_
    refine xt_i (y := nI ((a / 2) - 1)) (pk_sub (by omega)) ?_
    refine lv_i2l (v := (nI ((a / 2) - 1)).toInt64) hx hb dX10_soft_19 rfl ?_
    refine xj_i (wc := ([] : va_W)) (wr := (rW h cs I L A Q)) hP hD hS hA [] [0, 1, 2, 3, 4, 5, 6, 7, 8, 9, 10, 11, 12, 13, 14, 15, 16] rfl rfl (by decide +kernel) (by decide +kernel) (va_runS (As := [.long y.toInt64, .long (0 : Int64), .long ((nI ((a / 2) - 1)).toInt64)]) (rest := []) ⟨hx, hb, hml, hown, hts⟩ (k_X10_in l dC dI h cs H.size I L A Q y.toInt64 (0 : Int64) ((nI ((a / 2) - 1)).toInt64)) (va_cwS 3 hts gX10_soft_X10_in rfl rfl rfl (by decide +kernel) ⟨Nat.le_of_ble_eq_true rfl, Nat.le_of_ble_eq_true rfl⟩) (xpS (wc := ([] : va_W)) hP hD hK hN [] rfl (by decide) _) rfl rfl hl.1 rfl (lv_room (Nat.le_of_ble_eq_true rfl)) dX10_soft_20 ⟨Nat.zero_le _, Nat.zero_le _⟩) (fun r_10 u_9 H locs hw hP hD hS => ?_)
    obtain ⟨hf_11, rfl⟩ := hw
    have hP : va_P (dC, dI) vwCl (rW h cs I L A Q) H := hP
    have hD : va_D A0 (rW h cs I L A Q) := hD
    rcases in_N (a := 0) (b := a / 2 - 1) (rfl) (nI_L (by omega)) hf_11 with ⟨rfl, i_12, ha_13, hb_14, hx_15⟩ | ⟨rfl, hn_16⟩
    · skip
      rw [hx_15] at hl
      refine xs_neT (tgt := 29) hx hb dX10_soft_23 (by decide) (by decide) ?_
      refine lv_aload_n hx hb dX10_soft_29 rfl (lv_at hl 0 rfl) ?_
      refine xj_v (wc := (rW h cs I L A Q)) (wr := ([] : va_W)) hP hD hS hA [0, 1, 2, 3, 4, 5, 6, 7, 8, 9, 10, 11, 12, 13, 14, 15, 16] [] rfl rfl (by decide +kernel) (by decide +kernel) (va_runV (As := []) (rest := []) ⟨hx, hb, hml, hown, hts⟩ (k_X10_offAll l dC dI h cs H.size I L A Q R M a hR (by first | assumption | omega | exact hR1) (by first | assumption | omega | exact hR5) hM (by first | assumption | omega | exact hM1) (by first | assumption | omega | exact hM4) ha (by first | assumption | omega | exact ha2)) (cwV 0 hts gX10_soft_X10_offAll rfl rfl rfl (by decide +kernel) ⟨Nat.le_of_ble_eq_true rfl, Nat.le_of_ble_eq_true rfl⟩) (xpV (wc := (rW h cs I L A Q)) hP hD hK hN [0, 1, 2, 3, 4, 5, 6, 7, 8, 9, 10, 11, 12, 13, 14, 15, 16] rfl (by decide) 0 (ci := 10) rfl rfl _) rfl rfl hl.1 rfl (lv_room (Nat.le_of_ble_eq_true rfl)) dX10_soft_30 ⟨Nat.zero_le _, Nat.zero_le _⟩) (fun u_18 H locs hw hP hD hS => ?_)
      obtain ⟨f16_20, hf_21, rfl⟩ := hw
      have hP : va_P (dC, dI) vwCl (rW h cs I L (va_up A 16 f16_20) Q) H := hP
      have hD : va_D A0 (rW h cs I L (va_up A 16 f16_20) Q) := hD
      refine lv_iconst (v := (-1)) hx hb dX10_soft_33 (by decide) ?_
      refine lv_istore_n (lv' := [(3, .int (-1)), (0, .ref (h 0)), (1, .int (nI i_4)), (2, .int (nI i_12))]) hx hb dX10_soft_34 rfl hl (by decide) rfl (fun ls hl => ?_)
      refine lv_iconst (v := (-1)) hx hb dX10_soft_35 (by decide) ?_
      refine lv_istore (lv' := [(4, .int (-1)), (3, .int (-1)), (0, .ref (h 0)), (1, .int (nI i_4)), (2, .int (nI i_12))]) hx hb dX10_soft_36 hl (by decide) rfl (fun ls hl => ?_)
      refine lv_iconst (v := nI 0) hx hb dX10_soft_38 (by decide) ?_
      refine lv_istore (lv' := [(5, .int (nI 0)), (4, .int (-1)), (3, .int (-1)), (0, .ref (h 0)), (1, .int (nI i_4)), (2, .int (nI i_12))]) hx hb dX10_soft_39 hl (by decide) rfl (fun ls hl => ?_)
      have cut_41 : ∀ (nf : Nat) (k : Nat) (z3 : Int32) (z4 : Int32), (a ^ M - k) < nf → (k ≤ a ^ M) → (z3 = soft0 f16_20 (bitW a M i_4 i_12) k) → (z4 = soft1 f16_20 (bitW a M i_4 i_12) k) → ∀ (H : Heap) (locs : List Loc) (ls : Array Slot), va_P (dC, dI) vwCl (rW h cs I L (va_up A 16 f16_20) Q) H → va_D A0 (rW h cs I L (va_up A 16 f16_20) Q) → va_S A0 s.heap H locs → lv_has ls 6 [(0, .ref (h 0)), (1, .int (nI i_4)), (2, .int (nI i_12)), (3, .int z3), (4, .int z4), (5, .int (nI k))] → W p l e (headSpec wsX10_soft ({ frames := 3, cells := 0, slots := 0, locals := 70 })).room s m ([.ref (h 0), .int x, .int y] : List Value).toArray below meth c H locs 0 0 (MQ below (va_Qi (fun (r : Int32) (u : RS) => ∃ f16 : Nat → Int32, ((∃ i j : Nat, i < M ∧ j < a / 2 ∧ x = nI i ∧ y = nI j ∧ (∀ t : Nat, t < a ^ M → f16 t = offF (A 3) a M t R) ∧ r = soft1 f16 (bitW a M i j) (a ^ M) - soft0 f16 (bitW a M i j) (a ^ M)) ∨ (r = -100000001 ∧ (∀ i j : Nat, i < M → j < a / 2 → x = nI i → y = nI j → False) ∧ f16 = A 16)) ∧ u = (I, L, (va_up A 16 f16), Q)) (xB (dC, dI) (tysA cs) A0 (fun u : RS => rW h cs u.1 u.2.1 u.2.2.1 u.2.2.2)) A0) ([.ref (h 0), .int x, .int y] : List Value).toArray s 0 0 A0) (F0 m 41 ls []) := by
        intro nf
        induction nf with
        | zero => intro k z3 z4 hm; exact absurd hm (Nat.not_lt_zero _)
        | succ nf ih_41 =>
          intro k z3 z4 hm_41 hk_41 h3_41 h4_41 H locs ls hP hD hS hl
          refine lv_iload hx hb dX10_soft_41 (lv_at hl 5 rfl) ?_
          refine lv_aload_n hx hb dX10_soft_43 rfl (lv_at hl 0 rfl) ?_
          refine xj_i (wc := (rW h cs I L (va_up A 16 f16_20) Q)) (wr := ([] : va_W)) hP hD hS hA [0, 1, 2, 3, 4, 5, 6, 7, 8, 9, 10, 11, 12, 13, 14, 15, 16] [] rfl rfl (by decide +kernel) (by decide +kernel) (va_runV (As := []) (rest := [.int (nI k)]) ⟨hx, hb, hml, hown, hts⟩ (k_X10_words l dC dI h cs H.size I L (va_up A 16 f16_20) Q M a hM (by first | assumption | omega | exact hM1) (by first | assumption | omega | exact hM4) ha (by first | assumption | omega | exact ha2)) (cwV 0 hts gX10_soft_X10_words rfl rfl rfl (by decide +kernel) ⟨Nat.le_of_ble_eq_true rfl, Nat.le_of_ble_eq_true rfl⟩) (xpV (wc := (rW h cs I L (va_up A 16 f16_20) Q)) hP hD hK hN [0, 1, 2, 3, 4, 5, 6, 7, 8, 9, 10, 11, 12, 13, 14, 15, 16] rfl (by decide) 0 (ci := 10) rfl rfl _) rfl rfl hl.1 rfl (lv_room (Nat.le_of_ble_eq_true rfl)) dX10_soft_44 ⟨Nat.zero_le _, Nat.zero_le _⟩) (fun r_23 u_22 H locs hw hP hD hS => ?_)
          obtain ⟨hf_24, rfl⟩ := hw
          have hP : va_P (dC, dI) vwCl (rW h cs I L (va_up A 16 f16_20) Q) H := hP
          have hD : va_D A0 (rW h cs I L (va_up A 16 f16_20) Q) := hD
          obtain rfl := hf_24
          refine xn_ge (tgt := 132) hx hb dX10_soft_47 (by decide) (by omega) (by omega) (fun c_47_24 => ?_) (fun c_47_24 => ?_)
          · skip
            refine lv_iload hx hb dX10_soft_132 (lv_at hl 4 rfl) ?_
            refine lv_iload_n hx hb dX10_soft_134 rfl (lv_at hl 3 rfl) ?_
            refine lv_isub hx hb dX10_soft_135 ?_
            exact xr_i (v := (z4 - z3)) hx hb hr hlocks hK hS dX10_soft_136 (I, L, (va_up A 16 f16_20), Q) ⟨f16_20, (Or.inl ⟨i_4, i_12, hi_5, by omega, hx_6, hx_15, hf_21, by rw [h4_41, h3_41, show a ^ M = k by omega]⟩), rfl⟩ hP hD
          · skip
            refine lv_aload_n hx hb dX10_soft_50 rfl (lv_at hl 0 rfl) ?_
            refine lv_aload_n hx hb dX10_soft_51 rfl (lv_at hl 0 rfl) ?_
            refine lv_iload hx hb dX10_soft_52 (lv_at hl 5 rfl) ?_
            refine lv_iload_n hx hb dX10_soft_54 rfl (lv_at hl 1 rfl) ?_
            refine xj_i (wc := (rW h cs I L (va_up A 16 f16_20) Q)) (wr := ([] : va_W)) hP hD hS hA [0, 1, 2, 3, 4, 5, 6, 7, 8, 9, 10, 11, 12, 13, 14, 15, 16] [] rfl rfl (by decide +kernel) (by decide +kernel) (va_runV (As := [.int (nI k), .int (nI i_4)]) (rest := [.ref (h 0)]) ⟨hx, hb, hml, hown, hts⟩ (k_X10_letter l dC dI h cs H.size I L (va_up A 16 f16_20) Q k i_4 M a (by first | assumption | omega) (by first | assumption | omega) hM (by first | assumption | omega | exact hM1) (by first | assumption | omega | exact hM4) ha (by first | assumption | omega | exact ha2)) (cwV 2 hts gX10_soft_X10_letter rfl rfl rfl (by decide +kernel) ⟨Nat.le_of_ble_eq_true rfl, Nat.le_of_ble_eq_true rfl⟩) (xpV (wc := (rW h cs I L (va_up A 16 f16_20) Q)) hP hD hK hN [0, 1, 2, 3, 4, 5, 6, 7, 8, 9, 10, 11, 12, 13, 14, 15, 16] rfl (by decide) 0 (ci := 10) rfl rfl _) rfl rfl hl.1 rfl (lv_room (Nat.le_of_ble_eq_true rfl)) dX10_soft_55 ⟨Nat.zero_le _, Nat.zero_le _⟩) (fun r_27 u_26 H locs hw hP hD hS => ?_)
            obtain ⟨hf_28, rfl⟩ := hw
            have hP : va_P (dC, dI) vwCl (rW h cs I L (va_up A 16 f16_20) Q) H := hP
            have hD : va_D A0 (rW h cs I L (va_up A 16 f16_20) Q) := hD
            obtain rfl := hf_28
            refine lv_iload_n hx hb dX10_soft_58 rfl (lv_at hl 2 rfl) ?_
            refine xj_i (wc := (rW h cs I L (va_up A 16 f16_20) Q)) (wr := ([] : va_W)) hP hD hS hA [0, 1, 2, 3, 4, 5, 6, 7, 8, 9, 10, 11, 12, 13, 14, 15, 16] [] rfl rfl (by decide +kernel) (by decide +kernel) (va_runV (As := [.int (lettr a (k / a ^ (M - 1 - i_4))), .int (nI i_12)]) (rest := []) ⟨hx, hb, hml, hown, hts⟩ (k_X10_bit l dC dI h cs H.size I L (va_up A 16 f16_20) Q (lettr a (k / a ^ (M - 1 - i_4))) i_12 (by first | assumption | omega)) (cwV 2 hts gX10_soft_X10_bit rfl rfl rfl (by decide +kernel) ⟨Nat.le_of_ble_eq_true rfl, Nat.le_of_ble_eq_true rfl⟩) (xpV (wc := (rW h cs I L (va_up A 16 f16_20) Q)) hP hD hK hN [0, 1, 2, 3, 4, 5, 6, 7, 8, 9, 10, 11, 12, 13, 14, 15, 16] rfl (by decide) 0 (ci := 10) rfl rfl _) rfl rfl hl.1 rfl (lv_room (Nat.le_of_ble_eq_true rfl)) dX10_soft_59 ⟨Nat.zero_le _, Nat.zero_le _⟩) (fun r_30 u_29 H locs hw hP hD hS => ?_)
            obtain ⟨hf_31, rfl⟩ := hw
            have hP : va_P (dC, dI) vwCl (rW h cs I L (va_up A 16 f16_20) Q) H := hP
            have hD : va_D A0 (rW h cs I L (va_up A 16 f16_20) Q) := hD
            obtain rfl := hf_31
            refine lv_if_ne (tgt := 95) hx hb dX10_soft_62 (by decide) (fun c_62_31 => ?_) (fun c_62_31 => ?_)
            · skip
              have hbt : ¬ bitW a M i_4 i_12 k = nI 0 := c_62_31
              refine lv_iload hx hb dX10_soft_95 (lv_at hl 4 rfl) ?_
              refine lv_if_lt (tgt := 112) hx hb dX10_soft_97 (by decide) (fun c_97_32 => ?_) (fun c_97_32 => ?_)
              · skip
                refine lv_aload_n hx hb dX10_soft_112 rfl (lv_at hl 0 rfl) ?_
                refine va_get (D := (dC, dI)) (ci := 10) (v := .ref (h 16)) (C := RX10) (T := TX10) (N := 28) hx hb hts hinX10 hown hK hP 0 rfl rfl 16 (by decide) (hts (.fieldLink RX10 38 "MixedWordsModel" "offs" "[I") (by decide +kernel)) (fun _ h9 => h9) rfl dX10_soft_113 ?_
                refine lv_iload hx hb dX10_soft_116 (lv_at hl 5 rfl) ?_
                refine xa_iald hx hb hK hP 7 0 rfl rfl (by omega) (by decide) dX10_soft_118 ?_
                refine lv_goto (tgt := 124) hx hb dX10_soft_119 (by decide) ?_
                refine lv_istore (lv' := [(4, .int (f16_20 k)), (0, .ref (h 0)), (1, .int (nI i_4)), (2, .int (nI i_12)), (3, .int z3), (5, .int (nI k))]) hx hb dX10_soft_124 hl (by decide) rfl (fun ls hl => ?_)
                refine lv_iinc (v := nI (k + 1)) (lv' := [(5, .int (nI (k + 1))), (4, .int (f16_20 k)), (0, .ref (h 0)), (1, .int (nI i_4)), (2, .int (nI i_12)), (3, .int z3)]) hx hb dX10_soft_126 hl (k := 5) rfl (nI_1 _) (by decide) rfl (fun ls hl => ?_)
                refine lv_goto (tgt := 41) hx hb dX10_soft_129 (by decide) ?_
                exact ih_41 (k + 1) z3 (f16_20 k) (by omega) (by first | assumption | omega) (by first | rfl | exact s0_a (bt := bitW a M i_4 i_12) (by assumption) h3_41 (by assumption) | exact s0_b (bt := bitW a M i_4 i_12) (by assumption) h3_41 (by assumption) | exact s0_c (bt := bitW a M i_4 i_12) (by assumption) h3_41 (by assumption) (by assumption) | exact s0_d (bt := bitW a M i_4 i_12) (by assumption) h3_41) (by first | rfl | exact s1_a (bt := bitW a M i_4 i_12) (by assumption) h4_41 (by assumption) | exact s1_b (bt := bitW a M i_4 i_12) (by assumption) h4_41 (by assumption) | exact s1_c (bt := bitW a M i_4 i_12) (by assumption) h4_41 (by assumption) (by assumption) | exact s1_d (bt := bitW a M i_4 i_12) (by assumption) h4_41) _ _ _ hP hD hS (lv_sub hl [2, 3, 4, 5, 1, 0] rfl)
              · skip
                refine lv_aload_n hx hb dX10_soft_100 rfl (lv_at hl 0 rfl) ?_
                refine va_get (D := (dC, dI)) (ci := 10) (v := .ref (h 16)) (C := RX10) (T := TX10) (N := 28) hx hb hts hinX10 hown hK hP 0 rfl rfl 16 (by decide) (hts (.fieldLink RX10 38 "MixedWordsModel" "offs" "[I") (by decide +kernel)) (fun _ h9 => h9) rfl dX10_soft_101 ?_
                refine lv_iload hx hb dX10_soft_104 (lv_at hl 5 rfl) ?_
                refine xa_iald hx hb hK hP 7 0 rfl rfl (by omega) (by decide) dX10_soft_106 ?_
                refine lv_iload hx hb dX10_soft_107 (lv_at hl 4 rfl) ?_
                refine lv_icmp_ge (tgt := 122) hx hb dX10_soft_109 (by decide) (fun c_109_33 => ?_) (fun c_109_33 => ?_)
                · skip
                  refine lv_iload hx hb dX10_soft_122 (lv_at hl 4 rfl) ?_
                  refine lv_istore (lv' := [(4, .int z4), (0, .ref (h 0)), (1, .int (nI i_4)), (2, .int (nI i_12)), (3, .int z3), (5, .int (nI k))]) hx hb dX10_soft_124 hl (by decide) rfl (fun ls hl => ?_)
                  refine lv_iinc (v := nI (k + 1)) (lv' := [(5, .int (nI (k + 1))), (4, .int z4), (0, .ref (h 0)), (1, .int (nI i_4)), (2, .int (nI i_12)), (3, .int z3)]) hx hb dX10_soft_126 hl (k := 5) rfl (nI_1 _) (by decide) rfl (fun ls hl => ?_)
                  refine lv_goto (tgt := 41) hx hb dX10_soft_129 (by decide) ?_
                  exact ih_41 (k + 1) z3 z4 (by omega) (by first | assumption | omega) (by first | rfl | exact s0_a (bt := bitW a M i_4 i_12) (by assumption) h3_41 (by assumption) | exact s0_b (bt := bitW a M i_4 i_12) (by assumption) h3_41 (by assumption) | exact s0_c (bt := bitW a M i_4 i_12) (by assumption) h3_41 (by assumption) (by assumption) | exact s0_d (bt := bitW a M i_4 i_12) (by assumption) h3_41) (by first | rfl | exact s1_a (bt := bitW a M i_4 i_12) (by assumption) h4_41 (by assumption) | exact s1_b (bt := bitW a M i_4 i_12) (by assumption) h4_41 (by assumption) | exact s1_c (bt := bitW a M i_4 i_12) (by assumption) h4_41 (by assumption) (by assumption) | exact s1_d (bt := bitW a M i_4 i_12) (by assumption) h4_41) _ _ _ hP hD hS (lv_sub hl [2, 3, 4, 5, 1, 0] rfl)
                · skip
                  refine lv_aload_n hx hb dX10_soft_112 rfl (lv_at hl 0 rfl) ?_
                  refine va_get (D := (dC, dI)) (ci := 10) (v := .ref (h 16)) (C := RX10) (T := TX10) (N := 28) hx hb hts hinX10 hown hK hP 0 rfl rfl 16 (by decide) (hts (.fieldLink RX10 38 "MixedWordsModel" "offs" "[I") (by decide +kernel)) (fun _ h9 => h9) rfl dX10_soft_113 ?_
                  refine lv_iload hx hb dX10_soft_116 (lv_at hl 5 rfl) ?_
                  refine xa_iald hx hb hK hP 7 0 rfl rfl (by omega) (by decide) dX10_soft_118 ?_
                  refine lv_goto (tgt := 124) hx hb dX10_soft_119 (by decide) ?_
                  refine lv_istore (lv' := [(4, .int (f16_20 k)), (0, .ref (h 0)), (1, .int (nI i_4)), (2, .int (nI i_12)), (3, .int z3), (5, .int (nI k))]) hx hb dX10_soft_124 hl (by decide) rfl (fun ls hl => ?_)
                  refine lv_iinc (v := nI (k + 1)) (lv' := [(5, .int (nI (k + 1))), (4, .int (f16_20 k)), (0, .ref (h 0)), (1, .int (nI i_4)), (2, .int (nI i_12)), (3, .int z3)]) hx hb dX10_soft_126 hl (k := 5) rfl (nI_1 _) (by decide) rfl (fun ls hl => ?_)
                  refine lv_goto (tgt := 41) hx hb dX10_soft_129 (by decide) ?_
                  exact ih_41 (k + 1) z3 (f16_20 k) (by omega) (by first | assumption | omega) (by first | rfl | exact s0_a (bt := bitW a M i_4 i_12) (by assumption) h3_41 (by assumption) | exact s0_b (bt := bitW a M i_4 i_12) (by assumption) h3_41 (by assumption) | exact s0_c (bt := bitW a M i_4 i_12) (by assumption) h3_41 (by assumption) (by assumption) | exact s0_d (bt := bitW a M i_4 i_12) (by assumption) h3_41) (by first | rfl | exact s1_a (bt := bitW a M i_4 i_12) (by assumption) h4_41 (by assumption) | exact s1_b (bt := bitW a M i_4 i_12) (by assumption) h4_41 (by assumption) | exact s1_c (bt := bitW a M i_4 i_12) (by assumption) h4_41 (by assumption) (by assumption) | exact s1_d (bt := bitW a M i_4 i_12) (by assumption) h4_41) _ _ _ hP hD hS (lv_sub hl [2, 3, 4, 5, 1, 0] rfl)
            · skip
              have hbt : bitW a M i_4 i_12 k = nI 0 := c_62_31
              refine lv_iload_n hx hb dX10_soft_65 rfl (lv_at hl 3 rfl) ?_
              refine lv_if_lt (tgt := 80) hx hb dX10_soft_66 (by decide) (fun c_66_34 => ?_) (fun c_66_34 => ?_)
              · skip
                refine lv_aload_n hx hb dX10_soft_80 rfl (lv_at hl 0 rfl) ?_
                refine va_get (D := (dC, dI)) (ci := 10) (v := .ref (h 16)) (C := RX10) (T := TX10) (N := 28) hx hb hts hinX10 hown hK hP 0 rfl rfl 16 (by decide) (hts (.fieldLink RX10 38 "MixedWordsModel" "offs" "[I") (by decide +kernel)) (fun _ h9 => h9) rfl dX10_soft_81 ?_
                refine lv_iload hx hb dX10_soft_84 (lv_at hl 5 rfl) ?_
                refine xa_iald hx hb hK hP 7 0 rfl rfl (by omega) (by decide) dX10_soft_86 ?_
                refine lv_goto (tgt := 91) hx hb dX10_soft_87 (by decide) ?_
                refine lv_istore_n (lv' := [(3, .int (f16_20 k)), (0, .ref (h 0)), (1, .int (nI i_4)), (2, .int (nI i_12)), (4, .int z4), (5, .int (nI k))]) hx hb dX10_soft_91 rfl hl (by decide) rfl (fun ls hl => ?_)
                refine lv_goto (tgt := 126) hx hb dX10_soft_92 (by decide) ?_
                refine lv_iinc (v := nI (k + 1)) (lv' := [(5, .int (nI (k + 1))), (3, .int (f16_20 k)), (0, .ref (h 0)), (1, .int (nI i_4)), (2, .int (nI i_12)), (4, .int z4)]) hx hb dX10_soft_126 hl (k := 5) rfl (nI_1 _) (by decide) rfl (fun ls hl => ?_)
                refine lv_goto (tgt := 41) hx hb dX10_soft_129 (by decide) ?_
                exact ih_41 (k + 1) (f16_20 k) z4 (by omega) (by first | assumption | omega) (by first | rfl | exact s0_a (bt := bitW a M i_4 i_12) (by assumption) h3_41 (by assumption) | exact s0_b (bt := bitW a M i_4 i_12) (by assumption) h3_41 (by assumption) | exact s0_c (bt := bitW a M i_4 i_12) (by assumption) h3_41 (by assumption) (by assumption) | exact s0_d (bt := bitW a M i_4 i_12) (by assumption) h3_41) (by first | rfl | exact s1_a (bt := bitW a M i_4 i_12) (by assumption) h4_41 (by assumption) | exact s1_b (bt := bitW a M i_4 i_12) (by assumption) h4_41 (by assumption) | exact s1_c (bt := bitW a M i_4 i_12) (by assumption) h4_41 (by assumption) (by assumption) | exact s1_d (bt := bitW a M i_4 i_12) (by assumption) h4_41) _ _ _ hP hD hS (lv_sub hl [2, 3, 4, 1, 5, 0] rfl)
              · skip
                refine lv_aload_n hx hb dX10_soft_69 rfl (lv_at hl 0 rfl) ?_
                refine va_get (D := (dC, dI)) (ci := 10) (v := .ref (h 16)) (C := RX10) (T := TX10) (N := 28) hx hb hts hinX10 hown hK hP 0 rfl rfl 16 (by decide) (hts (.fieldLink RX10 38 "MixedWordsModel" "offs" "[I") (by decide +kernel)) (fun _ h9 => h9) rfl dX10_soft_70 ?_
                refine lv_iload hx hb dX10_soft_73 (lv_at hl 5 rfl) ?_
                refine xa_iald hx hb hK hP 7 0 rfl rfl (by omega) (by decide) dX10_soft_75 ?_
                refine lv_iload_n hx hb dX10_soft_76 rfl (lv_at hl 3 rfl) ?_
                refine lv_icmp_ge (tgt := 90) hx hb dX10_soft_77 (by decide) (fun c_77_35 => ?_) (fun c_77_35 => ?_)
                · skip
                  refine lv_iload_n hx hb dX10_soft_90 rfl (lv_at hl 3 rfl) ?_
                  refine lv_istore_n (lv' := [(3, .int z3), (0, .ref (h 0)), (1, .int (nI i_4)), (2, .int (nI i_12)), (4, .int z4), (5, .int (nI k))]) hx hb dX10_soft_91 rfl hl (by decide) rfl (fun ls hl => ?_)
                  refine lv_goto (tgt := 126) hx hb dX10_soft_92 (by decide) ?_
                  refine lv_iinc (v := nI (k + 1)) (lv' := [(5, .int (nI (k + 1))), (3, .int z3), (0, .ref (h 0)), (1, .int (nI i_4)), (2, .int (nI i_12)), (4, .int z4)]) hx hb dX10_soft_126 hl (k := 5) rfl (nI_1 _) (by decide) rfl (fun ls hl => ?_)
                  refine lv_goto (tgt := 41) hx hb dX10_soft_129 (by decide) ?_
                  exact ih_41 (k + 1) z3 z4 (by omega) (by first | assumption | omega) (by first | rfl | exact s0_a (bt := bitW a M i_4 i_12) (by assumption) h3_41 (by assumption) | exact s0_b (bt := bitW a M i_4 i_12) (by assumption) h3_41 (by assumption) | exact s0_c (bt := bitW a M i_4 i_12) (by assumption) h3_41 (by assumption) (by assumption) | exact s0_d (bt := bitW a M i_4 i_12) (by assumption) h3_41) (by first | rfl | exact s1_a (bt := bitW a M i_4 i_12) (by assumption) h4_41 (by assumption) | exact s1_b (bt := bitW a M i_4 i_12) (by assumption) h4_41 (by assumption) | exact s1_c (bt := bitW a M i_4 i_12) (by assumption) h4_41 (by assumption) (by assumption) | exact s1_d (bt := bitW a M i_4 i_12) (by assumption) h4_41) _ _ _ hP hD hS (lv_sub hl [2, 3, 4, 1, 5, 0] rfl)
                · skip
                  refine lv_aload_n hx hb dX10_soft_80 rfl (lv_at hl 0 rfl) ?_
                  refine va_get (D := (dC, dI)) (ci := 10) (v := .ref (h 16)) (C := RX10) (T := TX10) (N := 28) hx hb hts hinX10 hown hK hP 0 rfl rfl 16 (by decide) (hts (.fieldLink RX10 38 "MixedWordsModel" "offs" "[I") (by decide +kernel)) (fun _ h9 => h9) rfl dX10_soft_81 ?_
                  refine lv_iload hx hb dX10_soft_84 (lv_at hl 5 rfl) ?_
                  refine xa_iald hx hb hK hP 7 0 rfl rfl (by omega) (by decide) dX10_soft_86 ?_
                  refine lv_goto (tgt := 91) hx hb dX10_soft_87 (by decide) ?_
                  refine lv_istore_n (lv' := [(3, .int (f16_20 k)), (0, .ref (h 0)), (1, .int (nI i_4)), (2, .int (nI i_12)), (4, .int z4), (5, .int (nI k))]) hx hb dX10_soft_91 rfl hl (by decide) rfl (fun ls hl => ?_)
                  refine lv_goto (tgt := 126) hx hb dX10_soft_92 (by decide) ?_
                  refine lv_iinc (v := nI (k + 1)) (lv' := [(5, .int (nI (k + 1))), (3, .int (f16_20 k)), (0, .ref (h 0)), (1, .int (nI i_4)), (2, .int (nI i_12)), (4, .int z4)]) hx hb dX10_soft_126 hl (k := 5) rfl (nI_1 _) (by decide) rfl (fun ls hl => ?_)
                  refine lv_goto (tgt := 41) hx hb dX10_soft_129 (by decide) ?_
                  exact ih_41 (k + 1) (f16_20 k) z4 (by omega) (by first | assumption | omega) (by first | rfl | exact s0_a (bt := bitW a M i_4 i_12) (by assumption) h3_41 (by assumption) | exact s0_b (bt := bitW a M i_4 i_12) (by assumption) h3_41 (by assumption) | exact s0_c (bt := bitW a M i_4 i_12) (by assumption) h3_41 (by assumption) (by assumption) | exact s0_d (bt := bitW a M i_4 i_12) (by assumption) h3_41) (by first | rfl | exact s1_a (bt := bitW a M i_4 i_12) (by assumption) h4_41 (by assumption) | exact s1_b (bt := bitW a M i_4 i_12) (by assumption) h4_41 (by assumption) | exact s1_c (bt := bitW a M i_4 i_12) (by assumption) h4_41 (by assumption) (by assumption) | exact s1_d (bt := bitW a M i_4 i_12) (by assumption) h4_41) _ _ _ hP hD hS (lv_sub hl [2, 3, 4, 1, 5, 0] rfl)
      exact cut_41 _ 0 (-1) (-1) (Nat.lt_succ_self _) (by first | assumption | omega) (by first | rfl | exact s0_a (bt := bitW a M i_4 i_12) (by assumption) h3_41 (by assumption) | exact s0_b (bt := bitW a M i_4 i_12) (by assumption) h3_41 (by assumption) | exact s0_c (bt := bitW a M i_4 i_12) (by assumption) h3_41 (by assumption) (by assumption) | exact s0_d (bt := bitW a M i_4 i_12) (by assumption) h3_41) (by first | rfl | exact s1_a (bt := bitW a M i_4 i_12) (by assumption) h4_41 (by assumption) | exact s1_b (bt := bitW a M i_4 i_12) (by assumption) h4_41 (by assumption) | exact s1_c (bt := bitW a M i_4 i_12) (by assumption) h4_41 (by assumption) (by assumption) | exact s1_d (bt := bitW a M i_4 i_12) (by assumption) h4_41) _ _ _ hP hD hS (lv_sub hl [3, 4, 5, 2, 1, 0] rfl)
    · skip
      refine xs_neF (tgt := 29) hx hb dX10_soft_23 (by decide) (by decide) ?_
      refine lv_ldc (v := (-100000001)) hx hb hown (hts (.constant RX10 168 (-100000001)) (by decide +kernel)) dX10_soft_26 ?_
      exact xr_i (v := (-100000001 : Int32)) hx hb hr hlocks hK hS dX10_soft_28 (I, L, (va_up A 16 (A 16)), Q) ⟨(A 16), (Or.inr ⟨rfl, fun i j a9 b9 c9 d9 => hn_16 j (by omega) (by omega) (by omega) d9, rfl⟩), rfl⟩ hP hD
  · skip
    refine xs_eqT (tgt := 26) hx hb dX10_soft_5 (by decide) (by decide) ?_
    refine lv_ldc (v := (-100000001)) hx hb hown (hts (.constant RX10 168 (-100000001)) (by decide +kernel)) dX10_soft_26 ?_
    exact xr_i (v := (-100000001 : Int32)) hx hb hr hlocks hK hS dX10_soft_28 (I, L, (va_up A 16 (A 16)), Q) ⟨(A 16), (Or.inr ⟨rfl, fun i j a9 b9 c9 d9 => hn_7 i a9 c9, rfl⟩), rfl⟩ hP hD
theorem bdX10_lay_0 : (decode cX10_lay 0 = .ok (.iconst 0, 1)) ∧ (decode cX10_lay 1 = .ok (.istore_n 1, 1)) ∧ (decode cX10_lay 2 = .ok (.iload_n 1, 1)) ∧ (decode cX10_lay 3 = .ok (.iconst 4, 1)) ∧ (decode cX10_lay 4 = .ok (.if_icmp .ge 95, 3)) ∧ (decode cX10_lay 7 = .ok (.iconst 0, 1)) ∧ (decode cX10_lay 8 = .ok (.istore_n 2, 1)) ∧ (decode cX10_lay 9 = .ok (.iload_n 2, 1)) ∧ (decode cX10_lay 10 = .ok (.iconst 5, 1)) ∧ (decode cX10_lay 11 = .ok (.if_icmp .ge 49, 3)) ∧ (decode cX10_lay 14 = .ok (.aload_n 0, 1)) ∧ (decode cX10_lay 15 = .ok (.getfield 41, 3)) ∧ (decode cX10_lay 18 = .ok (.iconst 5, 1)) ∧ (decode cX10_lay 19 = .ok (.iload_n 1, 1)) ∧ (decode cX10_lay 20 = .ok (.imul, 1)) ∧ (decode cX10_lay 21 = .ok (.iload_n 2, 1)) := by decide +kernel
theorem dX10_lay_0 : decode cX10_lay 0 = .ok (.iconst 0, 1) := bdX10_lay_0.1
theorem dX10_lay_1 : decode cX10_lay 1 = .ok (.istore_n 1, 1) := bdX10_lay_0.2.1
theorem dX10_lay_2 : decode cX10_lay 2 = .ok (.iload_n 1, 1) := bdX10_lay_0.2.2.1
theorem dX10_lay_3 : decode cX10_lay 3 = .ok (.iconst 4, 1) := bdX10_lay_0.2.2.2.1
theorem dX10_lay_4 : decode cX10_lay 4 = .ok (.if_icmp .ge 95, 3) := bdX10_lay_0.2.2.2.2.1
theorem dX10_lay_7 : decode cX10_lay 7 = .ok (.iconst 0, 1) := bdX10_lay_0.2.2.2.2.2.1
theorem dX10_lay_8 : decode cX10_lay 8 = .ok (.istore_n 2, 1) := bdX10_lay_0.2.2.2.2.2.2.1
theorem dX10_lay_9 : decode cX10_lay 9 = .ok (.iload_n 2, 1) := bdX10_lay_0.2.2.2.2.2.2.2.1
theorem dX10_lay_10 : decode cX10_lay 10 = .ok (.iconst 5, 1) := bdX10_lay_0.2.2.2.2.2.2.2.2.1
theorem dX10_lay_11 : decode cX10_lay 11 = .ok (.if_icmp .ge 49, 3) := bdX10_lay_0.2.2.2.2.2.2.2.2.2.1
theorem dX10_lay_14 : decode cX10_lay 14 = .ok (.aload_n 0, 1) := bdX10_lay_0.2.2.2.2.2.2.2.2.2.2.1
theorem dX10_lay_15 : decode cX10_lay 15 = .ok (.getfield 41, 3) := bdX10_lay_0.2.2.2.2.2.2.2.2.2.2.2.1
theorem dX10_lay_18 : decode cX10_lay 18 = .ok (.iconst 5, 1) := bdX10_lay_0.2.2.2.2.2.2.2.2.2.2.2.2.1
theorem dX10_lay_19 : decode cX10_lay 19 = .ok (.iload_n 1, 1) := bdX10_lay_0.2.2.2.2.2.2.2.2.2.2.2.2.2.1
theorem dX10_lay_20 : decode cX10_lay 20 = .ok (.imul, 1) := bdX10_lay_0.2.2.2.2.2.2.2.2.2.2.2.2.2.2.1
theorem dX10_lay_21 : decode cX10_lay 21 = .ok (.iload_n 2, 1) := bdX10_lay_0.2.2.2.2.2.2.2.2.2.2.2.2.2.2.2
theorem bdX10_lay_22 : (decode cX10_lay 22 = .ok (.iadd, 1)) ∧ (decode cX10_lay 23 = .ok (.iload_n 1, 1)) ∧ (decode cX10_lay 24 = .ok (.aload_n 0, 1)) ∧ (decode cX10_lay 25 = .ok (.getfield 13, 3)) ∧ (decode cX10_lay 28 = .ok (.if_icmp .ge 24, 3)) ∧ (decode cX10_lay 31 = .ok (.iload_n 2, 1)) ∧ (decode cX10_lay 32 = .ok (.aload_n 0, 1)) ∧ (decode cX10_lay 33 = .ok (.getfield 7, 3)) ∧ (decode cX10_lay 36 = .ok (.if_icmp .ge 16, 3)) ∧ (decode cX10_lay 39 = .ok (.aload_n 0, 1)) ∧ (decode cX10_lay 40 = .ok (.getfield 19, 3)) ∧ (decode cX10_lay 43 = .ok (.iconst 5, 1)) ∧ (decode cX10_lay 44 = .ok (.iload_n 2, 1)) ∧ (decode cX10_lay 45 = .ok (.imul, 1)) ∧ (decode cX10_lay 46 = .ok (.iload_n 1, 1)) ∧ (decode cX10_lay 47 = .ok (.iadd, 1)) := by decide +kernel
theorem dX10_lay_22 : decode cX10_lay 22 = .ok (.iadd, 1) := bdX10_lay_22.1
theorem dX10_lay_23 : decode cX10_lay 23 = .ok (.iload_n 1, 1) := bdX10_lay_22.2.1
theorem dX10_lay_24 : decode cX10_lay 24 = .ok (.aload_n 0, 1) := bdX10_lay_22.2.2.1
theorem dX10_lay_25 : decode cX10_lay 25 = .ok (.getfield 13, 3) := bdX10_lay_22.2.2.2.1
theorem dX10_lay_28 : decode cX10_lay 28 = .ok (.if_icmp .ge 24, 3) := bdX10_lay_22.2.2.2.2.1
theorem dX10_lay_31 : decode cX10_lay 31 = .ok (.iload_n 2, 1) := bdX10_lay_22.2.2.2.2.2.1
theorem dX10_lay_32 : decode cX10_lay 32 = .ok (.aload_n 0, 1) := bdX10_lay_22.2.2.2.2.2.2.1
theorem dX10_lay_33 : decode cX10_lay 33 = .ok (.getfield 7, 3) := bdX10_lay_22.2.2.2.2.2.2.2.1
theorem dX10_lay_36 : decode cX10_lay 36 = .ok (.if_icmp .ge 16, 3) := bdX10_lay_22.2.2.2.2.2.2.2.2.1
theorem dX10_lay_39 : decode cX10_lay 39 = .ok (.aload_n 0, 1) := bdX10_lay_22.2.2.2.2.2.2.2.2.2.1
theorem dX10_lay_40 : decode cX10_lay 40 = .ok (.getfield 19, 3) := bdX10_lay_22.2.2.2.2.2.2.2.2.2.2.1
theorem dX10_lay_43 : decode cX10_lay 43 = .ok (.iconst 5, 1) := bdX10_lay_22.2.2.2.2.2.2.2.2.2.2.2.1
theorem dX10_lay_44 : decode cX10_lay 44 = .ok (.iload_n 2, 1) := bdX10_lay_22.2.2.2.2.2.2.2.2.2.2.2.2.1
theorem dX10_lay_45 : decode cX10_lay 45 = .ok (.imul, 1) := bdX10_lay_22.2.2.2.2.2.2.2.2.2.2.2.2.2.1
theorem dX10_lay_46 : decode cX10_lay 46 = .ok (.iload_n 1, 1) := bdX10_lay_22.2.2.2.2.2.2.2.2.2.2.2.2.2.2.1
theorem dX10_lay_47 : decode cX10_lay 47 = .ok (.iadd, 1) := bdX10_lay_22.2.2.2.2.2.2.2.2.2.2.2.2.2.2.2
theorem bdX10_lay_48 : (decode cX10_lay 48 = .ok (.iaload, 1)) ∧ (decode cX10_lay 49 = .ok (.goto 4, 3)) ∧ (decode cX10_lay 52 = .ok (.iconst 0, 1)) ∧ (decode cX10_lay 53 = .ok (.iastore, 1)) ∧ (decode cX10_lay 54 = .ok (.iinc 2 1, 3)) ∧ (decode cX10_lay 57 = .ok (.goto (-48), 3)) ∧ (decode cX10_lay 60 = .ok (.iconst 0, 1)) ∧ (decode cX10_lay 61 = .ok (.istore_n 2, 1)) ∧ (decode cX10_lay 62 = .ok (.iload_n 2, 1)) ∧ (decode cX10_lay 63 = .ok (.iconst 4, 1)) ∧ (decode cX10_lay 64 = .ok (.if_icmp .ge 29, 3)) ∧ (decode cX10_lay 67 = .ok (.aload_n 0, 1)) ∧ (decode cX10_lay 68 = .ok (.getfield 44, 3)) ∧ (decode cX10_lay 71 = .ok (.iconst 4, 1)) ∧ (decode cX10_lay 72 = .ok (.iload_n 2, 1)) ∧ (decode cX10_lay 73 = .ok (.imul, 1)) := by decide +kernel
theorem dX10_lay_48 : decode cX10_lay 48 = .ok (.iaload, 1) := bdX10_lay_48.1
theorem dX10_lay_49 : decode cX10_lay 49 = .ok (.goto 4, 3) := bdX10_lay_48.2.1
theorem dX10_lay_52 : decode cX10_lay 52 = .ok (.iconst 0, 1) := bdX10_lay_48.2.2.1
theorem dX10_lay_53 : decode cX10_lay 53 = .ok (.iastore, 1) := bdX10_lay_48.2.2.2.1
theorem dX10_lay_54 : decode cX10_lay 54 = .ok (.iinc 2 1, 3) := bdX10_lay_48.2.2.2.2.1
theorem dX10_lay_57 : decode cX10_lay 57 = .ok (.goto (-48), 3) := bdX10_lay_48.2.2.2.2.2.1
theorem dX10_lay_60 : decode cX10_lay 60 = .ok (.iconst 0, 1) := bdX10_lay_48.2.2.2.2.2.2.1
theorem dX10_lay_61 : decode cX10_lay 61 = .ok (.istore_n 2, 1) := bdX10_lay_48.2.2.2.2.2.2.2.1
theorem dX10_lay_62 : decode cX10_lay 62 = .ok (.iload_n 2, 1) := bdX10_lay_48.2.2.2.2.2.2.2.2.1
theorem dX10_lay_63 : decode cX10_lay 63 = .ok (.iconst 4, 1) := bdX10_lay_48.2.2.2.2.2.2.2.2.2.1
theorem dX10_lay_64 : decode cX10_lay 64 = .ok (.if_icmp .ge 29, 3) := bdX10_lay_48.2.2.2.2.2.2.2.2.2.2.1
theorem dX10_lay_67 : decode cX10_lay 67 = .ok (.aload_n 0, 1) := bdX10_lay_48.2.2.2.2.2.2.2.2.2.2.2.1
theorem dX10_lay_68 : decode cX10_lay 68 = .ok (.getfield 44, 3) := bdX10_lay_48.2.2.2.2.2.2.2.2.2.2.2.2.1
theorem dX10_lay_71 : decode cX10_lay 71 = .ok (.iconst 4, 1) := bdX10_lay_48.2.2.2.2.2.2.2.2.2.2.2.2.2.1
theorem dX10_lay_72 : decode cX10_lay 72 = .ok (.iload_n 2, 1) := bdX10_lay_48.2.2.2.2.2.2.2.2.2.2.2.2.2.2.1
theorem dX10_lay_73 : decode cX10_lay 73 = .ok (.imul, 1) := bdX10_lay_48.2.2.2.2.2.2.2.2.2.2.2.2.2.2.2
theorem bdX10_lay_74 : (decode cX10_lay 74 = .ok (.iload_n 1, 1)) ∧ (decode cX10_lay 75 = .ok (.iadd, 1)) ∧ (decode cX10_lay 76 = .ok (.iload_n 2, 1)) ∧ (decode cX10_lay 77 = .ok (.iload_n 1, 1)) ∧ (decode cX10_lay 78 = .ok (.if_icmp .ne 7, 3)) ∧ (decode cX10_lay 81 = .ok (.iconst 1, 1)) ∧ (decode cX10_lay 82 = .ok (.goto 4, 3)) ∧ (decode cX10_lay 85 = .ok (.iconst 0, 1)) ∧ (decode cX10_lay 86 = .ok (.iastore, 1)) ∧ (decode cX10_lay 87 = .ok (.iinc 2 1, 3)) ∧ (decode cX10_lay 90 = .ok (.goto (-28), 3)) ∧ (decode cX10_lay 93 = .ok (.iinc 1 1, 3)) ∧ (decode cX10_lay 96 = .ok (.goto (-94), 3)) ∧ (decode cX10_lay 99 = .ok (.return_, 1)) := by decide +kernel
theorem dX10_lay_74 : decode cX10_lay 74 = .ok (.iload_n 1, 1) := bdX10_lay_74.1
theorem dX10_lay_75 : decode cX10_lay 75 = .ok (.iadd, 1) := bdX10_lay_74.2.1
theorem dX10_lay_76 : decode cX10_lay 76 = .ok (.iload_n 2, 1) := bdX10_lay_74.2.2.1
theorem dX10_lay_77 : decode cX10_lay 77 = .ok (.iload_n 1, 1) := bdX10_lay_74.2.2.2.1
theorem dX10_lay_78 : decode cX10_lay 78 = .ok (.if_icmp .ne 7, 3) := bdX10_lay_74.2.2.2.2.1
theorem dX10_lay_81 : decode cX10_lay 81 = .ok (.iconst 1, 1) := bdX10_lay_74.2.2.2.2.2.1
theorem dX10_lay_82 : decode cX10_lay 82 = .ok (.goto 4, 3) := bdX10_lay_74.2.2.2.2.2.2.1
theorem dX10_lay_85 : decode cX10_lay 85 = .ok (.iconst 0, 1) := bdX10_lay_74.2.2.2.2.2.2.2.1
theorem dX10_lay_86 : decode cX10_lay 86 = .ok (.iastore, 1) := bdX10_lay_74.2.2.2.2.2.2.2.2.1
theorem dX10_lay_87 : decode cX10_lay 87 = .ok (.iinc 2 1, 3) := bdX10_lay_74.2.2.2.2.2.2.2.2.2.1
theorem dX10_lay_90 : decode cX10_lay 90 = .ok (.goto (-28), 3) := bdX10_lay_74.2.2.2.2.2.2.2.2.2.2.1
theorem dX10_lay_93 : decode cX10_lay 93 = .ok (.iinc 1 1, 3) := bdX10_lay_74.2.2.2.2.2.2.2.2.2.2.2.1
theorem dX10_lay_96 : decode cX10_lay 96 = .ok (.goto (-94), 3) := bdX10_lay_74.2.2.2.2.2.2.2.2.2.2.2.2.1
theorem dX10_lay_99 : decode cX10_lay 99 = .ok (.return_, 1) := bdX10_lay_74.2.2.2.2.2.2.2.2.2.2.2.2.2
set_option maxHeartbeats 4000000 in
set_option maxRecDepth 100000 in
theorem k_X10_lay (l : Launch) (dC : Nat → ClassId) (dI : Nat → Nat → Nat) (h : Nat → Nat) (cs : Nat → ClassId) (sz : Nat) (I : Nat → Int32) (L : Nat → Int64) (A : Nat → Nat → Int32) (Q : Nat → Nat → Int64) (R M : Nat) (hR : I 0 = nI R) (hR1 : 1 ≤ R) (hR5 : R ≤ 5) (hM : I 1 = nI M) (hM1 : 1 ≤ M) (hM4 : M ≤ 4) : Met l yX10_lay wsX10_lay ({ frames := 0, cells := 0, slots := 0, locals := 0 }) (va_Pc [.ref (h 0)] (xPre (dC, dI) (rW h cs I L A Q) (tysA cs) sz)) (va_Qv (fun (u : RS) => ∃ f17 : Nat → Int32, ∃ f18 : Nat → Int32, (laid (A 3) R M f17 f18) ∧ u = (I, L, (va_up (va_up A 17 f17) 18 f18), Q)) (xB (dC, dI) (tysA cs) (va_A (rW h cs I L A Q) sz) (fun u : RS => rW h cs u.1 u.2.1 u.2.2.1 u.2.2.2)) (va_A (rW h cs I L A Q) sz)) 0 0 (va_A (rW h cs I L A Q) sz) := by
  refine Met.ofW (cc := cX10_lay) (maxL := 3) (ret := none) (by decide) rfl ?_
  intro p e s m args below meth c s₁ B hml hv
  obtain ⟨rfl, hsz, hP, hK, hD0, hN⟩ := hv
  have hx := B.exec
  have hb := B.bytes
  have hr := B.returns
  have hts := atoms_spec (ws := wsX10_lay) B.pre
  have hown : s.vm.findClass RX10 = some m.cls := findClass_of_methodNamed B.named
  have hlocks := B.notSynchronized
  subst hsz
  have hD := hD0.self (sz := s.heap.size)
  generalize hAe : va_A (rW h cs I L A Q) s.heap.size = A0 at hD ⊢
  have hA : ∀ q : Nat, s.heap.size ≤ q → A0 q := fun q h => by rw [← hAe]; exact Or.inr h
  have hl := lv_entry ([.ref (h 0)]) (n := 3) (Nat.le_of_ble_eq_true rfl)
  rw [lg_entry_eq]
  generalize (lg_sl ([.ref (h 0)]) ++ List.replicate (3 - (lg_sl ([.ref (h 0)])).length) Slot.unset).toArray = ls at hl ⊢
  have hl : lv_has ls 3 [(0, .ref (h 0))] := hl
  generalize hH : s.heap = H at hP ⊢
  have hS : va_S A0 s.heap H [] := by rw [← hH]; exact va_S.rf
  have hinX10 : ∀ w ∈ wsX100, w ∈ wsX10_lay := by decide +kernel
  refine lv_iconst (v := nI 0) hx hb dX10_lay_0 (by decide) ?_
  refine lv_istore_n (lv' := [(1, .int (nI 0)), (0, .ref (h 0))]) hx hb dX10_lay_1 rfl hl (by decide) rfl (fun ls hl => ?_)
  have cut_2 : ∀ (nf : Nat) (c1 : Nat) (g7 : Nat → Int32) (g8 : Nat → Int32), (4 - c1) < nf → (c1 ≤ 4) → (∀ q : Nat, q < 5 * c1 → g7 q = colF (A 3) R M (q / 5) (q % 5)) → (∀ i j : Nat, i < 4 → j < c1 → g8 (4 * i + j) = if i = j then nI 1 else nI 0) → ∀ (H : Heap) (locs : List Loc) (ls : Array Slot), va_P (dC, dI) vwCl (rW h cs I L (va_up (va_up A 17 g7) 18 g8) Q) H → va_D A0 (rW h cs I L (va_up (va_up A 17 g7) 18 g8) Q) → va_S A0 s.heap H locs → lv_has ls 3 [(0, .ref (h 0)), (1, .int (nI c1))] → W p l e (headSpec wsX10_lay ({ frames := 0, cells := 0, slots := 0, locals := 0 })).room s m ([.ref (h 0)] : List Value).toArray below meth c H locs 0 0 (MQ below (va_Qv (fun (u : RS) => ∃ f17 : Nat → Int32, ∃ f18 : Nat → Int32, (laid (A 3) R M f17 f18) ∧ u = (I, L, (va_up (va_up A 17 f17) 18 f18), Q)) (xB (dC, dI) (tysA cs) A0 (fun u : RS => rW h cs u.1 u.2.1 u.2.2.1 u.2.2.2)) A0) ([.ref (h 0)] : List Value).toArray s 0 0 A0) (F0 m 2 ls []) := by
    intro nf
    induction nf with
    | zero => intro c1 g7 g8 hm; exact absurd hm (Nat.not_lt_zero _)
    | succ nf ih_2 =>
      intro c1 g7 g8 hm_2 hc_2 h7_2 h8_2 H locs ls hP hD hS hl
      refine lv_iload_n hx hb dX10_lay_2 rfl (lv_at hl 1 rfl) ?_
      refine lv_iconst (v := nI 4) hx hb dX10_lay_3 (by decide) ?_
      refine xn_ge (tgt := 99) hx hb dX10_lay_4 (by decide) (by omega) (by omega) (fun c_4_0 => ?_) (fun c_4_0 => ?_)
      · skip
        exact xr_v hx hb hr hlocks hK hS dX10_lay_99 (I, L, (va_up (va_up A 17 g7) 18 g8), Q) ⟨g7, g8, ⟨fun q hq => h7_2 q (by omega), fun k c hk hc => h8_2 k c hk (by omega)⟩, rfl⟩ hP hD
      · skip
        refine lv_iconst (v := nI 0) hx hb dX10_lay_7 (by decide) ?_
        refine lv_istore_n (lv' := [(2, .int (nI 0)), (0, .ref (h 0)), (1, .int (nI c1))]) hx hb dX10_lay_8 rfl hl (by decide) rfl (fun ls hl => ?_)
        have cut_9 : ∀ (nf : Nat) (r2 : Nat) (g9 : Nat → Int32), (5 - r2) < nf → (r2 ≤ 5) → (∀ q : Nat, q < 5 * c1 + r2 → g9 q = colF (A 3) R M (q / 5) (q % 5)) → ∀ (H : Heap) (locs : List Loc) (ls : Array Slot), va_P (dC, dI) vwCl (rW h cs I L (va_up (va_up A 18 g8) 17 g9) Q) H → va_D A0 (rW h cs I L (va_up (va_up A 18 g8) 17 g9) Q) → va_S A0 s.heap H locs → lv_has ls 3 [(0, .ref (h 0)), (1, .int (nI c1)), (2, .int (nI r2))] → W p l e (headSpec wsX10_lay ({ frames := 0, cells := 0, slots := 0, locals := 0 })).room s m ([.ref (h 0)] : List Value).toArray below meth c H locs 0 0 (MQ below (va_Qv (fun (u : RS) => ∃ f17 : Nat → Int32, ∃ f18 : Nat → Int32, (laid (A 3) R M f17 f18) ∧ u = (I, L, (va_up (va_up A 17 f17) 18 f18), Q)) (xB (dC, dI) (tysA cs) A0 (fun u : RS => rW h cs u.1 u.2.1 u.2.2.1 u.2.2.2)) A0) ([.ref (h 0)] : List Value).toArray s 0 0 A0) (F0 m 9 ls []) := by
          intro nf
          induction nf with
          | zero => intro r2 g9 hm; exact absurd hm (Nat.not_lt_zero _)
          | succ nf ih_9 =>
            intro r2 g9 hm_9 hr_9 h7_9 H locs ls hP hD hS hl
            refine lv_iload_n hx hb dX10_lay_9 rfl (lv_at hl 2 rfl) ?_
            refine lv_iconst (v := nI 5) hx hb dX10_lay_10 (by decide) ?_
            refine xn_ge (tgt := 60) hx hb dX10_lay_11 (by decide) (by omega) (by omega) (fun c_11_1 => ?_) (fun c_11_1 => ?_)
            · skip
              refine lv_iconst (v := nI 0) hx hb dX10_lay_60 (by decide) ?_
              refine lv_istore_n (lv' := [(2, .int (nI 0)), (0, .ref (h 0)), (1, .int (nI c1))]) hx hb dX10_lay_61 rfl hl (by decide) rfl (fun ls hl => ?_)
              have cut_62 : ∀ (nf : Nat) (k2 : Nat) (g10 : Nat → Int32), (4 - k2) < nf → (k2 ≤ 4) → (∀ i j : Nat, i < 4 → (j < c1 ∨ (j = c1 ∧ i < k2)) → g10 (4 * i + j) = if i = j then nI 1 else nI 0) → ∀ (H : Heap) (locs : List Loc) (ls : Array Slot), va_P (dC, dI) vwCl (rW h cs I L (va_up (va_up A 17 g9) 18 g10) Q) H → va_D A0 (rW h cs I L (va_up (va_up A 17 g9) 18 g10) Q) → va_S A0 s.heap H locs → lv_has ls 3 [(0, .ref (h 0)), (1, .int (nI c1)), (2, .int (nI k2))] → W p l e (headSpec wsX10_lay ({ frames := 0, cells := 0, slots := 0, locals := 0 })).room s m ([.ref (h 0)] : List Value).toArray below meth c H locs 0 0 (MQ below (va_Qv (fun (u : RS) => ∃ f17 : Nat → Int32, ∃ f18 : Nat → Int32, (laid (A 3) R M f17 f18) ∧ u = (I, L, (va_up (va_up A 17 f17) 18 f18), Q)) (xB (dC, dI) (tysA cs) A0 (fun u : RS => rW h cs u.1 u.2.1 u.2.2.1 u.2.2.2)) A0) ([.ref (h 0)] : List Value).toArray s 0 0 A0) (F0 m 62 ls []) := by
                intro nf
                induction nf with
                | zero => intro k2 g10 hm; exact absurd hm (Nat.not_lt_zero _)
                | succ nf ih_62 =>
                  intro k2 g10 hm_62 hk_62 h8_62 H locs ls hP hD hS hl
                  refine lv_iload_n hx hb dX10_lay_62 rfl (lv_at hl 2 rfl) ?_
                  refine lv_iconst (v := nI 4) hx hb dX10_lay_63 (by decide) ?_
                  refine xn_ge (tgt := 93) hx hb dX10_lay_64 (by decide) (by omega) (by omega) (fun c_64_2 => ?_) (fun c_64_2 => ?_)
                  · skip
                    refine lv_iinc (v := nI (c1 + 1)) (lv' := [(1, .int (nI (c1 + 1))), (0, .ref (h 0)), (2, .int (nI k2))]) hx hb dX10_lay_93 hl (k := 1) rfl (nI_1 _) (by decide) rfl (fun ls hl => ?_)
                    refine lv_goto (tgt := 2) hx hb dX10_lay_96 (by decide) ?_
                    exact ih_2 (c1 + 1) g9 g10 (by omega) (by first | assumption | omega) (by first | (intro q hq; omega) | (intro q hq; exact h7_9 q (by omega))) (by first | (intro i j hi hj; omega) | (intro i j hi hj; exact h8_62 i j hi (by omega))) _ _ _ hP hD hS (lv_sub hl [1, 0] rfl)
                  · skip
                    refine lv_aload_n hx hb dX10_lay_67 rfl (lv_at hl 0 rfl) ?_
                    refine va_get (D := (dC, dI)) (ci := 10) (v := .ref (h 18)) (C := RX10) (T := TX10) (N := 28) hx hb hts hinX10 hown hK hP 0 rfl rfl 18 (by decide) (hts (.fieldLink RX10 44 "MixedWordsModel" "trans" "[I") (by decide +kernel)) (fun _ h9 => h9) rfl dX10_lay_68 ?_
                    refine lv_iconst (v := nI 4) hx hb dX10_lay_71 (by decide) ?_
                    refine lv_iload_n hx hb dX10_lay_72 rfl (lv_at hl 2 rfl) ?_
                    refine lv_imul hx hb dX10_lay_73 ?_
                    refine xt_i (y := nI (4 * k2)) (pk_mul _ _) ?_
                    refine lv_iload_n hx hb dX10_lay_74 rfl (lv_at hl 1 rfl) ?_
                    refine lv_iadd hx hb dX10_lay_75 ?_
                    refine xt_i (y := nI ((4 * k2) + c1)) (nI_add _ _) ?_
                    refine lv_iload_n hx hb dX10_lay_76 rfl (lv_at hl 2 rfl) ?_
                    refine lv_iload_n hx hb dX10_lay_77 rfl (lv_at hl 1 rfl) ?_
                    refine xn_ne (tgt := 85) hx hb dX10_lay_78 (by decide) (by omega) (by omega) (fun c_78_3 => ?_) (fun c_78_3 => ?_)
                    · skip
                      refine lv_iconst (v := nI 0) hx hb dX10_lay_85 (by decide) ?_
                      refine xa_iast hx hb hK hP hD hS 9 0 rfl rfl (by omega) (by decide) dX10_lay_86 (fun H locs hP hD hS => ?_)
                      have hP : va_P (dC, dI) vwCl (rW h cs I L (va_up (va_up A 17 g9) 18 (upd g10 ((4 * k2) + c1) (nI 0))) Q) H := hP
                      have hD : va_D A0 (rW h cs I L (va_up (va_up A 17 g9) 18 (upd g10 ((4 * k2) + c1) (nI 0))) Q) := hD
                      refine lv_iinc (v := nI (k2 + 1)) (lv' := [(2, .int (nI (k2 + 1))), (0, .ref (h 0)), (1, .int (nI c1))]) hx hb dX10_lay_87 hl (k := 2) rfl (nI_1 _) (by decide) rfl (fun ls hl => ?_)
                      refine lv_goto (tgt := 62) hx hb dX10_lay_90 (by decide) ?_
                      exact ih_62 (k2 + 1) (upd g10 ((4 * k2) + c1) (nI 0)) (by omega) (by first | assumption | omega) (by first | exact lay_t (by omega) (by first | (rw [if_pos (by omega)]) | (rw [if_neg (by omega)])) h8_62 | (intro i j hi hj; exact h8_2 i j hi (by omega))) _ _ _ hP hD hS (lv_sub hl [1, 2, 0] rfl)
                    · skip
                      refine lv_iconst (v := nI 1) hx hb dX10_lay_81 (by decide) ?_
                      refine lv_goto (tgt := 86) hx hb dX10_lay_82 (by decide) ?_
                      refine xa_iast hx hb hK hP hD hS 9 0 rfl rfl (by omega) (by decide) dX10_lay_86 (fun H locs hP hD hS => ?_)
                      have hP : va_P (dC, dI) vwCl (rW h cs I L (va_up (va_up A 17 g9) 18 (upd g10 ((4 * k2) + c1) (nI 1))) Q) H := hP
                      have hD : va_D A0 (rW h cs I L (va_up (va_up A 17 g9) 18 (upd g10 ((4 * k2) + c1) (nI 1))) Q) := hD
                      refine lv_iinc (v := nI (k2 + 1)) (lv' := [(2, .int (nI (k2 + 1))), (0, .ref (h 0)), (1, .int (nI c1))]) hx hb dX10_lay_87 hl (k := 2) rfl (nI_1 _) (by decide) rfl (fun ls hl => ?_)
                      refine lv_goto (tgt := 62) hx hb dX10_lay_90 (by decide) ?_
                      exact ih_62 (k2 + 1) (upd g10 ((4 * k2) + c1) (nI 1)) (by omega) (by first | assumption | omega) (by first | exact lay_t (by omega) (by first | (rw [if_pos (by omega)]) | (rw [if_neg (by omega)])) h8_62 | (intro i j hi hj; exact h8_2 i j hi (by omega))) _ _ _ hP hD hS (lv_sub hl [1, 2, 0] rfl)
              exact cut_62 _ 0 g8 (Nat.lt_succ_self _) (by first | assumption | omega) (by first | exact lay_t (by omega) (by first | (rw [if_pos (by omega)]) | (rw [if_neg (by omega)])) h8_62 | (intro i j hi hj; exact h8_2 i j hi (by omega))) _ _ _ hP hD hS (lv_sub hl [1, 2, 0] rfl)
            · skip
              refine lv_aload_n hx hb dX10_lay_14 rfl (lv_at hl 0 rfl) ?_
              refine va_get (D := (dC, dI)) (ci := 10) (v := .ref (h 17)) (C := RX10) (T := TX10) (N := 28) hx hb hts hinX10 hown hK hP 0 rfl rfl 17 (by decide) (hts (.fieldLink RX10 41 "MixedWordsModel" "cols" "[I") (by decide +kernel)) (fun _ h9 => h9) rfl dX10_lay_15 ?_
              refine lv_iconst (v := nI 5) hx hb dX10_lay_18 (by decide) ?_
              refine lv_iload_n hx hb dX10_lay_19 rfl (lv_at hl 1 rfl) ?_
              refine lv_imul hx hb dX10_lay_20 ?_
              refine xt_i (y := nI (5 * c1)) (pk_mul _ _) ?_
              refine lv_iload_n hx hb dX10_lay_21 rfl (lv_at hl 2 rfl) ?_
              refine lv_iadd hx hb dX10_lay_22 ?_
              refine xt_i (y := nI ((5 * c1) + r2)) (nI_add _ _) ?_
              refine lv_iload_n hx hb dX10_lay_23 rfl (lv_at hl 1 rfl) ?_
              refine lv_aload_n hx hb dX10_lay_24 rfl (lv_at hl 0 rfl) ?_
              refine va_get (D := (dC, dI)) (ci := 10) (v := .int (I 1)) (C := RX10) (T := TX10) (N := 28) hx hb hts hinX10 hown hK hP 0 rfl rfl 1 (by decide) (hts (.fieldLink RX10 13 "MixedWordsModel" "columns" "I") (by decide +kernel)) (fun _ h9 => h9) rfl dX10_lay_25 ?_
              refine xt_i (y := nI M) (hM) ?_
              refine xn_ge (tgt := 52) hx hb dX10_lay_28 (by decide) (by omega) (by omega) (fun c_28_4 => ?_) (fun c_28_4 => ?_)
              · skip
                refine lv_iconst (v := nI 0) hx hb dX10_lay_52 (by decide) ?_
                refine xa_iast hx hb hK hP hD hS 8 0 rfl rfl (by omega) (by decide) dX10_lay_53 (fun H locs hP hD hS => ?_)
                have hP : va_P (dC, dI) vwCl (rW h cs I L (va_up (va_up A 18 g8) 17 (upd g9 ((5 * c1) + r2) (nI 0))) Q) H := hP
                have hD : va_D A0 (rW h cs I L (va_up (va_up A 18 g8) 17 (upd g9 ((5 * c1) + r2) (nI 0))) Q) := hD
                refine lv_iinc (v := nI (r2 + 1)) (lv' := [(2, .int (nI (r2 + 1))), (0, .ref (h 0)), (1, .int (nI c1))]) hx hb dX10_lay_54 hl (k := 2) rfl (nI_1 _) (by decide) rfl (fun ls hl => ?_)
                refine lv_goto (tgt := 9) hx hb dX10_lay_57 (by decide) ?_
                exact ih_9 (r2 + 1) (upd g9 ((5 * c1) + r2) (nI 0)) (by omega) (by first | assumption | omega) (by first | exact lay_c (by omega) (by first | (rw [colF, if_pos ⟨by assumption, by assumption⟩]) | (rw [colF, if_neg (by omega)])) h7_9 | (intro q hq; exact h7_2 q (by omega))) _ _ _ hP hD hS (lv_sub hl [1, 2, 0] rfl)
              · skip
                refine lv_iload_n hx hb dX10_lay_31 rfl (lv_at hl 2 rfl) ?_
                refine lv_aload_n hx hb dX10_lay_32 rfl (lv_at hl 0 rfl) ?_
                refine va_get (D := (dC, dI)) (ci := 10) (v := .int (I 0)) (C := RX10) (T := TX10) (N := 28) hx hb hts hinX10 hown hK hP 0 rfl rfl 0 (by decide) (hts (.fieldLink RX10 7 "MixedWordsModel" "rows" "I") (by decide +kernel)) (fun _ h9 => h9) rfl dX10_lay_33 ?_
                refine xt_i (y := nI R) (hR) ?_
                refine xn_ge (tgt := 52) hx hb dX10_lay_36 (by decide) (by omega) (by omega) (fun c_36_5 => ?_) (fun c_36_5 => ?_)
                · skip
                  refine lv_iconst (v := nI 0) hx hb dX10_lay_52 (by decide) ?_
                  refine xa_iast hx hb hK hP hD hS 8 0 rfl rfl (by omega) (by decide) dX10_lay_53 (fun H locs hP hD hS => ?_)
                  have hP : va_P (dC, dI) vwCl (rW h cs I L (va_up (va_up A 18 g8) 17 (upd g9 ((5 * c1) + r2) (nI 0))) Q) H := hP
                  have hD : va_D A0 (rW h cs I L (va_up (va_up A 18 g8) 17 (upd g9 ((5 * c1) + r2) (nI 0))) Q) := hD
                  refine lv_iinc (v := nI (r2 + 1)) (lv' := [(2, .int (nI (r2 + 1))), (0, .ref (h 0)), (1, .int (nI c1))]) hx hb dX10_lay_54 hl (k := 2) rfl (nI_1 _) (by decide) rfl (fun ls hl => ?_)
                  refine lv_goto (tgt := 9) hx hb dX10_lay_57 (by decide) ?_
                  exact ih_9 (r2 + 1) (upd g9 ((5 * c1) + r2) (nI 0)) (by omega) (by first | assumption | omega) (by first | exact lay_c (by omega) (by first | (rw [colF, if_pos ⟨by assumption, by assumption⟩]) | (rw [colF, if_neg (by omega)])) h7_9 | (intro q hq; exact h7_2 q (by omega))) _ _ _ hP hD hS (lv_sub hl [1, 2, 0] rfl)
                · skip
                  refine lv_aload_n hx hb dX10_lay_39 rfl (lv_at hl 0 rfl) ?_
                  refine va_get (D := (dC, dI)) (ci := 10) (v := .ref (h 3)) (C := RX10) (T := TX10) (N := 28) hx hb hts hinX10 hown hK hP 0 rfl rfl 3 (by decide) (hts (.fieldLink RX10 19 "MixedWordsModel" "told" "[I") (by decide +kernel)) (fun _ h9 => h9) rfl dX10_lay_40 ?_
                  refine lv_iconst (v := nI 5) hx hb dX10_lay_43 (by decide) ?_
                  refine lv_iload_n hx hb dX10_lay_44 rfl (lv_at hl 2 rfl) ?_
                  refine lv_imul hx hb dX10_lay_45 ?_
                  refine xt_i (y := nI (5 * r2)) (pk_mul _ _) ?_
                  refine lv_iload_n hx hb dX10_lay_46 rfl (lv_at hl 1 rfl) ?_
                  refine lv_iadd hx hb dX10_lay_47 ?_
                  refine xt_i (y := nI ((5 * r2) + c1)) (nI_add _ _) ?_
                  refine xa_iald hx hb hK hP 1 0 rfl rfl (by omega) (by decide) dX10_lay_48 ?_
                  refine lv_goto (tgt := 53) hx hb dX10_lay_49 (by decide) ?_
                  refine xa_iast hx hb hK hP hD hS 8 0 rfl rfl (by omega) (by decide) dX10_lay_53 (fun H locs hP hD hS => ?_)
                  have hP : va_P (dC, dI) vwCl (rW h cs I L (va_up (va_up A 18 g8) 17 (upd g9 ((5 * c1) + r2) (A 3 ((5 * r2) + c1)))) Q) H := hP
                  have hD : va_D A0 (rW h cs I L (va_up (va_up A 18 g8) 17 (upd g9 ((5 * c1) + r2) (A 3 ((5 * r2) + c1)))) Q) := hD
                  refine lv_iinc (v := nI (r2 + 1)) (lv' := [(2, .int (nI (r2 + 1))), (0, .ref (h 0)), (1, .int (nI c1))]) hx hb dX10_lay_54 hl (k := 2) rfl (nI_1 _) (by decide) rfl (fun ls hl => ?_)
                  refine lv_goto (tgt := 9) hx hb dX10_lay_57 (by decide) ?_
                  exact ih_9 (r2 + 1) (upd g9 ((5 * c1) + r2) (A 3 ((5 * r2) + c1))) (by omega) (by first | assumption | omega) (by first | exact lay_c (by omega) (by first | (rw [colF, if_pos ⟨by assumption, by assumption⟩]) | (rw [colF, if_neg (by omega)])) h7_9 | (intro q hq; exact h7_2 q (by omega))) _ _ _ hP hD hS (lv_sub hl [1, 2, 0] rfl)
        exact cut_9 _ 0 g7 (Nat.lt_succ_self _) (by first | assumption | omega) (by first | exact lay_c (by omega) (by first | (rw [colF, if_pos ⟨by assumption, by assumption⟩]) | (rw [colF, if_neg (by omega)])) h7_9 | (intro q hq; exact h7_2 q (by omega))) _ _ _ hP hD hS (lv_sub hl [1, 2, 0] rfl)
  exact cut_2 _ 0 (A 17) (A 18) (Nat.lt_succ_self _) (by first | assumption | omega) (by first | (intro q hq; omega) | (intro q hq; exact h7_9 q (by omega))) (by first | (intro i j hi hj; omega) | (intro i j hi hj; exact h8_62 i j hi (by omega))) _ _ _ hP hD hS (lv_sub hl [1, 0] rfl)
theorem bdX10_dot_0 : (decode cX10_dot 0 = .ok (.iconst 0, 1)) ∧ (decode cX10_dot 1 = .ok (.istore_n 3, 1)) ∧ (decode cX10_dot 2 = .ok (.iconst 0, 1)) ∧ (decode cX10_dot 3 = .ok (.istore 4, 2)) ∧ (decode cX10_dot 5 = .ok (.iload 4, 2)) ∧ (decode cX10_dot 7 = .ok (.iconst 5, 1)) ∧ (decode cX10_dot 8 = .ok (.if_icmp .ge 35, 3)) ∧ (decode cX10_dot 11 = .ok (.iload_n 3, 1)) ∧ (decode cX10_dot 12 = .ok (.aload_n 0, 1)) ∧ (decode cX10_dot 13 = .ok (.getfield 41, 3)) ∧ (decode cX10_dot 16 = .ok (.iconst 5, 1)) ∧ (decode cX10_dot 17 = .ok (.iload_n 1, 1)) ∧ (decode cX10_dot 18 = .ok (.imul, 1)) ∧ (decode cX10_dot 19 = .ok (.iload 4, 2)) ∧ (decode cX10_dot 21 = .ok (.iadd, 1)) ∧ (decode cX10_dot 22 = .ok (.iaload, 1)) := by decide +kernel
theorem dX10_dot_0 : decode cX10_dot 0 = .ok (.iconst 0, 1) := bdX10_dot_0.1
theorem dX10_dot_1 : decode cX10_dot 1 = .ok (.istore_n 3, 1) := bdX10_dot_0.2.1
theorem dX10_dot_2 : decode cX10_dot 2 = .ok (.iconst 0, 1) := bdX10_dot_0.2.2.1
theorem dX10_dot_3 : decode cX10_dot 3 = .ok (.istore 4, 2) := bdX10_dot_0.2.2.2.1
theorem dX10_dot_5 : decode cX10_dot 5 = .ok (.iload 4, 2) := bdX10_dot_0.2.2.2.2.1
theorem dX10_dot_7 : decode cX10_dot 7 = .ok (.iconst 5, 1) := bdX10_dot_0.2.2.2.2.2.1
theorem dX10_dot_8 : decode cX10_dot 8 = .ok (.if_icmp .ge 35, 3) := bdX10_dot_0.2.2.2.2.2.2.1
theorem dX10_dot_11 : decode cX10_dot 11 = .ok (.iload_n 3, 1) := bdX10_dot_0.2.2.2.2.2.2.2.1
theorem dX10_dot_12 : decode cX10_dot 12 = .ok (.aload_n 0, 1) := bdX10_dot_0.2.2.2.2.2.2.2.2.1
theorem dX10_dot_13 : decode cX10_dot 13 = .ok (.getfield 41, 3) := bdX10_dot_0.2.2.2.2.2.2.2.2.2.1
theorem dX10_dot_16 : decode cX10_dot 16 = .ok (.iconst 5, 1) := bdX10_dot_0.2.2.2.2.2.2.2.2.2.2.1
theorem dX10_dot_17 : decode cX10_dot 17 = .ok (.iload_n 1, 1) := bdX10_dot_0.2.2.2.2.2.2.2.2.2.2.2.1
theorem dX10_dot_18 : decode cX10_dot 18 = .ok (.imul, 1) := bdX10_dot_0.2.2.2.2.2.2.2.2.2.2.2.2.1
theorem dX10_dot_19 : decode cX10_dot 19 = .ok (.iload 4, 2) := bdX10_dot_0.2.2.2.2.2.2.2.2.2.2.2.2.2.1
theorem dX10_dot_21 : decode cX10_dot 21 = .ok (.iadd, 1) := bdX10_dot_0.2.2.2.2.2.2.2.2.2.2.2.2.2.2.1
theorem dX10_dot_22 : decode cX10_dot 22 = .ok (.iaload, 1) := bdX10_dot_0.2.2.2.2.2.2.2.2.2.2.2.2.2.2.2
theorem bdX10_dot_23 : (decode cX10_dot 23 = .ok (.aload_n 0, 1)) ∧ (decode cX10_dot 24 = .ok (.getfield 41, 3)) ∧ (decode cX10_dot 27 = .ok (.iconst 5, 1)) ∧ (decode cX10_dot 28 = .ok (.iload_n 2, 1)) ∧ (decode cX10_dot 29 = .ok (.imul, 1)) ∧ (decode cX10_dot 30 = .ok (.iload 4, 2)) ∧ (decode cX10_dot 32 = .ok (.iadd, 1)) ∧ (decode cX10_dot 33 = .ok (.iaload, 1)) ∧ (decode cX10_dot 34 = .ok (.imul, 1)) ∧ (decode cX10_dot 35 = .ok (.iadd, 1)) ∧ (decode cX10_dot 36 = .ok (.istore_n 3, 1)) ∧ (decode cX10_dot 37 = .ok (.iinc 4 1, 3)) ∧ (decode cX10_dot 40 = .ok (.goto (-35), 3)) ∧ (decode cX10_dot 43 = .ok (.iload_n 3, 1)) ∧ (decode cX10_dot 44 = .ok (.ireturn, 1)) := by decide +kernel
theorem dX10_dot_23 : decode cX10_dot 23 = .ok (.aload_n 0, 1) := bdX10_dot_23.1
theorem dX10_dot_24 : decode cX10_dot 24 = .ok (.getfield 41, 3) := bdX10_dot_23.2.1
theorem dX10_dot_27 : decode cX10_dot 27 = .ok (.iconst 5, 1) := bdX10_dot_23.2.2.1
theorem dX10_dot_28 : decode cX10_dot 28 = .ok (.iload_n 2, 1) := bdX10_dot_23.2.2.2.1
theorem dX10_dot_29 : decode cX10_dot 29 = .ok (.imul, 1) := bdX10_dot_23.2.2.2.2.1
theorem dX10_dot_30 : decode cX10_dot 30 = .ok (.iload 4, 2) := bdX10_dot_23.2.2.2.2.2.1
theorem dX10_dot_32 : decode cX10_dot 32 = .ok (.iadd, 1) := bdX10_dot_23.2.2.2.2.2.2.1
theorem dX10_dot_33 : decode cX10_dot 33 = .ok (.iaload, 1) := bdX10_dot_23.2.2.2.2.2.2.2.1
theorem dX10_dot_34 : decode cX10_dot 34 = .ok (.imul, 1) := bdX10_dot_23.2.2.2.2.2.2.2.2.1
theorem dX10_dot_35 : decode cX10_dot 35 = .ok (.iadd, 1) := bdX10_dot_23.2.2.2.2.2.2.2.2.2.1
theorem dX10_dot_36 : decode cX10_dot 36 = .ok (.istore_n 3, 1) := bdX10_dot_23.2.2.2.2.2.2.2.2.2.2.1
theorem dX10_dot_37 : decode cX10_dot 37 = .ok (.iinc 4 1, 3) := bdX10_dot_23.2.2.2.2.2.2.2.2.2.2.2.1
theorem dX10_dot_40 : decode cX10_dot 40 = .ok (.goto (-35), 3) := bdX10_dot_23.2.2.2.2.2.2.2.2.2.2.2.2.1
theorem dX10_dot_43 : decode cX10_dot 43 = .ok (.iload_n 3, 1) := bdX10_dot_23.2.2.2.2.2.2.2.2.2.2.2.2.2.1
theorem dX10_dot_44 : decode cX10_dot 44 = .ok (.ireturn, 1) := bdX10_dot_23.2.2.2.2.2.2.2.2.2.2.2.2.2.2
set_option maxHeartbeats 4000000 in
set_option maxRecDepth 100000 in
theorem k_X10_dot (l : Launch) (dC : Nat → ClassId) (dI : Nat → Nat → Nat) (h : Nat → Nat) (cs : Nat → ClassId) (sz : Nat) (I : Nat → Int32) (L : Nat → Int64) (A : Nat → Nat → Int32) (Q : Nat → Nat → Int64) (i j : Nat) (hi4 : i < 4) (hj4 : j < 4) : Met l yX10_dot wsX10_dot ({ frames := 0, cells := 0, slots := 0, locals := 0 }) (va_Pc [.ref (h 0), .int (nI i), .int (nI j)] (xPre (dC, dI) (rW h cs I L A Q) (tysA cs) sz)) (va_Qi (fun (r : Int32) (u : RS) => (r = dotF (A 17) i j) ∧ u = (I, L, A, Q)) (xB (dC, dI) (tysA cs) (va_A (rW h cs I L A Q) sz) (fun u : RS => rW h cs u.1 u.2.1 u.2.2.1 u.2.2.2)) (va_A (rW h cs I L A Q) sz)) 0 0 (va_A (rW h cs I L A Q) sz) := by
  refine Met.ofW (cc := cX10_dot) (maxL := 5) (ret := (some .int)) (by decide) rfl ?_
  intro p e s m args below meth c s₁ B hml hv
  obtain ⟨rfl, hsz, hP, hK, hD0, hN⟩ := hv
  have hx := B.exec
  have hb := B.bytes
  have hr := B.returns
  have hts := atoms_spec (ws := wsX10_dot) B.pre
  have hown : s.vm.findClass RX10 = some m.cls := findClass_of_methodNamed B.named
  have hlocks := B.notSynchronized
  subst hsz
  have hD := hD0.self (sz := s.heap.size)
  generalize hAe : va_A (rW h cs I L A Q) s.heap.size = A0 at hD ⊢
  have hA : ∀ q : Nat, s.heap.size ≤ q → A0 q := fun q h => by rw [← hAe]; exact Or.inr h
  have hl := lv_entry ([.ref (h 0), .int (nI i), .int (nI j)]) (n := 5) (Nat.le_of_ble_eq_true rfl)
  rw [lg_entry_eq]
  generalize (lg_sl ([.ref (h 0), .int (nI i), .int (nI j)]) ++ List.replicate (5 - (lg_sl ([.ref (h 0), .int (nI i), .int (nI j)])).length) Slot.unset).toArray = ls at hl ⊢
  have hl : lv_has ls 5 [(0, .ref (h 0)), (1, .int (nI i)), (2, .int (nI j))] := hl
  generalize hH : s.heap = H at hP ⊢
  have hS : va_S A0 s.heap H [] := by rw [← hH]; exact va_S.rf
  have hinX10 : ∀ w ∈ wsX100, w ∈ wsX10_dot := by decide +kernel
  refine lv_iconst (v := nI 0) hx hb dX10_dot_0 (by decide) ?_
  refine lv_istore_n (lv' := [(3, .int (nI 0)), (0, .ref (h 0)), (1, .int (nI i)), (2, .int (nI j))]) hx hb dX10_dot_1 rfl hl (by decide) rfl (fun ls hl => ?_)
  refine lv_iconst (v := nI 0) hx hb dX10_dot_2 (by decide) ?_
  refine lv_istore (lv' := [(4, .int (nI 0)), (3, .int (nI 0)), (0, .ref (h 0)), (1, .int (nI i)), (2, .int (nI j))]) hx hb dX10_dot_3 hl (by decide) rfl (fun ls hl => ?_)
  refine lv_iload hx hb dX10_dot_5 (lv_at hl 0 rfl) ?_
  refine lv_iconst (v := nI 5) hx hb dX10_dot_7 (by decide) ?_
  refine xn_geF (tgt := 43) hx hb dX10_dot_8 (by decide) (by omega) (by omega) (by omega) ?_
  refine lv_iload_n hx hb dX10_dot_11 rfl (lv_at hl 1 rfl) ?_
  refine lv_aload_n hx hb dX10_dot_12 rfl (lv_at hl 2 rfl) ?_
  refine va_get (D := (dC, dI)) (ci := 10) (v := .ref (h 17)) (C := RX10) (T := TX10) (N := 28) hx hb hts hinX10 hown hK hP 0 rfl rfl 17 (by decide) (hts (.fieldLink RX10 41 "MixedWordsModel" "cols" "[I") (by decide +kernel)) (fun _ h9 => h9) rfl dX10_dot_13 ?_
  refine lv_iconst (v := nI 5) hx hb dX10_dot_16 (by decide) ?_
  refine lv_iload_n hx hb dX10_dot_17 rfl (lv_at hl 3 rfl) ?_
  refine lv_imul hx hb dX10_dot_18 ?_
  refine xt_i (y := nI (5 * i)) (pk_mul _ _) ?_
  refine lv_iload hx hb dX10_dot_19 (lv_at hl 0 rfl) ?_
  refine lv_iadd hx hb dX10_dot_21 ?_
  refine xt_i (y := nI ((5 * i) + 0)) (nI_add _ _) ?_
  refine xa_iald hx hb hK hP 8 0 rfl rfl (by omega) (by decide) dX10_dot_22 ?_
  refine lv_aload_n hx hb dX10_dot_23 rfl (lv_at hl 2 rfl) ?_
  refine va_get (D := (dC, dI)) (ci := 10) (v := .ref (h 17)) (C := RX10) (T := TX10) (N := 28) hx hb hts hinX10 hown hK hP 0 rfl rfl 17 (by decide) (hts (.fieldLink RX10 41 "MixedWordsModel" "cols" "[I") (by decide +kernel)) (fun _ h9 => h9) rfl dX10_dot_24 ?_
  refine lv_iconst (v := nI 5) hx hb dX10_dot_27 (by decide) ?_
  refine lv_iload_n hx hb dX10_dot_28 rfl (lv_at hl 4 rfl) ?_
  refine lv_imul hx hb dX10_dot_29 ?_
  refine xt_i (y := nI (5 * j)) (pk_mul _ _) ?_
  refine lv_iload hx hb dX10_dot_30 (lv_at hl 0 rfl) ?_
  refine lv_iadd hx hb dX10_dot_32 ?_
  refine xt_i (y := nI ((5 * j) + 0)) (nI_add _ _) ?_
  refine xa_iald hx hb hK hP 8 0 rfl rfl (by omega) (by decide) dX10_dot_33 ?_
  refine lv_imul hx hb dX10_dot_34 ?_
  refine lv_iadd hx hb dX10_dot_35 ?_
  refine lv_istore_n (lv' := [(3, .int ((nI 0) + ((A 17 ((5 * i) + 0)) * (A 17 ((5 * j) + 0))))), (4, .int (nI 0)), (0, .ref (h 0)), (1, .int (nI i)), (2, .int (nI j))]) hx hb dX10_dot_36 rfl hl (by decide) rfl (fun ls hl => ?_)
  refine lv_iinc (v := nI 1) (lv' := [(4, .int (nI 1)), (3, .int ((nI 0) + ((A 17 ((5 * i) + 0)) * (A 17 ((5 * j) + 0))))), (0, .ref (h 0)), (1, .int (nI i)), (2, .int (nI j))]) hx hb dX10_dot_37 hl (k := 1) rfl (by decide) (by decide) rfl (fun ls hl => ?_)
  refine lv_goto (tgt := 5) hx hb dX10_dot_40 (by decide) ?_
  refine lv_iload hx hb dX10_dot_5 (lv_at hl 0 rfl) ?_
  refine lv_iconst (v := nI 5) hx hb dX10_dot_7 (by decide) ?_
  refine xn_geF (tgt := 43) hx hb dX10_dot_8 (by decide) (by omega) (by omega) (by omega) ?_
  refine lv_iload_n hx hb dX10_dot_11 rfl (lv_at hl 1 rfl) ?_
  refine lv_aload_n hx hb dX10_dot_12 rfl (lv_at hl 2 rfl) ?_
  refine va_get (D := (dC, dI)) (ci := 10) (v := .ref (h 17)) (C := RX10) (T := TX10) (N := 28) hx hb hts hinX10 hown hK hP 0 rfl rfl 17 (by decide) (hts (.fieldLink RX10 41 "MixedWordsModel" "cols" "[I") (by decide +kernel)) (fun _ h9 => h9) rfl dX10_dot_13 ?_
  refine lv_iconst (v := nI 5) hx hb dX10_dot_16 (by decide) ?_
  refine lv_iload_n hx hb dX10_dot_17 rfl (lv_at hl 3 rfl) ?_
  refine lv_imul hx hb dX10_dot_18 ?_
  refine xt_i (y := nI (5 * i)) (pk_mul _ _) ?_
  refine lv_iload hx hb dX10_dot_19 (lv_at hl 0 rfl) ?_
  refine lv_iadd hx hb dX10_dot_21 ?_
  refine xt_i (y := nI ((5 * i) + 1)) (nI_add _ _) ?_
  refine xa_iald hx hb hK hP 8 0 rfl rfl (by omega) (by decide) dX10_dot_22 ?_
  refine lv_aload_n hx hb dX10_dot_23 rfl (lv_at hl 2 rfl) ?_
  refine va_get (D := (dC, dI)) (ci := 10) (v := .ref (h 17)) (C := RX10) (T := TX10) (N := 28) hx hb hts hinX10 hown hK hP 0 rfl rfl 17 (by decide) (hts (.fieldLink RX10 41 "MixedWordsModel" "cols" "[I") (by decide +kernel)) (fun _ h9 => h9) rfl dX10_dot_24 ?_
  refine lv_iconst (v := nI 5) hx hb dX10_dot_27 (by decide) ?_
  refine lv_iload_n hx hb dX10_dot_28 rfl (lv_at hl 4 rfl) ?_
  refine lv_imul hx hb dX10_dot_29 ?_
  refine xt_i (y := nI (5 * j)) (pk_mul _ _) ?_
  refine lv_iload hx hb dX10_dot_30 (lv_at hl 0 rfl) ?_
  refine lv_iadd hx hb dX10_dot_32 ?_
  refine xt_i (y := nI ((5 * j) + 1)) (nI_add _ _) ?_
  refine xa_iald hx hb hK hP 8 0 rfl rfl (by omega) (by decide) dX10_dot_33 ?_
  refine lv_imul hx hb dX10_dot_34 ?_
  refine lv_iadd hx hb dX10_dot_35 ?_
  refine lv_istore_n (lv' := [(3, .int (((nI 0) + ((A 17 ((5 * i) + 0)) * (A 17 ((5 * j) + 0)))) + ((A 17 ((5 * i) + 1)) * (A 17 ((5 * j) + 1))))), (4, .int (nI 1)), (0, .ref (h 0)), (1, .int (nI i)), (2, .int (nI j))]) hx hb dX10_dot_36 rfl hl (by decide) rfl (fun ls hl => ?_)
  refine lv_iinc (v := nI 2) (lv' := [(4, .int (nI 2)), (3, .int (((nI 0) + ((A 17 ((5 * i) + 0)) * (A 17 ((5 * j) + 0)))) + ((A 17 ((5 * i) + 1)) * (A 17 ((5 * j) + 1))))), (0, .ref (h 0)), (1, .int (nI i)), (2, .int (nI j))]) hx hb dX10_dot_37 hl (k := 1) rfl (by decide) (by decide) rfl (fun ls hl => ?_)
  refine lv_goto (tgt := 5) hx hb dX10_dot_40 (by decide) ?_
  refine lv_iload hx hb dX10_dot_5 (lv_at hl 0 rfl) ?_
  refine lv_iconst (v := nI 5) hx hb dX10_dot_7 (by decide) ?_
  refine xn_geF (tgt := 43) hx hb dX10_dot_8 (by decide) (by omega) (by omega) (by omega) ?_
  refine lv_iload_n hx hb dX10_dot_11 rfl (lv_at hl 1 rfl) ?_
  refine lv_aload_n hx hb dX10_dot_12 rfl (lv_at hl 2 rfl) ?_
  refine va_get (D := (dC, dI)) (ci := 10) (v := .ref (h 17)) (C := RX10) (T := TX10) (N := 28) hx hb hts hinX10 hown hK hP 0 rfl rfl 17 (by decide) (hts (.fieldLink RX10 41 "MixedWordsModel" "cols" "[I") (by decide +kernel)) (fun _ h9 => h9) rfl dX10_dot_13 ?_
  refine lv_iconst (v := nI 5) hx hb dX10_dot_16 (by decide) ?_
  refine lv_iload_n hx hb dX10_dot_17 rfl (lv_at hl 3 rfl) ?_
  refine lv_imul hx hb dX10_dot_18 ?_
  refine xt_i (y := nI (5 * i)) (pk_mul _ _) ?_
  refine lv_iload hx hb dX10_dot_19 (lv_at hl 0 rfl) ?_
  refine lv_iadd hx hb dX10_dot_21 ?_
  refine xt_i (y := nI ((5 * i) + 2)) (nI_add _ _) ?_
  refine xa_iald hx hb hK hP 8 0 rfl rfl (by omega) (by decide) dX10_dot_22 ?_
  refine lv_aload_n hx hb dX10_dot_23 rfl (lv_at hl 2 rfl) ?_
  refine va_get (D := (dC, dI)) (ci := 10) (v := .ref (h 17)) (C := RX10) (T := TX10) (N := 28) hx hb hts hinX10 hown hK hP 0 rfl rfl 17 (by decide) (hts (.fieldLink RX10 41 "MixedWordsModel" "cols" "[I") (by decide +kernel)) (fun _ h9 => h9) rfl dX10_dot_24 ?_
  refine lv_iconst (v := nI 5) hx hb dX10_dot_27 (by decide) ?_
  refine lv_iload_n hx hb dX10_dot_28 rfl (lv_at hl 4 rfl) ?_
  refine lv_imul hx hb dX10_dot_29 ?_
  refine xt_i (y := nI (5 * j)) (pk_mul _ _) ?_
  refine lv_iload hx hb dX10_dot_30 (lv_at hl 0 rfl) ?_
  refine lv_iadd hx hb dX10_dot_32 ?_
  refine xt_i (y := nI ((5 * j) + 2)) (nI_add _ _) ?_
  refine xa_iald hx hb hK hP 8 0 rfl rfl (by omega) (by decide) dX10_dot_33 ?_
  refine lv_imul hx hb dX10_dot_34 ?_
  refine lv_iadd hx hb dX10_dot_35 ?_
  refine lv_istore_n (lv' := [(3, .int ((((nI 0) + ((A 17 ((5 * i) + 0)) * (A 17 ((5 * j) + 0)))) + ((A 17 ((5 * i) + 1)) * (A 17 ((5 * j) + 1)))) + ((A 17 ((5 * i) + 2)) * (A 17 ((5 * j) + 2))))), (4, .int (nI 2)), (0, .ref (h 0)), (1, .int (nI i)), (2, .int (nI j))]) hx hb dX10_dot_36 rfl hl (by decide) rfl (fun ls hl => ?_)
  refine lv_iinc (v := nI 3) (lv' := [(4, .int (nI 3)), (3, .int ((((nI 0) + ((A 17 ((5 * i) + 0)) * (A 17 ((5 * j) + 0)))) + ((A 17 ((5 * i) + 1)) * (A 17 ((5 * j) + 1)))) + ((A 17 ((5 * i) + 2)) * (A 17 ((5 * j) + 2))))), (0, .ref (h 0)), (1, .int (nI i)), (2, .int (nI j))]) hx hb dX10_dot_37 hl (k := 1) rfl (by decide) (by decide) rfl (fun ls hl => ?_)
  refine lv_goto (tgt := 5) hx hb dX10_dot_40 (by decide) ?_
  refine lv_iload hx hb dX10_dot_5 (lv_at hl 0 rfl) ?_
  refine lv_iconst (v := nI 5) hx hb dX10_dot_7 (by decide) ?_
  refine xn_geF (tgt := 43) hx hb dX10_dot_8 (by decide) (by omega) (by omega) (by omega) ?_
  refine lv_iload_n hx hb dX10_dot_11 rfl (lv_at hl 1 rfl) ?_
  refine lv_aload_n hx hb dX10_dot_12 rfl (lv_at hl 2 rfl) ?_
  refine va_get (D := (dC, dI)) (ci := 10) (v := .ref (h 17)) (C := RX10) (T := TX10) (N := 28) hx hb hts hinX10 hown hK hP 0 rfl rfl 17 (by decide) (hts (.fieldLink RX10 41 "MixedWordsModel" "cols" "[I") (by decide +kernel)) (fun _ h9 => h9) rfl dX10_dot_13 ?_
  refine lv_iconst (v := nI 5) hx hb dX10_dot_16 (by decide) ?_
  refine lv_iload_n hx hb dX10_dot_17 rfl (lv_at hl 3 rfl) ?_
  refine lv_imul hx hb dX10_dot_18 ?_
  refine xt_i (y := nI (5 * i)) (pk_mul _ _) ?_
  refine lv_iload hx hb dX10_dot_19 (lv_at hl 0 rfl) ?_
  refine lv_iadd hx hb dX10_dot_21 ?_
  refine xt_i (y := nI ((5 * i) + 3)) (nI_add _ _) ?_
  refine xa_iald hx hb hK hP 8 0 rfl rfl (by omega) (by decide) dX10_dot_22 ?_
  refine lv_aload_n hx hb dX10_dot_23 rfl (lv_at hl 2 rfl) ?_
  refine va_get (D := (dC, dI)) (ci := 10) (v := .ref (h 17)) (C := RX10) (T := TX10) (N := 28) hx hb hts hinX10 hown hK hP 0 rfl rfl 17 (by decide) (hts (.fieldLink RX10 41 "MixedWordsModel" "cols" "[I") (by decide +kernel)) (fun _ h9 => h9) rfl dX10_dot_24 ?_
  refine lv_iconst (v := nI 5) hx hb dX10_dot_27 (by decide) ?_
  refine lv_iload_n hx hb dX10_dot_28 rfl (lv_at hl 4 rfl) ?_
  refine lv_imul hx hb dX10_dot_29 ?_
  refine xt_i (y := nI (5 * j)) (pk_mul _ _) ?_
  refine lv_iload hx hb dX10_dot_30 (lv_at hl 0 rfl) ?_
  refine lv_iadd hx hb dX10_dot_32 ?_
  refine xt_i (y := nI ((5 * j) + 3)) (nI_add _ _) ?_
  refine xa_iald hx hb hK hP 8 0 rfl rfl (by omega) (by decide) dX10_dot_33 ?_
  refine lv_imul hx hb dX10_dot_34 ?_
  refine lv_iadd hx hb dX10_dot_35 ?_
  refine lv_istore_n (lv' := [(3, .int (((((nI 0) + ((A 17 ((5 * i) + 0)) * (A 17 ((5 * j) + 0)))) + ((A 17 ((5 * i) + 1)) * (A 17 ((5 * j) + 1)))) + ((A 17 ((5 * i) + 2)) * (A 17 ((5 * j) + 2)))) + ((A 17 ((5 * i) + 3)) * (A 17 ((5 * j) + 3))))), (4, .int (nI 3)), (0, .ref (h 0)), (1, .int (nI i)), (2, .int (nI j))]) hx hb dX10_dot_36 rfl hl (by decide) rfl (fun ls hl => ?_)
  refine lv_iinc (v := nI 4) (lv' := [(4, .int (nI 4)), (3, .int (((((nI 0) + ((A 17 ((5 * i) + 0)) * (A 17 ((5 * j) + 0)))) + ((A 17 ((5 * i) + 1)) * (A 17 ((5 * j) + 1)))) + ((A 17 ((5 * i) + 2)) * (A 17 ((5 * j) + 2)))) + ((A 17 ((5 * i) + 3)) * (A 17 ((5 * j) + 3))))), (0, .ref (h 0)), (1, .int (nI i)), (2, .int (nI j))]) hx hb dX10_dot_37 hl (k := 1) rfl (by decide) (by decide) rfl (fun ls hl => ?_)
  refine lv_goto (tgt := 5) hx hb dX10_dot_40 (by decide) ?_
  refine lv_iload hx hb dX10_dot_5 (lv_at hl 0 rfl) ?_
  refine lv_iconst (v := nI 5) hx hb dX10_dot_7 (by decide) ?_
  refine xn_geF (tgt := 43) hx hb dX10_dot_8 (by decide) (by omega) (by omega) (by omega) ?_
  refine lv_iload_n hx hb dX10_dot_11 rfl (lv_at hl 1 rfl) ?_
  refine lv_aload_n hx hb dX10_dot_12 rfl (lv_at hl 2 rfl) ?_
  refine va_get (D := (dC, dI)) (ci := 10) (v := .ref (h 17)) (C := RX10) (T := TX10) (N := 28) hx hb hts hinX10 hown hK hP 0 rfl rfl 17 (by decide) (hts (.fieldLink RX10 41 "MixedWordsModel" "cols" "[I") (by decide +kernel)) (fun _ h9 => h9) rfl dX10_dot_13 ?_
  refine lv_iconst (v := nI 5) hx hb dX10_dot_16 (by decide) ?_
  refine lv_iload_n hx hb dX10_dot_17 rfl (lv_at hl 3 rfl) ?_
  refine lv_imul hx hb dX10_dot_18 ?_
  refine xt_i (y := nI (5 * i)) (pk_mul _ _) ?_
  refine lv_iload hx hb dX10_dot_19 (lv_at hl 0 rfl) ?_
  refine lv_iadd hx hb dX10_dot_21 ?_
  refine xt_i (y := nI ((5 * i) + 4)) (nI_add _ _) ?_
  refine xa_iald hx hb hK hP 8 0 rfl rfl (by omega) (by decide) dX10_dot_22 ?_
  refine lv_aload_n hx hb dX10_dot_23 rfl (lv_at hl 2 rfl) ?_
  refine va_get (D := (dC, dI)) (ci := 10) (v := .ref (h 17)) (C := RX10) (T := TX10) (N := 28) hx hb hts hinX10 hown hK hP 0 rfl rfl 17 (by decide) (hts (.fieldLink RX10 41 "MixedWordsModel" "cols" "[I") (by decide +kernel)) (fun _ h9 => h9) rfl dX10_dot_24 ?_
  refine lv_iconst (v := nI 5) hx hb dX10_dot_27 (by decide) ?_
  refine lv_iload_n hx hb dX10_dot_28 rfl (lv_at hl 4 rfl) ?_
  refine lv_imul hx hb dX10_dot_29 ?_
  refine xt_i (y := nI (5 * j)) (pk_mul _ _) ?_
  refine lv_iload hx hb dX10_dot_30 (lv_at hl 0 rfl) ?_
  refine lv_iadd hx hb dX10_dot_32 ?_
  refine xt_i (y := nI ((5 * j) + 4)) (nI_add _ _) ?_
  refine xa_iald hx hb hK hP 8 0 rfl rfl (by omega) (by decide) dX10_dot_33 ?_
  refine lv_imul hx hb dX10_dot_34 ?_
  refine lv_iadd hx hb dX10_dot_35 ?_
  refine lv_istore_n (lv' := [(3, .int ((((((nI 0) + ((A 17 ((5 * i) + 0)) * (A 17 ((5 * j) + 0)))) + ((A 17 ((5 * i) + 1)) * (A 17 ((5 * j) + 1)))) + ((A 17 ((5 * i) + 2)) * (A 17 ((5 * j) + 2)))) + ((A 17 ((5 * i) + 3)) * (A 17 ((5 * j) + 3)))) + ((A 17 ((5 * i) + 4)) * (A 17 ((5 * j) + 4))))), (4, .int (nI 4)), (0, .ref (h 0)), (1, .int (nI i)), (2, .int (nI j))]) hx hb dX10_dot_36 rfl hl (by decide) rfl (fun ls hl => ?_)
  refine lv_iinc (v := nI 5) (lv' := [(4, .int (nI 5)), (3, .int ((((((nI 0) + ((A 17 ((5 * i) + 0)) * (A 17 ((5 * j) + 0)))) + ((A 17 ((5 * i) + 1)) * (A 17 ((5 * j) + 1)))) + ((A 17 ((5 * i) + 2)) * (A 17 ((5 * j) + 2)))) + ((A 17 ((5 * i) + 3)) * (A 17 ((5 * j) + 3)))) + ((A 17 ((5 * i) + 4)) * (A 17 ((5 * j) + 4))))), (0, .ref (h 0)), (1, .int (nI i)), (2, .int (nI j))]) hx hb dX10_dot_37 hl (k := 1) rfl (by decide) (by decide) rfl (fun ls hl => ?_)
  refine lv_goto (tgt := 5) hx hb dX10_dot_40 (by decide) ?_
  refine lv_iload hx hb dX10_dot_5 (lv_at hl 0 rfl) ?_
  refine lv_iconst (v := nI 5) hx hb dX10_dot_7 (by decide) ?_
  refine xn_geT (tgt := 43) hx hb dX10_dot_8 (by decide) (by omega) (by omega) (by omega) ?_
  refine lv_iload_n hx hb dX10_dot_43 rfl (lv_at hl 1 rfl) ?_
  exact xr_i (v := ((((((nI 0) + ((A 17 ((5 * i) + 0)) * (A 17 ((5 * j) + 0)))) + ((A 17 ((5 * i) + 1)) * (A 17 ((5 * j) + 1)))) + ((A 17 ((5 * i) + 2)) * (A 17 ((5 * j) + 2)))) + ((A 17 ((5 * i) + 3)) * (A 17 ((5 * j) + 3)))) + ((A 17 ((5 * i) + 4)) * (A 17 ((5 * j) + 4))))) hx hb hr hlocks hK hS dX10_dot_44 (I, L, A, Q) ⟨rfl, rfl⟩ hP hD
set_option maxRecDepth 20000 in
theorem ggX10_gram_X10_isColumn : GoodIn wsX10_gram wsX10_isColumn := goodIn_r _ [5, 6, 7, 8, 4, 9, 22, 23, 24, 25, 26, 27, 28, 29, 30, 31, 32, 33, 34, 35, 36, 37, 38, 39, 40, 41, 42, 43, 44, 45, 46, 47, 48, 49] rfl (by decide +kernel)
set_option maxRecDepth 20000 in
theorem gX10_gram_X10_isColumn : GoodIn wsX10_gram (wsV RX10 90 RX10 yX10_isColumn wsX10_isColumn) := goodIn_app (goodIn_of _ (by decide +kernel)) ggX10_gram_X10_isColumn
set_option maxRecDepth 20000 in
theorem ggX10_gram_X10_lay : GoodIn wsX10_gram wsX10_lay := goodIn_r _ [13, 14, 6, 15, 16, 17, 22, 23, 24, 25, 26, 27, 28, 29, 30, 31, 32, 33, 34, 35, 36, 37, 38, 39, 40, 41, 42, 43, 44, 45, 46, 47, 48, 49] rfl (by decide +kernel)
set_option maxRecDepth 20000 in
theorem gX10_gram_X10_lay : GoodIn wsX10_gram (wsV RX10 172 RX10 yX10_lay wsX10_lay) := goodIn_app (goodIn_of _ (by decide +kernel)) ggX10_gram_X10_lay
set_option maxRecDepth 20000 in
theorem ggX10_gram_X10_dot : GoodIn wsX10_gram wsX10_dot := goodIn_r _ [21, 14, 22, 23, 24, 25, 26, 27, 28, 29, 30, 31, 32, 33, 34, 35, 36, 37, 38, 39, 40, 41, 42, 43, 44, 45, 46, 47, 48, 49] rfl (by decide +kernel)
set_option maxRecDepth 20000 in
theorem gX10_gram_X10_dot : GoodIn wsX10_gram (wsV RX10 175 RX10 yX10_dot wsX10_dot) := goodIn_app (goodIn_of _ (by decide +kernel)) ggX10_gram_X10_dot
theorem bdX10_gram_0 : (decode cX10_gram 0 = .ok (.aload_n 0, 1)) ∧ (decode cX10_gram 1 = .ok (.iload_n 1, 1)) ∧ (decode cX10_gram 2 = .ok (.invokevirtual 90, 3)) ∧ (decode cX10_gram 5 = .ok (.ifCond .eq 11, 3)) ∧ (decode cX10_gram 8 = .ok (.aload_n 0, 1)) ∧ (decode cX10_gram 9 = .ok (.iload_n 2, 1)) ∧ (decode cX10_gram 10 = .ok (.invokevirtual 90, 3)) ∧ (decode cX10_gram 13 = .ok (.ifCond .ne 7, 3)) ∧ (decode cX10_gram 16 = .ok (.sipush (-10001), 3)) ∧ (decode cX10_gram 19 = .ok (.ireturn, 1)) ∧ (decode cX10_gram 20 = .ok (.aload_n 0, 1)) ∧ (decode cX10_gram 21 = .ok (.invokevirtual 172, 3)) ∧ (decode cX10_gram 24 = .ok (.aload_n 0, 1)) ∧ (decode cX10_gram 25 = .ok (.iload_n 1, 1)) ∧ (decode cX10_gram 26 = .ok (.iload_n 2, 1)) ∧ (decode cX10_gram 27 = .ok (.invokevirtual 175, 3)) := by decide +kernel
theorem dX10_gram_0 : decode cX10_gram 0 = .ok (.aload_n 0, 1) := bdX10_gram_0.1
theorem dX10_gram_1 : decode cX10_gram 1 = .ok (.iload_n 1, 1) := bdX10_gram_0.2.1
theorem dX10_gram_2 : decode cX10_gram 2 = .ok (.invokevirtual 90, 3) := bdX10_gram_0.2.2.1
theorem dX10_gram_5 : decode cX10_gram 5 = .ok (.ifCond .eq 11, 3) := bdX10_gram_0.2.2.2.1
theorem dX10_gram_8 : decode cX10_gram 8 = .ok (.aload_n 0, 1) := bdX10_gram_0.2.2.2.2.1
theorem dX10_gram_9 : decode cX10_gram 9 = .ok (.iload_n 2, 1) := bdX10_gram_0.2.2.2.2.2.1
theorem dX10_gram_10 : decode cX10_gram 10 = .ok (.invokevirtual 90, 3) := bdX10_gram_0.2.2.2.2.2.2.1
theorem dX10_gram_13 : decode cX10_gram 13 = .ok (.ifCond .ne 7, 3) := bdX10_gram_0.2.2.2.2.2.2.2.1
theorem dX10_gram_16 : decode cX10_gram 16 = .ok (.sipush (-10001), 3) := bdX10_gram_0.2.2.2.2.2.2.2.2.1
theorem dX10_gram_19 : decode cX10_gram 19 = .ok (.ireturn, 1) := bdX10_gram_0.2.2.2.2.2.2.2.2.2.1
theorem dX10_gram_20 : decode cX10_gram 20 = .ok (.aload_n 0, 1) := bdX10_gram_0.2.2.2.2.2.2.2.2.2.2.1
theorem dX10_gram_21 : decode cX10_gram 21 = .ok (.invokevirtual 172, 3) := bdX10_gram_0.2.2.2.2.2.2.2.2.2.2.2.1
theorem dX10_gram_24 : decode cX10_gram 24 = .ok (.aload_n 0, 1) := bdX10_gram_0.2.2.2.2.2.2.2.2.2.2.2.2.1
theorem dX10_gram_25 : decode cX10_gram 25 = .ok (.iload_n 1, 1) := bdX10_gram_0.2.2.2.2.2.2.2.2.2.2.2.2.2.1
theorem dX10_gram_26 : decode cX10_gram 26 = .ok (.iload_n 2, 1) := bdX10_gram_0.2.2.2.2.2.2.2.2.2.2.2.2.2.2.1
theorem dX10_gram_27 : decode cX10_gram 27 = .ok (.invokevirtual 175, 3) := bdX10_gram_0.2.2.2.2.2.2.2.2.2.2.2.2.2.2.2
theorem dX10_gram_30 : decode cX10_gram 30 = .ok (.ireturn, 1) := by decide +kernel
set_option maxHeartbeats 4000000 in
set_option maxRecDepth 100000 in
theorem k_X10_gram (l : Launch) (dC : Nat → ClassId) (dI : Nat → Nat → Nat) (h : Nat → Nat) (cs : Nat → ClassId) (sz : Nat) (I : Nat → Int32) (L : Nat → Int64) (A : Nat → Nat → Int32) (Q : Nat → Nat → Int64) (x y : Int32) (R M : Nat) (hR : I 0 = nI R) (hR1 : 1 ≤ R) (hR5 : R ≤ 5) (hM : I 1 = nI M) (hM1 : 1 ≤ M) (hM4 : M ≤ 4) : Met l yX10_gram wsX10_gram ({ frames := 2, cells := 0, slots := 0, locals := 46 }) (va_Pc [.ref (h 0), .int x, .int y] (xPre (dC, dI) (rW h cs I L A Q) (tysA cs) sz)) (va_Qi (fun (r : Int32) (u : RS) => ∃ f17 : Nat → Int32, ∃ f18 : Nat → Int32, ((∃ i j : Nat, i < M ∧ j < M ∧ x = nI i ∧ y = nI j ∧ laid (A 3) R M f17 f18 ∧ r = dotF f17 i j) ∨ (r = -10001 ∧ (∀ i j : Nat, i < M → j < M → x = nI i → y = nI j → False) ∧ f17 = A 17 ∧ f18 = A 18)) ∧ u = (I, L, (va_up (va_up A 17 f17) 18 f18), Q)) (xB (dC, dI) (tysA cs) (va_A (rW h cs I L A Q) sz) (fun u : RS => rW h cs u.1 u.2.1 u.2.2.1 u.2.2.2)) (va_A (rW h cs I L A Q) sz)) 0 0 (va_A (rW h cs I L A Q) sz) := by
  refine Met.ofW (cc := cX10_gram) (maxL := 3) (ret := (some .int)) (by decide) rfl ?_
  intro p e s m args below meth c s₁ B hml hv
  obtain ⟨rfl, hsz, hP, hK, hD0, hN⟩ := hv
  have hx := B.exec
  have hb := B.bytes
  have hr := B.returns
  have hts := atoms_spec (ws := wsX10_gram) B.pre
  have hown : s.vm.findClass RX10 = some m.cls := findClass_of_methodNamed B.named
  have hlocks := B.notSynchronized
  subst hsz
  have hD := hD0.self (sz := s.heap.size)
  generalize hAe : va_A (rW h cs I L A Q) s.heap.size = A0 at hD ⊢
  have hA : ∀ q : Nat, s.heap.size ≤ q → A0 q := fun q h => by rw [← hAe]; exact Or.inr h
  have hl := lv_entry ([.ref (h 0), .int x, .int y]) (n := 3) (Nat.le_of_ble_eq_true rfl)
  rw [lg_entry_eq]
  generalize (lg_sl ([.ref (h 0), .int x, .int y]) ++ List.replicate (3 - (lg_sl ([.ref (h 0), .int x, .int y])).length) Slot.unset).toArray = ls at hl ⊢
  have hl : lv_has ls 3 [(0, .ref (h 0)), (1, .int x), (2, .int y)] := hl
  generalize hH : s.heap = H at hP ⊢
  have hS : va_S A0 s.heap H [] := by rw [← hH]; exact va_S.rf
  refine lv_aload_n hx hb dX10_gram_0 rfl (lv_at hl 0 rfl) ?_
  refine lv_iload_n hx hb dX10_gram_1 rfl (lv_at hl 1 rfl) ?_
  refine xj_i (wc := (rW h cs I L A Q)) (wr := ([] : va_W)) hP hD hS hA [0, 1, 2, 3, 4, 5, 6, 7, 8, 9, 10, 11, 12, 13, 14, 15, 16] [] rfl rfl (by decide +kernel) (by decide +kernel) (va_runV (As := [.int x]) (rest := []) ⟨hx, hb, hml, hown, hts⟩ (k_X10_isColumn l dC dI h cs H.size I L A Q x M hM (by first | assumption | omega | exact hM1) (by first | assumption | omega | exact hM4)) (cwV 1 hts gX10_gram_X10_isColumn rfl rfl rfl (by decide +kernel) ⟨Nat.le_of_ble_eq_true rfl, Nat.le_of_ble_eq_true rfl⟩) (xpV (wc := (rW h cs I L A Q)) hP hD hK hN [0, 1, 2, 3, 4, 5, 6, 7, 8, 9, 10, 11, 12, 13, 14, 15, 16] rfl (by decide) 0 (ci := 10) rfl rfl _) rfl rfl hl.1 rfl (lv_room (Nat.le_of_ble_eq_true rfl)) dX10_gram_2 ⟨Nat.zero_le _, Nat.zero_le _⟩) (fun r_2 u_1 H locs hw hP hD hS => ?_)
  obtain ⟨hf_3, rfl⟩ := hw
  have hP : va_P (dC, dI) vwCl (rW h cs I L A Q) H := hP
  have hD : va_D A0 (rW h cs I L A Q) := hD
  rcases hf_3 with ⟨rfl, i_4, hi_5, hx_6⟩ | ⟨rfl, hn_7⟩
  · skip
    rw [hx_6] at hl
    refine xs_eqF (tgt := 16) hx hb dX10_gram_5 (by decide) (by decide) ?_
    refine lv_aload_n hx hb dX10_gram_8 rfl (lv_at hl 0 rfl) ?_
    refine lv_iload_n hx hb dX10_gram_9 rfl (lv_at hl 2 rfl) ?_
    refine xj_i (wc := (rW h cs I L A Q)) (wr := ([] : va_W)) hP hD hS hA [0, 1, 2, 3, 4, 5, 6, 7, 8, 9, 10, 11, 12, 13, 14, 15, 16] [] rfl rfl (by decide +kernel) (by decide +kernel) (va_runV (As := [.int y]) (rest := []) ⟨hx, hb, hml, hown, hts⟩ (k_X10_isColumn l dC dI h cs H.size I L A Q y M hM (by first | assumption | omega | exact hM1) (by first | assumption | omega | exact hM4)) (cwV 1 hts gX10_gram_X10_isColumn rfl rfl rfl (by decide +kernel) ⟨Nat.le_of_ble_eq_true rfl, Nat.le_of_ble_eq_true rfl⟩) (xpV (wc := (rW h cs I L A Q)) hP hD hK hN [0, 1, 2, 3, 4, 5, 6, 7, 8, 9, 10, 11, 12, 13, 14, 15, 16] rfl (by decide) 0 (ci := 10) rfl rfl _) rfl rfl hl.1 rfl (lv_room (Nat.le_of_ble_eq_true rfl)) dX10_gram_10 ⟨Nat.zero_le _, Nat.zero_le _⟩) (fun r_10 u_9 H locs hw hP hD hS => ?_)
    obtain ⟨hf_11, rfl⟩ := hw
    have hP : va_P (dC, dI) vwCl (rW h cs I L A Q) H := hP
    have hD : va_D A0 (rW h cs I L A Q) := hD
    rcases hf_11 with ⟨rfl, i_12, hi_13, hx_14⟩ | ⟨rfl, hn_15⟩
    · skip
      rw [hx_14] at hl
      refine xs_neT (tgt := 20) hx hb dX10_gram_13 (by decide) (by decide) ?_
      refine lv_aload_n hx hb dX10_gram_20 rfl (lv_at hl 0 rfl) ?_
      refine xj_v (wc := (rW h cs I L A Q)) (wr := ([] : va_W)) hP hD hS hA [0, 1, 2, 3, 4, 5, 6, 7, 8, 9, 10, 11, 12, 13, 14, 15, 16] [] rfl rfl (by decide +kernel) (by decide +kernel) (va_runV (As := []) (rest := []) ⟨hx, hb, hml, hown, hts⟩ (k_X10_lay l dC dI h cs H.size I L A Q R M hR (by first | assumption | omega | exact hR1) (by first | assumption | omega | exact hR5) hM (by first | assumption | omega | exact hM1) (by first | assumption | omega | exact hM4)) (cwV 0 hts gX10_gram_X10_lay rfl rfl rfl (by decide +kernel) ⟨Nat.le_of_ble_eq_true rfl, Nat.le_of_ble_eq_true rfl⟩) (xpV (wc := (rW h cs I L A Q)) hP hD hK hN [0, 1, 2, 3, 4, 5, 6, 7, 8, 9, 10, 11, 12, 13, 14, 15, 16] rfl (by decide) 0 (ci := 10) rfl rfl _) rfl rfl hl.1 rfl (lv_room (Nat.le_of_ble_eq_true rfl)) dX10_gram_21 ⟨Nat.zero_le _, Nat.zero_le _⟩) (fun u_17 H locs hw hP hD hS => ?_)
      obtain ⟨f17_19, f18_20, hf_21, rfl⟩ := hw
      have hP : va_P (dC, dI) vwCl (rW h cs I L (va_up (va_up A 17 f17_19) 18 f18_20) Q) H := hP
      have hD : va_D A0 (rW h cs I L (va_up (va_up A 17 f17_19) 18 f18_20) Q) := hD
      refine lv_aload_n hx hb dX10_gram_24 rfl (lv_at hl 0 rfl) ?_
      refine lv_iload_n hx hb dX10_gram_25 rfl (lv_at hl 1 rfl) ?_
      refine lv_iload_n hx hb dX10_gram_26 rfl (lv_at hl 2 rfl) ?_
      refine xj_i (wc := (rW h cs I L (va_up (va_up A 17 f17_19) 18 f18_20) Q)) (wr := ([] : va_W)) hP hD hS hA [0, 1, 2, 3, 4, 5, 6, 7, 8, 9, 10, 11, 12, 13, 14, 15, 16] [] rfl rfl (by decide +kernel) (by decide +kernel) (va_runV (As := [.int (nI i_4), .int (nI i_12)]) (rest := []) ⟨hx, hb, hml, hown, hts⟩ (k_X10_dot l dC dI h cs H.size I L (va_up (va_up A 17 f17_19) 18 f18_20) Q i_4 i_12 (by first | assumption | omega) (by first | assumption | omega)) (cwV 2 hts gX10_gram_X10_dot rfl rfl rfl (by decide +kernel) ⟨Nat.le_of_ble_eq_true rfl, Nat.le_of_ble_eq_true rfl⟩) (xpV (wc := (rW h cs I L (va_up (va_up A 17 f17_19) 18 f18_20) Q)) hP hD hK hN [0, 1, 2, 3, 4, 5, 6, 7, 8, 9, 10, 11, 12, 13, 14, 15, 16] rfl (by decide) 0 (ci := 10) rfl rfl _) rfl rfl hl.1 rfl (lv_room (Nat.le_of_ble_eq_true rfl)) dX10_gram_27 ⟨Nat.zero_le _, Nat.zero_le _⟩) (fun r_23 u_22 H locs hw hP hD hS => ?_)
      obtain ⟨hf_24, rfl⟩ := hw
      have hP : va_P (dC, dI) vwCl (rW h cs I L (va_up (va_up A 17 f17_19) 18 f18_20) Q) H := hP
      have hD : va_D A0 (rW h cs I L (va_up (va_up A 17 f17_19) 18 f18_20) Q) := hD
      obtain rfl := hf_24
      exact xr_i (v := (dotF f17_19 i_4 i_12)) hx hb hr hlocks hK hS dX10_gram_30 (I, L, (va_up (va_up A 17 f17_19) 18 f18_20), Q) ⟨f17_19, f18_20, (Or.inl ⟨i_4, i_12, hi_5, hi_13, hx_6, hx_14, hf_21, rfl⟩), rfl⟩ hP hD
    · skip
      refine xs_neF (tgt := 20) hx hb dX10_gram_13 (by decide) (by decide) ?_
      refine lv_sipush (v := (-10001)) hx hb dX10_gram_16 (by decide) ?_
      exact xr_i (v := (-10001)) hx hb hr hlocks hK hS dX10_gram_19 (I, L, (va_up (va_up A 17 (A 17)) 18 (A 18)), Q) ⟨(A 17), (A 18), (Or.inr ⟨rfl, fun i j a9 b9 c9 d9 => hn_15 j b9 d9, rfl, rfl⟩), rfl⟩ hP hD
  · skip
    refine xs_eqT (tgt := 16) hx hb dX10_gram_5 (by decide) (by decide) ?_
    refine lv_sipush (v := (-10001)) hx hb dX10_gram_16 (by decide) ?_
    exact xr_i (v := (-10001)) hx hb hr hlocks hK hS dX10_gram_19 (I, L, (va_up (va_up A 17 (A 17)) 18 (A 18)), Q) ⟨(A 17), (A 18), (Or.inr ⟨rfl, fun i j a9 b9 c9 d9 => hn_7 i a9 c9, rfl, rfl⟩), rfl⟩ hP hD
theorem bdX10_whole_0 : (decode cX10_whole 0 = .ok (.iconst 1, 1)) ∧ (decode cX10_whole 1 = .ok (.aload_n 0, 1)) ∧ (decode cX10_whole 2 = .ok (.getfield 13, 3)) ∧ (decode cX10_whole 5 = .ok (.ishl, 1)) ∧ (decode cX10_whole 6 = .ok (.iconst 1, 1)) ∧ (decode cX10_whole 7 = .ok (.isub, 1)) ∧ (decode cX10_whole 8 = .ok (.ireturn, 1)) := by decide +kernel
theorem dX10_whole_0 : decode cX10_whole 0 = .ok (.iconst 1, 1) := bdX10_whole_0.1
theorem dX10_whole_1 : decode cX10_whole 1 = .ok (.aload_n 0, 1) := bdX10_whole_0.2.1
theorem dX10_whole_2 : decode cX10_whole 2 = .ok (.getfield 13, 3) := bdX10_whole_0.2.2.1
theorem dX10_whole_5 : decode cX10_whole 5 = .ok (.ishl, 1) := bdX10_whole_0.2.2.2.1
theorem dX10_whole_6 : decode cX10_whole 6 = .ok (.iconst 1, 1) := bdX10_whole_0.2.2.2.2.1
theorem dX10_whole_7 : decode cX10_whole 7 = .ok (.isub, 1) := bdX10_whole_0.2.2.2.2.2.1
theorem dX10_whole_8 : decode cX10_whole 8 = .ok (.ireturn, 1) := bdX10_whole_0.2.2.2.2.2.2
set_option maxHeartbeats 4000000 in
set_option maxRecDepth 100000 in
theorem k_X10_whole (l : Launch) (dC : Nat → ClassId) (dI : Nat → Nat → Nat) (h : Nat → Nat) (cs : Nat → ClassId) (sz : Nat) (I : Nat → Int32) (L : Nat → Int64) (A : Nat → Nat → Int32) (Q : Nat → Nat → Int64) (M : Nat) (hM : I 1 = nI M) (hM1 : 1 ≤ M) (hM4 : M ≤ 4) : Met l yX10_whole wsX10_whole ({ frames := 0, cells := 0, slots := 0, locals := 0 }) (va_Pc [.ref (h 0)] (xPre (dC, dI) (rW h cs I L A Q) (tysA cs) sz)) (va_Qi (fun (r : Int32) (u : RS) => (r = nI (2 ^ M - 1)) ∧ u = (I, L, A, Q)) (xB (dC, dI) (tysA cs) (va_A (rW h cs I L A Q) sz) (fun u : RS => rW h cs u.1 u.2.1 u.2.2.1 u.2.2.2)) (va_A (rW h cs I L A Q) sz)) 0 0 (va_A (rW h cs I L A Q) sz) := by
  refine Met.ofW (cc := cX10_whole) (maxL := 1) (ret := (some .int)) (by decide) rfl ?_
  intro p e s m args below meth c s₁ B hml hv
  obtain ⟨rfl, hsz, hP, hK, hD0, hN⟩ := hv
  have hx := B.exec
  have hb := B.bytes
  have hr := B.returns
  have hts := atoms_spec (ws := wsX10_whole) B.pre
  have hown : s.vm.findClass RX10 = some m.cls := findClass_of_methodNamed B.named
  have hlocks := B.notSynchronized
  subst hsz
  have hD := hD0.self (sz := s.heap.size)
  generalize hAe : va_A (rW h cs I L A Q) s.heap.size = A0 at hD ⊢
  have hA : ∀ q : Nat, s.heap.size ≤ q → A0 q := fun q h => by rw [← hAe]; exact Or.inr h
  have hl := lv_entry ([.ref (h 0)]) (n := 1) (Nat.le_of_ble_eq_true rfl)
  rw [lg_entry_eq]
  generalize (lg_sl ([.ref (h 0)]) ++ List.replicate (1 - (lg_sl ([.ref (h 0)])).length) Slot.unset).toArray = ls at hl ⊢
  have hl : lv_has ls 1 [(0, .ref (h 0))] := hl
  generalize hH : s.heap = H at hP ⊢
  have hS : va_S A0 s.heap H [] := by rw [← hH]; exact va_S.rf
  have hinX10 : ∀ w ∈ wsX100, w ∈ wsX10_whole := by decide +kernel
  have hp1 : 1 ≤ 2 ^ M := Nat.one_le_two_pow
  refine lv_iconst (v := nI 1) hx hb dX10_whole_0 (by decide) ?_
  refine lv_aload_n hx hb dX10_whole_1 rfl (lv_at hl 0 rfl) ?_
  refine va_get (D := (dC, dI)) (ci := 10) (v := .int (I 1)) (C := RX10) (T := TX10) (N := 28) hx hb hts hinX10 hown hK hP 0 rfl rfl 1 (by decide) (hts (.fieldLink RX10 13 "MixedWordsModel" "columns" "I") (by decide +kernel)) (fun _ h9 => h9) rfl dX10_whole_2 ?_
  refine xt_i (y := nI M) (hM) ?_
  refine lv_ishl hx hb dX10_whole_5 ?_
  refine xt_i (y := nI (2 ^ M)) (shl1 hM4) ?_
  refine lv_iconst (v := nI 1) hx hb dX10_whole_6 (by decide) ?_
  refine lv_isub hx hb dX10_whole_7 ?_
  refine xt_i (y := nI ((2 ^ M) - 1)) (pk_sub (by omega)) ?_
  exact xr_i (v := (nI ((2 ^ M) - 1))) hx hb hr hlocks hK hS dX10_whole_8 (I, L, A, Q) ⟨rfl, rfl⟩ hP hD
theorem bdX10_meetHeard_0 : (decode cX10_meetHeard 0 = .ok (.iconst 0, 1)) ∧ (decode cX10_meetHeard 1 = .ok (.istore_n 1, 1)) ∧ (decode cX10_meetHeard 2 = .ok (.iload_n 1, 1)) ∧ (decode cX10_meetHeard 3 = .ok (.iconst 5, 1)) ∧ (decode cX10_meetHeard 4 = .ok (.if_icmp .ge 37, 3)) ∧ (decode cX10_meetHeard 7 = .ok (.aload_n 0, 1)) ∧ (decode cX10_meetHeard 8 = .ok (.getfield 51, 3)) ∧ (decode cX10_meetHeard 11 = .ok (.iload_n 1, 1)) ∧ (decode cX10_meetHeard 12 = .ok (.iload_n 1, 1)) ∧ (decode cX10_meetHeard 13 = .ok (.aload_n 0, 1)) ∧ (decode cX10_meetHeard 14 = .ok (.getfield 7, 3)) ∧ (decode cX10_meetHeard 17 = .ok (.if_icmp .ge 16, 3)) ∧ (decode cX10_meetHeard 20 = .ok (.aload_n 0, 1)) ∧ (decode cX10_meetHeard 21 = .ok (.getfield 19, 3)) ∧ (decode cX10_meetHeard 24 = .ok (.iconst 5, 1)) ∧ (decode cX10_meetHeard 25 = .ok (.iload_n 1, 1)) := by decide +kernel
theorem dX10_meetHeard_0 : decode cX10_meetHeard 0 = .ok (.iconst 0, 1) := bdX10_meetHeard_0.1
theorem dX10_meetHeard_1 : decode cX10_meetHeard 1 = .ok (.istore_n 1, 1) := bdX10_meetHeard_0.2.1
theorem dX10_meetHeard_2 : decode cX10_meetHeard 2 = .ok (.iload_n 1, 1) := bdX10_meetHeard_0.2.2.1
theorem dX10_meetHeard_3 : decode cX10_meetHeard 3 = .ok (.iconst 5, 1) := bdX10_meetHeard_0.2.2.2.1
theorem dX10_meetHeard_4 : decode cX10_meetHeard 4 = .ok (.if_icmp .ge 37, 3) := bdX10_meetHeard_0.2.2.2.2.1
theorem dX10_meetHeard_7 : decode cX10_meetHeard 7 = .ok (.aload_n 0, 1) := bdX10_meetHeard_0.2.2.2.2.2.1
theorem dX10_meetHeard_8 : decode cX10_meetHeard 8 = .ok (.getfield 51, 3) := bdX10_meetHeard_0.2.2.2.2.2.2.1
theorem dX10_meetHeard_11 : decode cX10_meetHeard 11 = .ok (.iload_n 1, 1) := bdX10_meetHeard_0.2.2.2.2.2.2.2.1
theorem dX10_meetHeard_12 : decode cX10_meetHeard 12 = .ok (.iload_n 1, 1) := bdX10_meetHeard_0.2.2.2.2.2.2.2.2.1
theorem dX10_meetHeard_13 : decode cX10_meetHeard 13 = .ok (.aload_n 0, 1) := bdX10_meetHeard_0.2.2.2.2.2.2.2.2.2.1
theorem dX10_meetHeard_14 : decode cX10_meetHeard 14 = .ok (.getfield 7, 3) := bdX10_meetHeard_0.2.2.2.2.2.2.2.2.2.2.1
theorem dX10_meetHeard_17 : decode cX10_meetHeard 17 = .ok (.if_icmp .ge 16, 3) := bdX10_meetHeard_0.2.2.2.2.2.2.2.2.2.2.2.1
theorem dX10_meetHeard_20 : decode cX10_meetHeard 20 = .ok (.aload_n 0, 1) := bdX10_meetHeard_0.2.2.2.2.2.2.2.2.2.2.2.2.1
theorem dX10_meetHeard_21 : decode cX10_meetHeard 21 = .ok (.getfield 19, 3) := bdX10_meetHeard_0.2.2.2.2.2.2.2.2.2.2.2.2.2.1
theorem dX10_meetHeard_24 : decode cX10_meetHeard 24 = .ok (.iconst 5, 1) := bdX10_meetHeard_0.2.2.2.2.2.2.2.2.2.2.2.2.2.2.1
theorem dX10_meetHeard_25 : decode cX10_meetHeard 25 = .ok (.iload_n 1, 1) := bdX10_meetHeard_0.2.2.2.2.2.2.2.2.2.2.2.2.2.2.2
theorem bdX10_meetHeard_26 : (decode cX10_meetHeard 26 = .ok (.imul, 1)) ∧ (decode cX10_meetHeard 27 = .ok (.iconst 4, 1)) ∧ (decode cX10_meetHeard 28 = .ok (.iadd, 1)) ∧ (decode cX10_meetHeard 29 = .ok (.iaload, 1)) ∧ (decode cX10_meetHeard 30 = .ok (.goto 4, 3)) ∧ (decode cX10_meetHeard 33 = .ok (.iconst 0, 1)) ∧ (decode cX10_meetHeard 34 = .ok (.iastore, 1)) ∧ (decode cX10_meetHeard 35 = .ok (.iinc 1 1, 3)) ∧ (decode cX10_meetHeard 38 = .ok (.goto (-36), 3)) ∧ (decode cX10_meetHeard 41 = .ok (.return_, 1)) := by decide +kernel
theorem dX10_meetHeard_26 : decode cX10_meetHeard 26 = .ok (.imul, 1) := bdX10_meetHeard_26.1
theorem dX10_meetHeard_27 : decode cX10_meetHeard 27 = .ok (.iconst 4, 1) := bdX10_meetHeard_26.2.1
theorem dX10_meetHeard_28 : decode cX10_meetHeard 28 = .ok (.iadd, 1) := bdX10_meetHeard_26.2.2.1
theorem dX10_meetHeard_29 : decode cX10_meetHeard 29 = .ok (.iaload, 1) := bdX10_meetHeard_26.2.2.2.1
theorem dX10_meetHeard_30 : decode cX10_meetHeard 30 = .ok (.goto 4, 3) := bdX10_meetHeard_26.2.2.2.2.1
theorem dX10_meetHeard_33 : decode cX10_meetHeard 33 = .ok (.iconst 0, 1) := bdX10_meetHeard_26.2.2.2.2.2.1
theorem dX10_meetHeard_34 : decode cX10_meetHeard 34 = .ok (.iastore, 1) := bdX10_meetHeard_26.2.2.2.2.2.2.1
theorem dX10_meetHeard_35 : decode cX10_meetHeard 35 = .ok (.iinc 1 1, 3) := bdX10_meetHeard_26.2.2.2.2.2.2.2.1
theorem dX10_meetHeard_38 : decode cX10_meetHeard 38 = .ok (.goto (-36), 3) := bdX10_meetHeard_26.2.2.2.2.2.2.2.2.1
theorem dX10_meetHeard_41 : decode cX10_meetHeard 41 = .ok (.return_, 1) := bdX10_meetHeard_26.2.2.2.2.2.2.2.2.2
set_option maxHeartbeats 4000000 in
set_option maxRecDepth 100000 in
theorem k_X10_meetHeard (l : Launch) (dC : Nat → ClassId) (dI : Nat → Nat → Nat) (h : Nat → Nat) (cs : Nat → ClassId) (sz : Nat) (I : Nat → Int32) (L : Nat → Int64) (A : Nat → Nat → Int32) (Q : Nat → Nat → Int64) (R : Nat) (hR : I 0 = nI R) (hR1 : 1 ≤ R) (hR5 : R ≤ 5) : Met l yX10_meetHeard wsX10_meetHeard ({ frames := 0, cells := 0, slots := 0, locals := 0 }) (va_Pc [.ref (h 0)] (xPre (dC, dI) (rW h cs I L A Q) (tysA cs) sz)) (va_Qv (fun (u : RS) => ∃ f20 : Nat → Int32, (∀ t : Nat, t < 5 → f20 t = metF (A 3) R t) ∧ u = (I, L, (va_up A 20 f20), Q)) (xB (dC, dI) (tysA cs) (va_A (rW h cs I L A Q) sz) (fun u : RS => rW h cs u.1 u.2.1 u.2.2.1 u.2.2.2)) (va_A (rW h cs I L A Q) sz)) 0 0 (va_A (rW h cs I L A Q) sz) := by
  refine Met.ofW (cc := cX10_meetHeard) (maxL := 2) (ret := none) (by decide) rfl ?_
  intro p e s m args below meth c s₁ B hml hv
  obtain ⟨rfl, hsz, hP, hK, hD0, hN⟩ := hv
  have hx := B.exec
  have hb := B.bytes
  have hr := B.returns
  have hts := atoms_spec (ws := wsX10_meetHeard) B.pre
  have hown : s.vm.findClass RX10 = some m.cls := findClass_of_methodNamed B.named
  have hlocks := B.notSynchronized
  subst hsz
  have hD := hD0.self (sz := s.heap.size)
  generalize hAe : va_A (rW h cs I L A Q) s.heap.size = A0 at hD ⊢
  have hA : ∀ q : Nat, s.heap.size ≤ q → A0 q := fun q h => by rw [← hAe]; exact Or.inr h
  have hl := lv_entry ([.ref (h 0)]) (n := 2) (Nat.le_of_ble_eq_true rfl)
  rw [lg_entry_eq]
  generalize (lg_sl ([.ref (h 0)]) ++ List.replicate (2 - (lg_sl ([.ref (h 0)])).length) Slot.unset).toArray = ls at hl ⊢
  have hl : lv_has ls 2 [(0, .ref (h 0))] := hl
  generalize hH : s.heap = H at hP ⊢
  have hS : va_S A0 s.heap H [] := by rw [← hH]; exact va_S.rf
  have hinX10 : ∀ w ∈ wsX100, w ∈ wsX10_meetHeard := by decide +kernel
  refine lv_iconst (v := nI 0) hx hb dX10_meetHeard_0 (by decide) ?_
  refine lv_istore_n (lv' := [(1, .int (nI 0)), (0, .ref (h 0))]) hx hb dX10_meetHeard_1 rfl hl (by decide) rfl (fun ls hl => ?_)
  have cut_2 : ∀ (nf : Nat) (k : Nat) (g : Nat → Int32), (5 - k) < nf → (k ≤ 5) → (∀ t : Nat, t < k → g t = metF (A 3) R t) → ∀ (H : Heap) (locs : List Loc) (ls : Array Slot), va_P (dC, dI) vwCl (rW h cs I L (va_up A 20 g) Q) H → va_D A0 (rW h cs I L (va_up A 20 g) Q) → va_S A0 s.heap H locs → lv_has ls 2 [(0, .ref (h 0)), (1, .int (nI k))] → W p l e (headSpec wsX10_meetHeard ({ frames := 0, cells := 0, slots := 0, locals := 0 })).room s m ([.ref (h 0)] : List Value).toArray below meth c H locs 0 0 (MQ below (va_Qv (fun (u : RS) => ∃ f20 : Nat → Int32, (∀ t : Nat, t < 5 → f20 t = metF (A 3) R t) ∧ u = (I, L, (va_up A 20 f20), Q)) (xB (dC, dI) (tysA cs) A0 (fun u : RS => rW h cs u.1 u.2.1 u.2.2.1 u.2.2.2)) A0) ([.ref (h 0)] : List Value).toArray s 0 0 A0) (F0 m 2 ls []) := by
    intro nf
    induction nf with
    | zero => intro k g hm; exact absurd hm (Nat.not_lt_zero _)
    | succ nf ih_2 =>
      intro k g hm_2 hk_2 hg_2 H locs ls hP hD hS hl
      refine lv_iload_n hx hb dX10_meetHeard_2 rfl (lv_at hl 1 rfl) ?_
      refine lv_iconst (v := nI 5) hx hb dX10_meetHeard_3 (by decide) ?_
      refine xn_ge (tgt := 41) hx hb dX10_meetHeard_4 (by decide) (by omega) (by omega) (fun c_4_0 => ?_) (fun c_4_0 => ?_)
      · skip
        exact xr_v hx hb hr hlocks hK hS dX10_meetHeard_41 (I, L, (va_up A 20 g), Q) ⟨g, (fun t ht => hg_2 t (by omega)), rfl⟩ hP hD
      · skip
        refine lv_aload_n hx hb dX10_meetHeard_7 rfl (lv_at hl 0 rfl) ?_
        refine va_get (D := (dC, dI)) (ci := 10) (v := .ref (h 20)) (C := RX10) (T := TX10) (N := 28) hx hb hts hinX10 hown hK hP 0 rfl rfl 20 (by decide) (hts (.fieldLink RX10 51 "MixedWordsModel" "met" "[I") (by decide +kernel)) (fun _ h9 => h9) rfl dX10_meetHeard_8 ?_
        refine lv_iload_n hx hb dX10_meetHeard_11 rfl (lv_at hl 1 rfl) ?_
        refine lv_iload_n hx hb dX10_meetHeard_12 rfl (lv_at hl 1 rfl) ?_
        refine lv_aload_n hx hb dX10_meetHeard_13 rfl (lv_at hl 0 rfl) ?_
        refine va_get (D := (dC, dI)) (ci := 10) (v := .int (I 0)) (C := RX10) (T := TX10) (N := 28) hx hb hts hinX10 hown hK hP 0 rfl rfl 0 (by decide) (hts (.fieldLink RX10 7 "MixedWordsModel" "rows" "I") (by decide +kernel)) (fun _ h9 => h9) rfl dX10_meetHeard_14 ?_
        refine xt_i (y := nI R) (hR) ?_
        refine xn_ge (tgt := 33) hx hb dX10_meetHeard_17 (by decide) (by omega) (by omega) (fun c_17_1 => ?_) (fun c_17_1 => ?_)
        · skip
          refine lv_iconst (v := nI 0) hx hb dX10_meetHeard_33 (by decide) ?_
          refine xa_iast hx hb hK hP hD hS 11 0 rfl rfl (by omega) (by decide) dX10_meetHeard_34 (fun H locs hP hD hS => ?_)
          have hP : va_P (dC, dI) vwCl (rW h cs I L (va_up A 20 (upd g k (nI 0))) Q) H := hP
          have hD : va_D A0 (rW h cs I L (va_up A 20 (upd g k (nI 0))) Q) := hD
          refine lv_iinc (v := nI (k + 1)) (lv' := [(1, .int (nI (k + 1))), (0, .ref (h 0))]) hx hb dX10_meetHeard_35 hl (k := 1) rfl (nI_1 _) (by decide) rfl (fun ls hl => ?_)
          refine lv_goto (tgt := 2) hx hb dX10_meetHeard_38 (by decide) ?_
          exact ih_2 (k + 1) (upd g k (nI 0)) (by omega) (by first | assumption | omega) (by first | exact (fun t ht => absurd ht (Nat.not_lt_zero t)) | (have e9 : _ = metF (A 3) R k := (by first | (rw [metF, if_pos (by assumption)]) | (rw [metF, if_neg (by omega)])); intro t ht; by_cases e : t = k; (· subst e; rw [pk_us]; first | (rw [metF, if_pos (by assumption)]) | (rw [metF, if_neg (by omega)])); (· rw [pk_un e]; exact hg_2 t (by omega)))) _ _ _ hP hD hS (lv_sub hl [1, 0] rfl)
        · skip
          refine lv_aload_n hx hb dX10_meetHeard_20 rfl (lv_at hl 0 rfl) ?_
          refine va_get (D := (dC, dI)) (ci := 10) (v := .ref (h 3)) (C := RX10) (T := TX10) (N := 28) hx hb hts hinX10 hown hK hP 0 rfl rfl 3 (by decide) (hts (.fieldLink RX10 19 "MixedWordsModel" "told" "[I") (by decide +kernel)) (fun _ h9 => h9) rfl dX10_meetHeard_21 ?_
          refine lv_iconst (v := nI 5) hx hb dX10_meetHeard_24 (by decide) ?_
          refine lv_iload_n hx hb dX10_meetHeard_25 rfl (lv_at hl 1 rfl) ?_
          refine lv_imul hx hb dX10_meetHeard_26 ?_
          refine xt_i (y := nI (5 * k)) (pk_mul _ _) ?_
          refine lv_iconst (v := nI 4) hx hb dX10_meetHeard_27 (by decide) ?_
          refine lv_iadd hx hb dX10_meetHeard_28 ?_
          refine xt_i (y := nI ((5 * k) + 4)) (nI_add _ _) ?_
          refine xa_iald hx hb hK hP 1 0 rfl rfl (by omega) (by decide) dX10_meetHeard_29 ?_
          refine lv_goto (tgt := 34) hx hb dX10_meetHeard_30 (by decide) ?_
          refine xa_iast hx hb hK hP hD hS 11 0 rfl rfl (by omega) (by decide) dX10_meetHeard_34 (fun H locs hP hD hS => ?_)
          have hP : va_P (dC, dI) vwCl (rW h cs I L (va_up A 20 (upd g k (A 3 ((5 * k) + 4)))) Q) H := hP
          have hD : va_D A0 (rW h cs I L (va_up A 20 (upd g k (A 3 ((5 * k) + 4)))) Q) := hD
          refine lv_iinc (v := nI (k + 1)) (lv' := [(1, .int (nI (k + 1))), (0, .ref (h 0))]) hx hb dX10_meetHeard_35 hl (k := 1) rfl (nI_1 _) (by decide) rfl (fun ls hl => ?_)
          refine lv_goto (tgt := 2) hx hb dX10_meetHeard_38 (by decide) ?_
          exact ih_2 (k + 1) (upd g k (A 3 ((5 * k) + 4))) (by omega) (by first | assumption | omega) (by first | exact (fun t ht => absurd ht (Nat.not_lt_zero t)) | (have e9 : _ = metF (A 3) R k := (by first | (rw [metF, if_pos (by assumption)]) | (rw [metF, if_neg (by omega)])); intro t ht; by_cases e : t = k; (· subst e; rw [pk_us]; first | (rw [metF, if_pos (by assumption)]) | (rw [metF, if_neg (by omega)])); (· rw [pk_un e]; exact hg_2 t (by omega)))) _ _ _ hP hD hS (lv_sub hl [1, 0] rfl)
  exact cut_2 _ 0 (A 20) (Nat.lt_succ_self _) (by first | assumption | omega) (by first | exact (fun t ht => absurd ht (Nat.not_lt_zero t)) | (have e9 : _ = metF (A 3) R k := (by first | (rw [metF, if_pos (by assumption)]) | (rw [metF, if_neg (by omega)])); intro t ht; by_cases e : t = k; (· subst e; rw [pk_us]; first | (rw [metF, if_pos (by assumption)]) | (rw [metF, if_neg (by omega)])); (· rw [pk_un e]; exact hg_2 t (by omega)))) _ _ _ hP hD hS (lv_sub hl [1, 0] rfl)
