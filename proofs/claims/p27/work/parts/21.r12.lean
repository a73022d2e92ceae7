
def wrg (w : Int32) (q : Nat) : Int32 := if w < 0 then nI q else w
def IsDig (x : Int32) : Prop := 48 ≤ x.toInt ∧ x.toInt ≤ 57
def digV (t : Nat → Int32) (b : Nat) : Nat → Int32
  | 0 => nI 0
  | k + 1 => if digV t b k ≤ nI 9 then nI 10 * digV t b k + t (b + k) - nI 48 else digV t b k
def IsDigs (t : Nat → Int32) (T b j : Nat) : Prop := b ≤ j ∧ j ≤ T ∧ (∀ u : Nat, b ≤ u → u < j → IsDig (t u)) ∧ (j < T → ¬ IsDig (t j))
/-- a number from a on: where it ends, what is wrong behind it, its value -/
def numP (t : Nat → Int32) (T a : Nat) (w : Int32) (a2 : Nat) (w2 v : Int32) : Prop := ∃ j1 j2 : Nat, ∃ ng : Bool, IsSkip t T a j1 ∧ (ng = true ↔ tpAt t T j1 = nI 45) ∧ IsSkip t T (if ng then j1 + 1 else j1) j2 ∧
  ((¬ IsDig (tpAt t T j2) ∧ a2 = j2 ∧ w2 = wrg w j2 ∧ v = nI 0) ∨ (IsDig (tpAt t T j2) ∧ ∃ j3 : Nat, IsDigs t T j2 j3 ∧ a2 = j3 ∧ w2 = (if digV t j2 (j3 - j2) ≤ nI 9 then w else wrg w j2) ∧ v = if ng then -digV t j2 (j3 - j2) else digV t j2 (j3 - j2)))
theorem tp_lt {t : Nat → Int32} {T j : Nat} (h : tpAt t T j = nI 45) : j < T := by
  rcases Nat.lt_or_ge j T with g | g
  · exact g
  · rw [tpAt, if_neg (by omega)] at h
    exact absurd h (by decide)
theorem dig_lt {t : Nat → Int32} {T j : Nat} (h : IsDig (tpAt t T j)) : j < T := by
  rcases Nat.lt_or_ge j T with g | g
  · exact g
  · rw [tpAt, if_neg (by omega)] at h
    exact absurd h.1 (by decide)
theorem dig_le {t : Nat → Int32} {b j : Nat} {v : Int32} (hb : b ≤ j) (hv : v = digV t b (j - b)) (h : v ≤ nI 9) : nI 10 * v + t j - nI 48 = digV t b (j + 1 - b) := by
  rw [show j + 1 - b = (j - b) + 1 by omega, digV, ← hv, if_pos h, show b + (j - b) = j by omega]
theorem dig_gt {t : Nat → Int32} {b j : Nat} {v : Int32} (hb : b ≤ j) (hv : v = digV t b (j - b)) (h : ¬ v ≤ nI 9) : v = digV t b (j + 1 - b) := by
  rw [show j + 1 - b = (j - b) + 1 by omega, digV, ← hv, if_neg h]
set_option maxRecDepth 20000 in
theorem ggX10_number_X10_next : GoodIn wsX10_number wsX10_next := goodIn_r _ [10, 1, 4, 5, 19, 20, 21, 22, 23, 24, 25, 26, 27, 28, 29, 30, 31, 32, 33, 34, 35, 36, 37, 38, 39, 40, 41, 42, 43, 44, 45, 46] rfl (by decide +kernel)
set_option maxRecDepth 20000 in
theorem gX10_number_X10_next : GoodIn wsX10_number (wsV RX10 125 RX10 yX10_next wsX10_next) := goodIn_app (goodIn_of _ (by decide +kernel)) ggX10_number_X10_next
set_option maxRecDepth 20000 in
theorem ggX10_number_X10_in : GoodIn wsX10_number wsX10_in := goodIn_r _ [13] rfl (by decide +kernel)
set_option maxRecDepth 20000 in
theorem gX10_number_X10_in : GoodIn wsX10_number (va_wsS RX10 77 yX10_in wsX10_in) := goodIn_app (goodIn_of _ (by decide +kernel)) ggX10_number_X10_in
set_option maxRecDepth 20000 in
theorem ggX10_number_X10_fails : GoodIn wsX10_number wsX10_fails := goodIn_r _ [17, 18, 19, 20, 21, 22, 23, 24, 25, 26, 27, 28, 29, 30, 31, 32, 33, 34, 35, 36, 37, 38, 39, 40, 41, 42, 43, 44, 45, 46] rfl (by decide +kernel)
set_option maxRecDepth 20000 in
theorem gX10_number_X10_fails : GoodIn wsX10_number (wsV RX10 133 RX10 yX10_fails wsX10_fails) := goodIn_app (goodIn_of _ (by decide +kernel)) ggX10_number_X10_fails
theorem bdX10_number_0 : (decode cX10_number 0 = .ok (.aload_n 0, 1)) ∧ (decode cX10_number 1 = .ok (.invokevirtual 125, 3)) ∧ (decode cX10_number 4 = .ok (.bipush 45, 2)) ∧ (decode cX10_number 6 = .ok (.if_icmp .ne 7, 3)) ∧ (decode cX10_number 9 = .ok (.iconst 1, 1)) ∧ (decode cX10_number 10 = .ok (.goto 4, 3)) ∧ (decode cX10_number 13 = .ok (.iconst 0, 1)) ∧ (decode cX10_number 14 = .ok (.istore_n 1, 1)) ∧ (decode cX10_number 15 = .ok (.aload_n 0, 1)) ∧ (decode cX10_number 16 = .ok (.dup, 1)) ∧ (decode cX10_number 17 = .ok (.getfield 119, 3)) ∧ (decode cX10_number 20 = .ok (.iload_n 1, 1)) ∧ (decode cX10_number 21 = .ok (.ifCond .eq 7, 3)) ∧ (decode cX10_number 24 = .ok (.iconst 1, 1)) ∧ (decode cX10_number 25 = .ok (.goto 4, 3)) ∧ (decode cX10_number 28 = .ok (.iconst 0, 1)) := by decide +kernel
theorem dX10_number_0 : decode cX10_number 0 = .ok (.aload_n 0, 1) := bdX10_number_0.1
theorem dX10_number_1 : decode cX10_number 1 = .ok (.invokevirtual 125, 3) := bdX10_number_0.2.1
theorem dX10_number_4 : decode cX10_number 4 = .ok (.bipush 45, 2) := bdX10_number_0.2.2.1
theorem dX10_number_6 : decode cX10_number 6 = .ok (.if_icmp .ne 7, 3) := bdX10_number_0.2.2.2.1
theorem dX10_number_9 : decode cX10_number 9 = .ok (.iconst 1, 1) := bdX10_number_0.2.2.2.2.1
theorem dX10_number_10 : decode cX10_number 10 = .ok (.goto 4, 3) := bdX10_number_0.2.2.2.2.2.1
theorem dX10_number_13 : decode cX10_number 13 = .ok (.iconst 0, 1) := bdX10_number_0.2.2.2.2.2.2.1
theorem dX10_number_14 : decode cX10_number 14 = .ok (.istore_n 1, 1) := bdX10_number_0.2.2.2.2.2.2.2.1
theorem dX10_number_15 : decode cX10_number 15 = .ok (.aload_n 0, 1) := bdX10_number_0.2.2.2.2.2.2.2.2.1
theorem dX10_number_16 : decode cX10_number 16 = .ok (.dup, 1) := bdX10_number_0.2.2.2.2.2.2.2.2.2.1
theorem dX10_number_17 : decode cX10_number 17 = .ok (.getfield 119, 3) := bdX10_number_0.2.2.2.2.2.2.2.2.2.2.1
theorem dX10_number_20 : decode cX10_number 20 = .ok (.iload_n 1, 1) := bdX10_number_0.2.2.2.2.2.2.2.2.2.2.2.1
theorem dX10_number_21 : decode cX10_number 21 = .ok (.ifCond .eq 7, 3) := bdX10_number_0.2.2.2.2.2.2.2.2.2.2.2.2.1
theorem dX10_number_24 : decode cX10_number 24 = .ok (.iconst 1, 1) := bdX10_number_0.2.2.2.2.2.2.2.2.2.2.2.2.2.1
theorem dX10_number_25 : decode cX10_number 25 = .ok (.goto 4, 3) := bdX10_number_0.2.2.2.2.2.2.2.2.2.2.2.2.2.2.1
theorem dX10_number_28 : decode cX10_number 28 = .ok (.iconst 0, 1) := bdX10_number_0.2.2.2.2.2.2.2.2.2.2.2.2.2.2.2
theorem bdX10_number_29 : (decode cX10_number 29 = .ok (.iadd, 1)) ∧ (decode cX10_number 30 = .ok (.putfield 119, 3)) ∧ (decode cX10_number 33 = .ok (.aload_n 0, 1)) ∧ (decode cX10_number 34 = .ok (.invokevirtual 125, 3)) ∧ (decode cX10_number 37 = .ok (.i2l, 1)) ∧ (decode cX10_number 38 = .ok (.ldc2_w 129, 3)) ∧ (decode cX10_number 41 = .ok (.ldc2_w 131, 3)) ∧ (decode cX10_number 44 = .ok (.invokestatic 77, 3)) ∧ (decode cX10_number 47 = .ok (.ifCond .ne 13, 3)) ∧ (decode cX10_number 50 = .ok (.aload_n 0, 1)) ∧ (decode cX10_number 51 = .ok (.aload_n 0, 1)) ∧ (decode cX10_number 52 = .ok (.getfield 119, 3)) ∧ (decode cX10_number 55 = .ok (.invokevirtual 133, 3)) ∧ (decode cX10_number 58 = .ok (.iconst 0, 1)) ∧ (decode cX10_number 59 = .ok (.ireturn, 1)) ∧ (decode cX10_number 60 = .ok (.aload_n 0, 1)) := by decide +kernel
theorem dX10_number_29 : decode cX10_number 29 = .ok (.iadd, 1) := bdX10_number_29.1
theorem dX10_number_30 : decode cX10_number 30 = .ok (.putfield 119, 3) := bdX10_number_29.2.1
theorem dX10_number_33 : decode cX10_number 33 = .ok (.aload_n 0, 1) := bdX10_number_29.2.2.1
theorem dX10_number_34 : decode cX10_number 34 = .ok (.invokevirtual 125, 3) := bdX10_number_29.2.2.2.1
theorem dX10_number_37 : decode cX10_number 37 = .ok (.i2l, 1) := bdX10_number_29.2.2.2.2.1
theorem dX10_number_38 : decode cX10_number 38 = .ok (.ldc2_w 129, 3) := bdX10_number_29.2.2.2.2.2.1
theorem dX10_number_41 : decode cX10_number 41 = .ok (.ldc2_w 131, 3) := bdX10_number_29.2.2.2.2.2.2.1
theorem dX10_number_44 : decode cX10_number 44 = .ok (.invokestatic 77, 3) := bdX10_number_29.2.2.2.2.2.2.2.1
theorem dX10_number_47 : decode cX10_number 47 = .ok (.ifCond .ne 13, 3) := bdX10_number_29.2.2.2.2.2.2.2.2.1
theorem dX10_number_50 : decode cX10_number 50 = .ok (.aload_n 0, 1) := bdX10_number_29.2.2.2.2.2.2.2.2.2.1
theorem dX10_number_51 : decode cX10_number 51 = .ok (.aload_n 0, 1) := bdX10_number_29.2.2.2.2.2.2.2.2.2.2.1
theorem dX10_number_52 : decode cX10_number 52 = .ok (.getfield 119, 3) := bdX10_number_29.2.2.2.2.2.2.2.2.2.2.2.1
theorem dX10_number_55 : decode cX10_number 55 = .ok (.invokevirtual 133, 3) := bdX10_number_29.2.2.2.2.2.2.2.2.2.2.2.2.1
theorem dX10_number_58 : decode cX10_number 58 = .ok (.iconst 0, 1) := bdX10_number_29.2.2.2.2.2.2.2.2.2.2.2.2.2.1
theorem dX10_number_59 : decode cX10_number 59 = .ok (.ireturn, 1) := bdX10_number_29.2.2.2.2.2.2.2.2.2.2.2.2.2.2.1
theorem dX10_number_60 : decode cX10_number 60 = .ok (.aload_n 0, 1) := bdX10_number_29.2.2.2.2.2.2.2.2.2.2.2.2.2.2.2
theorem bdX10_number_61 : (decode cX10_number 61 = .ok (.getfield 119, 3)) ∧ (decode cX10_number 64 = .ok (.istore_n 2, 1)) ∧ (decode cX10_number 65 = .ok (.iconst 0, 1)) ∧ (decode cX10_number 66 = .ok (.istore_n 3, 1)) ∧ (decode cX10_number 67 = .ok (.aload_n 0, 1)) ∧ (decode cX10_number 68 = .ok (.getfield 119, 3)) ∧ (decode cX10_number 71 = .ok (.aload_n 0, 1)) ∧ (decode cX10_number 72 = .ok (.getfield 116, 3)) ∧ (decode cX10_number 75 = .ok (.if_icmp .ge 66, 3)) ∧ (decode cX10_number 78 = .ok (.aload_n 0, 1)) ∧ (decode cX10_number 79 = .ok (.getfield 32, 3)) ∧ (decode cX10_number 82 = .ok (.aload_n 0, 1)) ∧ (decode cX10_number 83 = .ok (.getfield 119, 3)) ∧ (decode cX10_number 86 = .ok (.iaload, 1)) ∧ (decode cX10_number 87 = .ok (.i2l, 1)) ∧ (decode cX10_number 88 = .ok (.ldc2_w 129, 3)) := by decide +kernel
theorem dX10_number_61 : decode cX10_number 61 = .ok (.getfield 119, 3) := bdX10_number_61.1
theorem dX10_number_64 : decode cX10_number 64 = .ok (.istore_n 2, 1) := bdX10_number_61.2.1
theorem dX10_number_65 : decode cX10_number 65 = .ok (.iconst 0, 1) := bdX10_number_61.2.2.1
theorem dX10_number_66 : decode cX10_number 66 = .ok (.istore_n 3, 1) := bdX10_number_61.2.2.2.1
theorem dX10_number_67 : decode cX10_number 67 = .ok (.aload_n 0, 1) := bdX10_number_61.2.2.2.2.1
theorem dX10_number_68 : decode cX10_number 68 = .ok (.getfield 119, 3) := bdX10_number_61.2.2.2.2.2.1
theorem dX10_number_71 : decode cX10_number 71 = .ok (.aload_n 0, 1) := bdX10_number_61.2.2.2.2.2.2.1
theorem dX10_number_72 : decode cX10_number 72 = .ok (.getfield 116, 3) := bdX10_number_61.2.2.2.2.2.2.2.1
theorem dX10_number_75 : decode cX10_number 75 = .ok (.if_icmp .ge 66, 3) := bdX10_number_61.2.2.2.2.2.2.2.2.1
theorem dX10_number_78 : decode cX10_number 78 = .ok (.aload_n 0, 1) := bdX10_number_61.2.2.2.2.2.2.2.2.2.1
theorem dX10_number_79 : decode cX10_number 79 = .ok (.getfield 32, 3) := bdX10_number_61.2.2.2.2.2.2.2.2.2.2.1
theorem dX10_number_82 : decode cX10_number 82 = .ok (.aload_n 0, 1) := bdX10_number_61.2.2.2.2.2.2.2.2.2.2.2.1
theorem dX10_number_83 : decode cX10_number 83 = .ok (.getfield 119, 3) := bdX10_number_61.2.2.2.2.2.2.2.2.2.2.2.2.1
theorem dX10_number_86 : decode cX10_number 86 = .ok (.iaload, 1) := bdX10_number_61.2.2.2.2.2.2.2.2.2.2.2.2.2.1
theorem dX10_number_87 : decode cX10_number 87 = .ok (.i2l, 1) := bdX10_number_61.2.2.2.2.2.2.2.2.2.2.2.2.2.2.1
theorem dX10_number_88 : decode cX10_number 88 = .ok (.ldc2_w 129, 3) := bdX10_number_61.2.2.2.2.2.2.2.2.2.2.2.2.2.2.2
theorem bdX10_number_91 : (decode cX10_number 91 = .ok (.ldc2_w 131, 3)) ∧ (decode cX10_number 94 = .ok (.invokestatic 77, 3)) ∧ (decode cX10_number 97 = .ok (.ifCond .eq 44, 3)) ∧ (decode cX10_number 100 = .ok (.iload_n 3, 1)) ∧ (decode cX10_number 101 = .ok (.bipush 9, 2)) ∧ (decode cX10_number 103 = .ok (.if_icmp .le 7, 3)) ∧ (decode cX10_number 106 = .ok (.iload_n 3, 1)) ∧ (decode cX10_number 107 = .ok (.goto 20, 3)) ∧ (decode cX10_number 110 = .ok (.bipush 10, 2)) ∧ (decode cX10_number 112 = .ok (.iload_n 3, 1)) ∧ (decode cX10_number 113 = .ok (.imul, 1)) ∧ (decode cX10_number 114 = .ok (.aload_n 0, 1)) ∧ (decode cX10_number 115 = .ok (.getfield 32, 3)) ∧ (decode cX10_number 118 = .ok (.aload_n 0, 1)) ∧ (decode cX10_number 119 = .ok (.getfield 119, 3)) ∧ (decode cX10_number 122 = .ok (.iaload, 1)) := by decide +kernel
theorem dX10_number_91 : decode cX10_number 91 = .ok (.ldc2_w 131, 3) := bdX10_number_91.1
theorem dX10_number_94 : decode cX10_number 94 = .ok (.invokestatic 77, 3) := bdX10_number_91.2.1
theorem dX10_number_97 : decode cX10_number 97 = .ok (.ifCond .eq 44, 3) := bdX10_number_91.2.2.1
theorem dX10_number_100 : decode cX10_number 100 = .ok (.iload_n 3, 1) := bdX10_number_91.2.2.2.1
theorem dX10_number_101 : decode cX10_number 101 = .ok (.bipush 9, 2) := bdX10_number_91.2.2.2.2.1
theorem dX10_number_103 : decode cX10_number 103 = .ok (.if_icmp .le 7, 3) := bdX10_number_91.2.2.2.2.2.1
theorem dX10_number_106 : decode cX10_number 106 = .ok (.iload_n 3, 1) := bdX10_number_91.2.2.2.2.2.2.1
theorem dX10_number_107 : decode cX10_number 107 = .ok (.goto 20, 3) := bdX10_number_91.2.2.2.2.2.2.2.1
theorem dX10_number_110 : decode cX10_number 110 = .ok (.bipush 10, 2) := bdX10_number_91.2.2.2.2.2.2.2.2.1
theorem dX10_number_112 : decode cX10_number 112 = .ok (.iload_n 3, 1) := bdX10_number_91.2.2.2.2.2.2.2.2.2.1
theorem dX10_number_113 : decode cX10_number 113 = .ok (.imul, 1) := bdX10_number_91.2.2.2.2.2.2.2.2.2.2.1
theorem dX10_number_114 : decode cX10_number 114 = .ok (.aload_n 0, 1) := bdX10_number_91.2.2.2.2.2.2.2.2.2.2.2.1
theorem dX10_number_115 : decode cX10_number 115 = .ok (.getfield 32, 3) := bdX10_number_91.2.2.2.2.2.2.2.2.2.2.2.2.1
theorem dX10_number_118 : decode cX10_number 118 = .ok (.aload_n 0, 1) := bdX10_number_91.2.2.2.2.2.2.2.2.2.2.2.2.2.1
theorem dX10_number_119 : decode cX10_number 119 = .ok (.getfield 119, 3) := bdX10_number_91.2.2.2.2.2.2.2.2.2.2.2.2.2.2.1
theorem dX10_number_122 : decode cX10_number 122 = .ok (.iaload, 1) := bdX10_number_91.2.2.2.2.2.2.2.2.2.2.2.2.2.2.2
theorem bdX10_number_123 : (decode cX10_number 123 = .ok (.iadd, 1)) ∧ (decode cX10_number 124 = .ok (.bipush 48, 2)) ∧ (decode cX10_number 126 = .ok (.isub, 1)) ∧ (decode cX10_number 127 = .ok (.istore_n 3, 1)) ∧ (decode cX10_number 128 = .ok (.aload_n 0, 1)) ∧ (decode cX10_number 129 = .ok (.dup, 1)) ∧ (decode cX10_number 130 = .ok (.getfield 119, 3)) ∧ (decode cX10_number 133 = .ok (.iconst 1, 1)) ∧ (decode cX10_number 134 = .ok (.iadd, 1)) ∧ (decode cX10_number 135 = .ok (.putfield 119, 3)) ∧ (decode cX10_number 138 = .ok (.goto (-71), 3)) ∧ (decode cX10_number 141 = .ok (.iload_n 3, 1)) ∧ (decode cX10_number 142 = .ok (.bipush 9, 2)) ∧ (decode cX10_number 144 = .ok (.if_icmp .le 8, 3)) ∧ (decode cX10_number 147 = .ok (.aload_n 0, 1)) ∧ (decode cX10_number 148 = .ok (.iload_n 2, 1)) := by decide +kernel
theorem dX10_number_123 : decode cX10_number 123 = .ok (.iadd, 1) := bdX10_number_123.1
theorem dX10_number_124 : decode cX10_number 124 = .ok (.bipush 48, 2) := bdX10_number_123.2.1
theorem dX10_number_126 : decode cX10_number 126 = .ok (.isub, 1) := bdX10_number_123.2.2.1
theorem dX10_number_127 : decode cX10_number 127 = .ok (.istore_n 3, 1) := bdX10_number_123.2.2.2.1
theorem dX10_number_128 : decode cX10_number 128 = .ok (.aload_n 0, 1) := bdX10_number_123.2.2.2.2.1
theorem dX10_number_129 : decode cX10_number 129 = .ok (.dup, 1) := bdX10_number_123.2.2.2.2.2.1
theorem dX10_number_130 : decode cX10_number 130 = .ok (.getfield 119, 3) := bdX10_number_123.2.2.2.2.2.2.1
theorem dX10_number_133 : decode cX10_number 133 = .ok (.iconst 1, 1) := bdX10_number_123.2.2.2.2.2.2.2.1
theorem dX10_number_134 : decode cX10_number 134 = .ok (.iadd, 1) := bdX10_number_123.2.2.2.2.2.2.2.2.1
theorem dX10_number_135 : decode cX10_number 135 = .ok (.putfield 119, 3) := bdX10_number_123.2.2.2.2.2.2.2.2.2.1
theorem dX10_number_138 : decode cX10_number 138 = .ok (.goto (-71), 3) := bdX10_number_123.2.2.2.2.2.2.2.2.2.2.1
theorem dX10_number_141 : decode cX10_number 141 = .ok (.iload_n 3, 1) := bdX10_number_123.2.2.2.2.2.2.2.2.2.2.2.1
theorem dX10_number_142 : decode cX10_number 142 = .ok (.bipush 9, 2) := bdX10_number_123.2.2.2.2.2.2.2.2.2.2.2.2.1
theorem dX10_number_144 : decode cX10_number 144 = .ok (.if_icmp .le 8, 3) := bdX10_number_123.2.2.2.2.2.2.2.2.2.2.2.2.2.1
theorem dX10_number_147 : decode cX10_number 147 = .ok (.aload_n 0, 1) := bdX10_number_123.2.2.2.2.2.2.2.2.2.2.2.2.2.2.1
theorem dX10_number_148 : decode cX10_number 148 = .ok (.iload_n 2, 1) := bdX10_number_123.2.2.2.2.2.2.2.2.2.2.2.2.2.2.2
theorem bdX10_number_149 : (decode cX10_number 149 = .ok (.invokevirtual 133, 3)) ∧ (decode cX10_number 152 = .ok (.iload_n 1, 1)) ∧ (decode cX10_number 153 = .ok (.ifCond .eq 8, 3)) ∧ (decode cX10_number 156 = .ok (.iload_n 3, 1)) ∧ (decode cX10_number 157 = .ok (.ineg, 1)) ∧ (decode cX10_number 158 = .ok (.goto 4, 3)) ∧ (decode cX10_number 161 = .ok (.iload_n 3, 1)) ∧ (decode cX10_number 162 = .ok (.ireturn, 1)) := by decide +kernel
theorem dX10_number_149 : decode cX10_number 149 = .ok (.invokevirtual 133, 3) := bdX10_number_149.1
theorem dX10_number_152 : decode cX10_number 152 = .ok (.iload_n 1, 1) := bdX10_number_149.2.1
theorem dX10_number_153 : decode cX10_number 153 = .ok (.ifCond .eq 8, 3) := bdX10_number_149.2.2.1
theorem dX10_number_156 : decode cX10_number 156 = .ok (.iload_n 3, 1) := bdX10_number_149.2.2.2.1
theorem dX10_number_157 : decode cX10_number 157 = .ok (.ineg, 1) := bdX10_number_149.2.2.2.2.1
theorem dX10_number_158 : decode cX10_number 158 = .ok (.goto 4, 3) := bdX10_number_149.2.2.2.2.2.1
theorem dX10_number_161 : decode cX10_number 161 = .ok (.iload_n 3, 1) := bdX10_number_149.2.2.2.2.2.2.1
theorem dX10_number_162 : decode cX10_number 162 = .ok (.ireturn, 1) := bdX10_number_149.2.2.2.2.2.2.2
set_option maxHeartbeats 4000000 in
set_option maxRecDepth 100000 in
theorem k_X10_number (l : Launch) (dC : Nat → ClassId) (dI : Nat → Nat → Nat) (h : Nat → Nat) (cs : Nat → ClassId) (sz : Nat) (I : Nat → Int32) (L : Nat → Int64) (A : Nat → Nat → Int32) (Q : Nat → Nat → Int64) (T a0 : Nat) (hT : I 10 = nI T) (hT9 : T ≤ 90) (hat : I 11 = nI a0) (haT : a0 ≤ T) : Met l yX10_number wsX10_number ({ frames := 1, cells := 0, slots := 0, locals := 25 }) (va_Pc [.ref (h 0)] (xPre (dC, dI) (rW h cs I L A Q) (tysA cs) sz)) (va_Qi (fun (r : Int32) (u : RS) => ∃ x11 : Int32, ∃ x12 : Int32, (∃ a2 : Nat, x11 = nI a2 ∧ numP (A 9) T a0 (I 12) a2 x12 r) ∧ u = ((va_up (va_up I 11 x11) 12 x12), L, A, Q)) (xB (dC, dI) (tysA cs) (va_A (rW h cs I L A Q) sz) (fun u : RS => rW h cs u.1 u.2.1 u.2.2.1 u.2.2.2)) (va_A (rW h cs I L A Q) sz)) 0 0 (va_A (rW h cs I L A Q) sz) := by
  refine Met.ofW (cc := cX10_number) (maxL := 4) (ret := (some .int)) (by decide) rfl ?_
  intro p e s m args below meth c s₁ B hml hv
  obtain ⟨rfl, hsz, hP, hK, hD0, hN⟩ := hv
  have hx := B.exec
  have hb := B.bytes
  have hr := B.returns
  have hts := atoms_spec (ws := wsX10_number) B.pre
  have hown : s.vm.findClass RX10 = some m.cls := findClass_of_methodNamed B.named
  have hlocks := B.notSynchronized
  subst hsz
  have hD := hD0.self (sz := s.heap.size)
  generalize hAe : va_A (rW h cs I L A Q) s.heap.size = A0 at hD ⊢
  have hA : ∀ q : Nat, s.heap.size ≤ q → A0 q := fun q h => by rw [← hAe]; exact Or.inr h
  have hl := lv_entry ([.ref (h 0)]) (n := 4) (Nat.le_of_ble_eq_true rfl)
  rw [lg_entry_eq]
  generalize (lg_sl ([.ref (h 0)]) ++ List.replicate (4 - (lg_sl ([.ref (h 0)])).length) Slot.unset).toArray = ls at hl ⊢
  have hl : lv_has ls 4 [(0, .ref (h 0))] := hl
  generalize hH : s.heap = H at hP ⊢
  have hS : va_S A0 s.heap H [] := by rw [← hH]; exact va_S.rf
  have hinX10 : ∀ w ∈ wsX100, w ∈ wsX10_number := by decide +kernel
  refine lv_aload_n hx hb dX10_number_0 rfl (lv_at hl 0 rfl) ?_
  refine xj_i (wc := (rW h cs I L A Q)) (wr := ([] : va_W)) hP hD hS hA [0, 1, 2, 3, 4, 5, 6, 7, 8, 9, 10, 11, 12, 13, 14, 15, 16] [] rfl rfl (by decide +kernel) (by decide +kernel) (va_runV (As := []) (rest := []) ⟨hx, hb, hml, hown, hts⟩ (k_X10_next l dC dI h cs H.size I L A Q T a0 hT (by first | assumption | omega | exact hT9) hat (by first | assumption | omega | exact haT)) (cwV 0 hts gX10_number_X10_next rfl rfl rfl (by decide +kernel) ⟨Nat.le_of_ble_eq_true rfl, Nat.le_of_ble_eq_true rfl⟩) (xpV (wc := (rW h cs I L A Q)) hP hD hK hN [0, 1, 2, 3, 4, 5, 6, 7, 8, 9, 10, 11, 12, 13, 14, 15, 16] rfl (by decide) 0 (ci := 10) rfl rfl _) rfl rfl hl.1 rfl (lv_room (Nat.le_of_ble_eq_true rfl)) dX10_number_1 ⟨Nat.zero_le _, Nat.zero_le _⟩) (fun r_2 u_1 H locs hw hP hD hS => ?_)
  obtain ⟨x11_3, hf_4, rfl⟩ := hw
  have hP : va_P (dC, dI) vwCl (rW h cs (va_up I 11 x11_3) L A Q) H := hP
  have hD : va_D A0 (rW h cs (va_up I 11 x11_3) L A Q) := hD
  obtain ⟨j_5, hsk_6, rfl, rfl⟩ := hf_4
  have hsk_6T := hsk_6.2.1
  refine lv_bipush (v := nI 45) hx hb dX10_number_4 (by decide) ?_
  refine lv_icmp_ne (tgt := 13) hx hb dX10_number_6 (by decide) (fun c_6_6 => ?_) (fun c_6_6 => ?_)
  · skip
    refine lv_iconst (v := nI 0) hx hb dX10_number_13 (by decide) ?_
    refine lv_istore_n (lv' := [(1, .int (nI 0)), (0, .ref (h 0))]) hx hb dX10_number_14 rfl hl (by decide) rfl (fun ls hl => ?_)
    refine lv_aload_n hx hb dX10_number_15 rfl (lv_at hl 1 rfl) ?_
    refine lv_dup hx hb dX10_number_16 rfl ?_
    refine va_get (D := (dC, dI)) (ci := 10) (v := .int (nI j_5)) (C := RX10) (T := TX10) (N := 28) hx hb hts hinX10 hown hK hP 0 rfl rfl 11 (by decide) (hts (.fieldLink RX10 119 "MixedWordsModel" "at" "I") (by decide +kernel)) (fun _ h9 => h9) rfl dX10_number_17 ?_
    refine lv_iload_n hx hb dX10_number_20 rfl (lv_at hl 0 rfl) ?_
    refine xs_eqT (tgt := 28) hx hb dX10_number_21 (by decide) (by decide) ?_
    refine lv_iconst (v := nI 0) hx hb dX10_number_28 (by decide) ?_
    refine lv_iadd hx hb dX10_number_29 ?_
    refine xt_i (y := nI (j_5 + 0)) (nI_add _ _) ?_
    refine va_put (D := (dC, dI)) (ci := 10) (v := .int (nI (j_5 + 0))) (ty := .int) (C := RX10) (T := TX10) (N := 28) hx hb hts hinX10 tyX10 tyX10_ok nmX10 hown hK hP hD hS 0 rfl rfl 11 (by decide) (hts (.fieldLink RX10 119 "MixedWordsModel" "at" "I") (by decide +kernel)) (fun _ h9 => h9) rfl (by decide +kernel) rfl rfl (Nat.le_of_ble_eq_true rfl) dX10_number_30 (fun H locs hP hD hS => ?_)
    have hP : va_P (dC, dI) vwCl (rW h cs (va_up I 11 (nI (j_5 + 0))) L A Q) H := hP
    have hD : va_D A0 (rW h cs (va_up I 11 (nI (j_5 + 0))) L A Q) := hD
    refine lv_aload_n hx hb dX10_number_33 rfl (lv_at hl 1 rfl) ?_
    refine xj_i (wc := (rW h cs (va_up I 11 (nI (j_5 + 0))) L A Q)) (wr := ([] : va_W)) hP hD hS hA [0, 1, 2, 3, 4, 5, 6, 7, 8, 9, 10, 11, 12, 13, 14, 15, 16] [] rfl rfl (by decide +kernel) (by decide +kernel) (va_runV (As := []) (rest := []) ⟨hx, hb, hml, hown, hts⟩ (k_X10_next l dC dI h cs H.size (va_up I 11 (nI (j_5 + 0))) L A Q T (j_5 + 0) hT (by first | assumption | omega | exact hT9) rfl (by first | assumption | omega | exact haT)) (cwV 0 hts gX10_number_X10_next rfl rfl rfl (by decide +kernel) ⟨Nat.le_of_ble_eq_true rfl, Nat.le_of_ble_eq_true rfl⟩) (xpV (wc := (rW h cs (va_up I 11 (nI (j_5 + 0))) L A Q)) hP hD hK hN [0, 1, 2, 3, 4, 5, 6, 7, 8, 9, 10, 11, 12, 13, 14, 15, 16] rfl (by decide) 0 (ci := 10) rfl rfl _) rfl rfl hl.1 rfl (lv_room (Nat.le_of_ble_eq_true rfl)) dX10_number_34 ⟨Nat.zero_le _, Nat.zero_le _⟩) (fun r_10 u_9 H locs hw hP hD hS => ?_)
    obtain ⟨x11_11, hf_12, rfl⟩ := hw
    have hP : va_P (dC, dI) vwCl (rW h cs (va_up I 11 x11_11) L A Q) H := hP
    have hD : va_D A0 (rW h cs (va_up I 11 x11_11) L A Q) := hD
    obtain ⟨j_13, hsk_14, rfl, rfl⟩ := hf_12
    have hsk_14T := hsk_14.2.1
    refine lv_i2l (v := (tpAt (A 9) T j_13).toInt64) hx hb dX10_number_37 rfl ?_
    refine lv_ldc2 (v := 48) hx hb hown (hts (.constantLong RX10 129 (48)) (by decide +kernel)) dX10_number_38 ?_
    refine lv_ldc2 (v := 57) hx hb hown (hts (.constantLong RX10 131 (57)) (by decide +kernel)) dX10_number_41 ?_
    refine xj_i (wc := ([] : va_W)) (wr := (rW h cs (va_up I 11 (nI j_13)) L A Q)) hP hD hS hA [] [0, 1, 2, 3, 4, 5, 6, 7, 8, 9, 10, 11, 12, 13, 14, 15, 16] rfl rfl (by decide +kernel) (by decide +kernel) (va_runS (As := [.long ((tpAt (A 9) T j_13).toInt64), .long (48 : Int64), .long (57 : Int64)]) (rest := []) ⟨hx, hb, hml, hown, hts⟩ (k_X10_in l dC dI h cs H.size I L A Q ((tpAt (A 9) T j_13).toInt64) (48 : Int64) (57 : Int64)) (va_cwS 3 hts gX10_number_X10_in rfl rfl rfl (by decide +kernel) ⟨Nat.le_of_ble_eq_true rfl, Nat.le_of_ble_eq_true rfl⟩) (xpS (wc := ([] : va_W)) hP hD hK hN [] rfl (by decide) _) rfl rfl hl.1 rfl (lv_room (Nat.le_of_ble_eq_true rfl)) dX10_number_44 ⟨Nat.zero_le _, Nat.zero_le _⟩) (fun r_16 u_15 H locs hw hP hD hS => ?_)
    obtain ⟨hf_17, rfl⟩ := hw
    have hP : va_P (dC, dI) vwCl (rW h cs (va_up I 11 (nI j_13)) L A Q) H := hP
    have hD : va_D A0 (rW h cs (va_up I 11 (nI j_13)) L A Q) := hD
    rcases in_Z (x := (tpAt (A 9) T j_13)) (a := 48) (b := 57) rfl rfl hf_17 with ⟨rfl, hdig_18⟩ | ⟨rfl, hdig_18⟩
    · skip
      have hdig_18D : IsDig (tpAt (A 9) T j_13) := hdig_18
      refine xs_neT (tgt := 60) hx hb dX10_number_47 (by decide) (by decide) ?_
      have hj2T := dig_lt hdig_18D
      refine lv_aload_n hx hb dX10_number_60 rfl (lv_at hl 1 rfl) ?_
      refine va_get (D := (dC, dI)) (ci := 10) (v := .int (nI j_13)) (C := RX10) (T := TX10) (N := 28) hx hb hts hinX10 hown hK hP 0 rfl rfl 11 (by decide) (hts (.fieldLink RX10 119 "MixedWordsModel" "at" "I") (by decide +kernel)) (fun _ h9 => h9) rfl dX10_number_61 ?_
      refine lv_istore_n (lv' := [(2, .int (nI j_13)), (1, .int (nI 0)), (0, .ref (h 0))]) hx hb dX10_number_64 rfl hl (by decide) rfl (fun ls hl => ?_)
      refine lv_iconst (v := nI 0) hx hb dX10_number_65 (by decide) ?_
      refine lv_istore_n (lv' := [(3, .int (nI 0)), (2, .int (nI j_13)), (1, .int (nI 0)), (0, .ref (h 0))]) hx hb dX10_number_66 rfl hl (by decide) rfl (fun ls hl => ?_)
      have cut_67 : ∀ (nf : Nat) (j : Nat) (v3 : Int32), (T - j) < nf → (j_13 ≤ j) → (j ≤ T) → (∀ u : Nat, j_13 ≤ u → u < j → IsDig (A 9 u)) → (v3 = digV (A 9) j_13 (j - j_13)) → ∀ (H : Heap) (locs : List Loc) (ls : Array Slot), va_P (dC, dI) vwCl (rW h cs (va_up I 11 (nI j)) L A Q) H → va_D A0 (rW h cs (va_up I 11 (nI j)) L A Q) → va_S A0 s.heap H locs → lv_has ls 4 [(0, .ref (h 0)), (1, .int (nI 0)), (2, .int (nI j_13)), (3, .int v3)] → W p l e (headSpec wsX10_number ({ frames := 1, cells := 0, slots := 0, locals := 25 })).room s m ([.ref (h 0)] : List Value).toArray below meth c H locs 0 0 (MQ below (va_Qi (fun (r : Int32) (u : RS) => ∃ x11 : Int32, ∃ x12 : Int32, (∃ a2 : Nat, x11 = nI a2 ∧ numP (A 9) T a0 (I 12) a2 x12 r) ∧ u = ((va_up (va_up I 11 x11) 12 x12), L, A, Q)) (xB (dC, dI) (tysA cs) A0 (fun u : RS => rW h cs u.1 u.2.1 u.2.2.1 u.2.2.2)) A0) ([.ref (h 0)] : List Value).toArray s 0 0 A0) (F0 m 67 ls []) := by
        intro nf
        induction nf with
        | zero => intro j v3 hm; exact absurd hm (Nat.not_lt_zero _)
        | succ nf ih_67 =>
          intro j v3 hm_67 hj2_67 hjT_67 hd_67 hv_67 H locs ls hP hD hS hl
          refine lv_aload_n hx hb dX10_number_67 rfl (lv_at hl 0 rfl) ?_
          refine va_get (D := (dC, dI)) (ci := 10) (v := .int (nI j)) (C := RX10) (T := TX10) (N := 28) hx hb hts hinX10 hown hK hP 0 rfl rfl 11 (by decide) (hts (.fieldLink RX10 119 "MixedWordsModel" "at" "I") (by decide +kernel)) (fun _ h9 => h9) rfl dX10_number_68 ?_
          refine lv_aload_n hx hb dX10_number_71 rfl (lv_at hl 0 rfl) ?_
          refine va_get (D := (dC, dI)) (ci := 10) (v := .int (I 10)) (C := RX10) (T := TX10) (N := 28) hx hb hts hinX10 hown hK hP 0 rfl rfl 10 (by decide) (hts (.fieldLink RX10 116 "MixedWordsModel" "taped" "I") (by decide +kernel)) (fun _ h9 => h9) rfl dX10_number_72 ?_
          refine xt_i (y := nI T) (hT) ?_
          refine xn_ge (tgt := 141) hx hb dX10_number_75 (by decide) (by omega) (by omega) (fun c_75_19 => ?_) (fun c_75_19 => ?_)
          · skip
            refine lv_iload_n hx hb dX10_number_141 rfl (lv_at hl 3 rfl) ?_
            refine lv_bipush (v := nI 9) hx hb dX10_number_142 (by decide) ?_
            refine lv_icmp_le (tgt := 152) hx hb dX10_number_144 (by decide) (fun c_144_20 => ?_) (fun c_144_20 => ?_)
            · skip
              refine lv_iload_n hx hb dX10_number_152 rfl (lv_at hl 1 rfl) ?_
              refine xs_eqT (tgt := 161) hx hb dX10_number_153 (by decide) (by decide) ?_
              refine lv_iload_n hx hb dX10_number_161 rfl (lv_at hl 3 rfl) ?_
              exact xr_i (v := v3) hx hb hr hlocks hK hS dX10_number_162 ((va_up (va_up I 11 (nI j)) 12 (I 12)), L, A, Q) ⟨(nI j), (I 12), ⟨j, rfl, j_5, j_13, false, hsk_6, ⟨fun g => absurd g (by decide), fun g => absurd g c_6_6⟩, hsk_14, Or.inr ⟨hdig_18D, j, ⟨hj2_67, hjT_67, hd_67, fun g => by omega⟩, rfl, by rw [← hv_67, if_pos (by assumption)], by rw [← hv_67]; rfl⟩⟩, rfl⟩ hP hD
            · skip
              refine lv_aload_n hx hb dX10_number_147 rfl (lv_at hl 0 rfl) ?_
              refine lv_iload_n hx hb dX10_number_148 rfl (lv_at hl 2 rfl) ?_
              refine xj_v (wc := (rW h cs (va_up I 11 (nI j)) L A Q)) (wr := ([] : va_W)) hP hD hS hA [0, 1, 2, 3, 4, 5, 6, 7, 8, 9, 10, 11, 12, 13, 14, 15, 16] [] rfl rfl (by decide +kernel) (by decide +kernel) (va_runV (As := [.int (nI j_13)]) (rest := []) ⟨hx, hb, hml, hown, hts⟩ (k_X10_fails l dC dI h cs H.size (va_up I 11 (nI j)) L A Q j_13) (cwV 1 hts gX10_number_X10_fails rfl rfl rfl (by decide +kernel) ⟨Nat.le_of_ble_eq_true rfl, Nat.le_of_ble_eq_true rfl⟩) (xpV (wc := (rW h cs (va_up I 11 (nI j)) L A Q)) hP hD hK hN [0, 1, 2, 3, 4, 5, 6, 7, 8, 9, 10, 11, 12, 13, 14, 15, 16] rfl (by decide) 0 (ci := 10) rfl rfl _) rfl rfl hl.1 rfl (lv_room (Nat.le_of_ble_eq_true rfl)) dX10_number_149 ⟨Nat.zero_le _, Nat.zero_le _⟩) (fun u_23 H locs hw hP hD hS => ?_)
              obtain ⟨x12_25, hf_26, rfl⟩ := hw
              have hP : va_P (dC, dI) vwCl (rW h cs (va_up (va_up I 11 (nI j)) 12 x12_25) L A Q) H := hP
              have hD : va_D A0 (rW h cs (va_up (va_up I 11 (nI j)) 12 x12_25) L A Q) := hD
              obtain rfl : x12_25 = wrg (I 12) j_13 := hf_26
              refine lv_iload_n hx hb dX10_number_152 rfl (lv_at hl 1 rfl) ?_
              refine xs_eqT (tgt := 161) hx hb dX10_number_153 (by decide) (by decide) ?_
              refine lv_iload_n hx hb dX10_number_161 rfl (lv_at hl 3 rfl) ?_
              exact xr_i (v := v3) hx hb hr hlocks hK hS dX10_number_162 ((va_up (va_up I 11 (nI j)) 12 (wrg (I 12) j_13)), L, A, Q) ⟨(nI j), (wrg (I 12) j_13), ⟨j, rfl, j_5, j_13, false, hsk_6, ⟨fun g => absurd g (by decide), fun g => absurd g c_6_6⟩, hsk_14, Or.inr ⟨hdig_18D, j, ⟨hj2_67, hjT_67, hd_67, fun g => by omega⟩, rfl, by rw [← hv_67, if_neg (Int32.not_le.mpr (Int32.not_le.mp (by assumption)))], by rw [← hv_67]; rfl⟩⟩, rfl⟩ hP hD
          · skip
            refine lv_aload_n hx hb dX10_number_78 rfl (lv_at hl 0 rfl) ?_
            refine va_get (D := (dC, dI)) (ci := 10) (v := .ref (h 9)) (C := RX10) (T := TX10) (N := 28) hx hb hts hinX10 hown hK hP 0 rfl rfl 9 (by decide) (hts (.fieldLink RX10 32 "MixedWordsModel" "tape" "[I") (by decide +kernel)) (fun _ h9 => h9) rfl dX10_number_79 ?_
            refine lv_aload_n hx hb dX10_number_82 rfl (lv_at hl 0 rfl) ?_
            refine va_get (D := (dC, dI)) (ci := 10) (v := .int (nI j)) (C := RX10) (T := TX10) (N := 28) hx hb hts hinX10 hown hK hP 0 rfl rfl 11 (by decide) (hts (.fieldLink RX10 119 "MixedWordsModel" "at" "I") (by decide +kernel)) (fun _ h9 => h9) rfl dX10_number_83 ?_
            refine xa_iald hx hb hK hP 5 0 rfl rfl (by omega) (by decide) dX10_number_86 ?_
            refine lv_i2l (v := (A 9 j).toInt64) hx hb dX10_number_87 rfl ?_
            refine lv_ldc2 (v := 48) hx hb hown (hts (.constantLong RX10 129 (48)) (by decide +kernel)) dX10_number_88 ?_
            refine lv_ldc2 (v := 57) hx hb hown (hts (.constantLong RX10 131 (57)) (by decide +kernel)) dX10_number_91 ?_
            refine xj_i (wc := ([] : va_W)) (wr := (rW h cs (va_up I 11 (nI j)) L A Q)) hP hD hS hA [] [0, 1, 2, 3, 4, 5, 6, 7, 8, 9, 10, 11, 12, 13, 14, 15, 16] rfl rfl (by decide +kernel) (by decide +kernel) (va_runS (As := [.long ((A 9 j).toInt64), .long (48 : Int64), .long (57 : Int64)]) (rest := []) ⟨hx, hb, hml, hown, hts⟩ (k_X10_in l dC dI h cs H.size I L A Q ((A 9 j).toInt64) (48 : Int64) (57 : Int64)) (va_cwS 3 hts gX10_number_X10_in rfl rfl rfl (by decide +kernel) ⟨Nat.le_of_ble_eq_true rfl, Nat.le_of_ble_eq_true rfl⟩) (xpS (wc := ([] : va_W)) hP hD hK hN [] rfl (by decide) _) rfl rfl hl.1 rfl (lv_room (Nat.le_of_ble_eq_true rfl)) dX10_number_94 ⟨Nat.zero_le _, Nat.zero_le _⟩) (fun r_29 u_28 H locs hw hP hD hS => ?_)
            obtain ⟨hf_30, rfl⟩ := hw
            have hP : va_P (dC, dI) vwCl (rW h cs (va_up I 11 (nI j)) L A Q) H := hP
            have hD : va_D A0 (rW h cs (va_up I 11 (nI j)) L A Q) := hD
            rcases in_Z (x := (A 9 j)) (a := 48) (b := 57) rfl rfl hf_30 with ⟨rfl, hdig_31⟩ | ⟨rfl, hdig_31⟩
            · skip
              have hdig_31D : IsDig (A 9 j) := hdig_31
              refine xs_eqF (tgt := 141) hx hb dX10_number_97 (by decide) (by decide) ?_
              refine lv_iload_n hx hb dX10_number_100 rfl (lv_at hl 3 rfl) ?_
              refine lv_bipush (v := nI 9) hx hb dX10_number_101 (by decide) ?_
              refine lv_icmp_le (tgt := 110) hx hb dX10_number_103 (by decide) (fun c_103_32 => ?_) (fun c_103_32 => ?_)
              · skip
                refine lv_bipush (v := nI 10) hx hb dX10_number_110 (by decide) ?_
                refine lv_iload_n hx hb dX10_number_112 rfl (lv_at hl 3 rfl) ?_
                refine lv_imul hx hb dX10_number_113 ?_
                refine lv_aload_n hx hb dX10_number_114 rfl (lv_at hl 0 rfl) ?_
                refine va_get (D := (dC, dI)) (ci := 10) (v := .ref (h 9)) (C := RX10) (T := TX10) (N := 28) hx hb hts hinX10 hown hK hP 0 rfl rfl 9 (by decide) (hts (.fieldLink RX10 32 "MixedWordsModel" "tape" "[I") (by decide +kernel)) (fun _ h9 => h9) rfl dX10_number_115 ?_
                refine lv_aload_n hx hb dX10_number_118 rfl (lv_at hl 0 rfl) ?_
                refine va_get (D := (dC, dI)) (ci := 10) (v := .int (nI j)) (C := RX10) (T := TX10) (N := 28) hx hb hts hinX10 hown hK hP 0 rfl rfl 11 (by decide) (hts (.fieldLink RX10 119 "MixedWordsModel" "at" "I") (by decide +kernel)) (fun _ h9 => h9) rfl dX10_number_119 ?_
                refine xa_iald hx hb hK hP 5 0 rfl rfl (by omega) (by decide) dX10_number_122 ?_
                refine lv_iadd hx hb dX10_number_123 ?_
                refine lv_bipush (v := nI 48) hx hb dX10_number_124 (by decide) ?_
                refine lv_isub hx hb dX10_number_126 ?_
                refine lv_istore_n (lv' := [(3, .int ((((nI 10) * v3) + (A 9 j)) - (nI 48))), (0, .ref (h 0)), (1, .int (nI 0)), (2, .int (nI j_13))]) hx hb dX10_number_127 rfl hl (by decide) rfl (fun ls hl => ?_)
                refine lv_aload_n hx hb dX10_number_128 rfl (lv_at hl 1 rfl) ?_
                refine lv_dup hx hb dX10_number_129 rfl ?_
                refine va_get (D := (dC, dI)) (ci := 10) (v := .int (nI j)) (C := RX10) (T := TX10) (N := 28) hx hb hts hinX10 hown hK hP 0 rfl rfl 11 (by decide) (hts (.fieldLink RX10 119 "MixedWordsModel" "at" "I") (by decide +kernel)) (fun _ h9 => h9) rfl dX10_number_130 ?_
                refine lv_iconst (v := nI 1) hx hb dX10_number_133 (by decide) ?_
                refine lv_iadd hx hb dX10_number_134 ?_
                refine xt_i (y := nI (j + 1)) (nI_add _ _) ?_
                refine va_put (D := (dC, dI)) (ci := 10) (v := .int (nI (j + 1))) (ty := .int) (C := RX10) (T := TX10) (N := 28) hx hb hts hinX10 tyX10 tyX10_ok nmX10 hown hK hP hD hS 0 rfl rfl 11 (by decide) (hts (.fieldLink RX10 119 "MixedWordsModel" "at" "I") (by decide +kernel)) (fun _ h9 => h9) rfl (by decide +kernel) rfl rfl (Nat.le_of_ble_eq_true rfl) dX10_number_135 (fun H locs hP hD hS => ?_)
                have hP : va_P (dC, dI) vwCl (rW h cs (va_up I 11 (nI (j + 1))) L A Q) H := hP
                have hD : va_D A0 (rW h cs (va_up I 11 (nI (j + 1))) L A Q) := hD
                refine lv_goto (tgt := 67) hx hb dX10_number_138 (by decide) ?_
                exact ih_67 (j + 1) ((((nI 10) * v3) + (A 9 j)) - (nI 48)) (by omega) (by first | assumption | omega) (by first | assumption | omega) (by first | (intro u h1 h2; omega) | (intro u h1 h2; by_cases e : u = j; (· subst e; assumption); (· exact hd_67 u h1 (by omega)))) (by first | (rw [Nat.sub_self]; rfl) | exact dig_le hj2_67 hv_67 (by assumption) | exact dig_gt hj2_67 hv_67 (by assumption)) _ _ _ hP hD hS (lv_sub hl [1, 2, 3, 0] rfl)
              · skip
                refine lv_iload_n hx hb dX10_number_106 rfl (lv_at hl 3 rfl) ?_
                refine lv_goto (tgt := 127) hx hb dX10_number_107 (by decide) ?_
                refine lv_istore_n (lv' := [(3, .int v3), (0, .ref (h 0)), (1, .int (nI 0)), (2, .int (nI j_13))]) hx hb dX10_number_127 rfl hl (by decide) rfl (fun ls hl => ?_)
                refine lv_aload_n hx hb dX10_number_128 rfl (lv_at hl 1 rfl) ?_
                refine lv_dup hx hb dX10_number_129 rfl ?_
                refine va_get (D := (dC, dI)) (ci := 10) (v := .int (nI j)) (C := RX10) (T := TX10) (N := 28) hx hb hts hinX10 hown hK hP 0 rfl rfl 11 (by decide) (hts (.fieldLink RX10 119 "MixedWordsModel" "at" "I") (by decide +kernel)) (fun _ h9 => h9) rfl dX10_number_130 ?_
                refine lv_iconst (v := nI 1) hx hb dX10_number_133 (by decide) ?_
                refine lv_iadd hx hb dX10_number_134 ?_
                refine xt_i (y := nI (j + 1)) (nI_add _ _) ?_
                refine va_put (D := (dC, dI)) (ci := 10) (v := .int (nI (j + 1))) (ty := .int) (C := RX10) (T := TX10) (N := 28) hx hb hts hinX10 tyX10 tyX10_ok nmX10 hown hK hP hD hS 0 rfl rfl 11 (by decide) (hts (.fieldLink RX10 119 "MixedWordsModel" "at" "I") (by decide +kernel)) (fun _ h9 => h9) rfl (by decide +kernel) rfl rfl (Nat.le_of_ble_eq_true rfl) dX10_number_135 (fun H locs hP hD hS => ?_)
                have hP : va_P (dC, dI) vwCl (rW h cs (va_up I 11 (nI (j + 1))) L A Q) H := hP
                have hD : va_D A0 (rW h cs (va_up I 11 (nI (j + 1))) L A Q) := hD
                refine lv_goto (tgt := 67) hx hb dX10_number_138 (by decide) ?_
                exact ih_67 (j + 1) v3 (by omega) (by first | assumption | omega) (by first | assumption | omega) (by first | (intro u h1 h2; omega) | (intro u h1 h2; by_cases e : u = j; (· subst e; assumption); (· exact hd_67 u h1 (by omega)))) (by first | (rw [Nat.sub_self]; rfl) | exact dig_le hj2_67 hv_67 (by assumption) | exact dig_gt hj2_67 hv_67 (by assumption)) _ _ _ hP hD hS (lv_sub hl [1, 2, 3, 0] rfl)
            · skip
              have hdig_31N : ¬ IsDig (A 9 j) := hdig_31
              refine xs_eqT (tgt := 141) hx hb dX10_number_97 (by decide) (by decide) ?_
              refine lv_iload_n hx hb dX10_number_141 rfl (lv_at hl 3 rfl) ?_
              refine lv_bipush (v := nI 9) hx hb dX10_number_142 (by decide) ?_
              refine lv_icmp_le (tgt := 152) hx hb dX10_number_144 (by decide) (fun c_144_34 => ?_) (fun c_144_34 => ?_)
              · skip
                refine lv_iload_n hx hb dX10_number_152 rfl (lv_at hl 1 rfl) ?_
                refine xs_eqT (tgt := 161) hx hb dX10_number_153 (by decide) (by decide) ?_
                refine lv_iload_n hx hb dX10_number_161 rfl (lv_at hl 3 rfl) ?_
                exact xr_i (v := v3) hx hb hr hlocks hK hS dX10_number_162 ((va_up (va_up I 11 (nI j)) 12 (I 12)), L, A, Q) ⟨(nI j), (I 12), ⟨j, rfl, j_5, j_13, false, hsk_6, ⟨fun g => absurd g (by decide), fun g => absurd g c_6_6⟩, hsk_14, Or.inr ⟨hdig_18D, j, ⟨hj2_67, hjT_67, hd_67, fun _ => hdig_31N⟩, rfl, by rw [← hv_67, if_pos (by assumption)], by rw [← hv_67]; rfl⟩⟩, rfl⟩ hP hD
              · skip
                refine lv_aload_n hx hb dX10_number_147 rfl (lv_at hl 0 rfl) ?_
                refine lv_iload_n hx hb dX10_number_148 rfl (lv_at hl 2 rfl) ?_
                refine xj_v (wc := (rW h cs (va_up I 11 (nI j)) L A Q)) (wr := ([] : va_W)) hP hD hS hA [0, 1, 2, 3, 4, 5, 6, 7, 8, 9, 10, 11, 12, 13, 14, 15, 16] [] rfl rfl (by decide +kernel) (by decide +kernel) (va_runV (As := [.int (nI j_13)]) (rest := []) ⟨hx, hb, hml, hown, hts⟩ (k_X10_fails l dC dI h cs H.size (va_up I 11 (nI j)) L A Q j_13) (cwV 1 hts gX10_number_X10_fails rfl rfl rfl (by decide +kernel) ⟨Nat.le_of_ble_eq_true rfl, Nat.le_of_ble_eq_true rfl⟩) (xpV (wc := (rW h cs (va_up I 11 (nI j)) L A Q)) hP hD hK hN [0, 1, 2, 3, 4, 5, 6, 7, 8, 9, 10, 11, 12, 13, 14, 15, 16] rfl (by decide) 0 (ci := 10) rfl rfl _) rfl rfl hl.1 rfl (lv_room (Nat.le_of_ble_eq_true rfl)) dX10_number_149 ⟨Nat.zero_le _, Nat.zero_le _⟩) (fun u_37 H locs hw hP hD hS => ?_)
                obtain ⟨x12_39, hf_40, rfl⟩ := hw
                have hP : va_P (dC, dI) vwCl (rW h cs (va_up (va_up I 11 (nI j)) 12 x12_39) L A Q) H := hP
                have hD : va_D A0 (rW h cs (va_up (va_up I 11 (nI j)) 12 x12_39) L A Q) := hD
                obtain rfl : x12_39 = wrg (I 12) j_13 := hf_40
                refine lv_iload_n hx hb dX10_number_152 rfl (lv_at hl 1 rfl) ?_
                refine xs_eqT (tgt := 161) hx hb dX10_number_153 (by decide) (by decide) ?_
                refine lv_iload_n hx hb dX10_number_161 rfl (lv_at hl 3 rfl) ?_
                exact xr_i (v := v3) hx hb hr hlocks hK hS dX10_number_162 ((va_up (va_up I 11 (nI j)) 12 (wrg (I 12) j_13)), L, A, Q) ⟨(nI j), (wrg (I 12) j_13), ⟨j, rfl, j_5, j_13, false, hsk_6, ⟨fun g => absurd g (by decide), fun g => absurd g c_6_6⟩, hsk_14, Or.inr ⟨hdig_18D, j, ⟨hj2_67, hjT_67, hd_67, fun _ => hdig_31N⟩, rfl, by rw [← hv_67, if_neg (Int32.not_le.mpr (Int32.not_le.mp (by assumption)))], by rw [← hv_67]; rfl⟩⟩, rfl⟩ hP hD
      exact cut_67 _ j_13 (nI 0) (Nat.lt_succ_self _) (by first | assumption | omega) (by first | assumption | omega) (by first | (intro u h1 h2; omega) | (intro u h1 h2; by_cases e : u = j; (· subst e; assumption); (· exact hd_67 u h1 (by omega)))) (by first | (rw [Nat.sub_self]; rfl) | exact dig_le hj2_67 hv_67 (by assumption) | exact dig_gt hj2_67 hv_67 (by assumption)) _ _ _ hP hD hS (lv_sub hl [3, 2, 1, 0] rfl)
    · skip
      have hdig_18N : ¬ IsDig (tpAt (A 9) T j_13) := hdig_18
      refine xs_neF (tgt := 60) hx hb dX10_number_47 (by decide) (by decide) ?_
      refine lv_aload_n hx hb dX10_number_50 rfl (lv_at hl 1 rfl) ?_
      refine lv_aload_n hx hb dX10_number_51 rfl (lv_at hl 1 rfl) ?_
      refine va_get (D := (dC, dI)) (ci := 10) (v := .int (nI j_13)) (C := RX10) (T := TX10) (N := 28) hx hb hts hinX10 hown hK hP 0 rfl rfl 11 (by decide) (hts (.fieldLink RX10 119 "MixedWordsModel" "at" "I") (by decide +kernel)) (fun _ h9 => h9) rfl dX10_number_52 ?_
      refine xj_v (wc := (rW h cs (va_up I 11 (nI j_13)) L A Q)) (wr := ([] : va_W)) hP hD hS hA [0, 1, 2, 3, 4, 5, 6, 7, 8, 9, 10, 11, 12, 13, 14, 15, 16] [] rfl rfl (by decide +kernel) (by decide +kernel) (va_runV (As := [.int (nI j_13)]) (rest := []) ⟨hx, hb, hml, hown, hts⟩ (k_X10_fails l dC dI h cs H.size (va_up I 11 (nI j_13)) L A Q j_13) (cwV 1 hts gX10_number_X10_fails rfl rfl rfl (by decide +kernel) ⟨Nat.le_of_ble_eq_true rfl, Nat.le_of_ble_eq_true rfl⟩) (xpV (wc := (rW h cs (va_up I 11 (nI j_13)) L A Q)) hP hD hK hN [0, 1, 2, 3, 4, 5, 6, 7, 8, 9, 10, 11, 12, 13, 14, 15, 16] rfl (by decide) 0 (ci := 10) rfl rfl _) rfl rfl hl.1 rfl (lv_room (Nat.le_of_ble_eq_true rfl)) dX10_number_55 ⟨Nat.zero_le _, Nat.zero_le _⟩) (fun u_43 H locs hw hP hD hS => ?_)
      obtain ⟨x12_45, hf_46, rfl⟩ := hw
      have hP : va_P (dC, dI) vwCl (rW h cs (va_up (va_up I 11 (nI j_13)) 12 x12_45) L A Q) H := hP
      have hD : va_D A0 (rW h cs (va_up (va_up I 11 (nI j_13)) 12 x12_45) L A Q) := hD
      obtain rfl : x12_45 = wrg (I 12) j_13 := hf_46
      refine lv_iconst (v := nI 0) hx hb dX10_number_58 (by decide) ?_
      exact xr_i (v := (nI 0)) hx hb hr hlocks hK hS dX10_number_59 ((va_up (va_up I 11 (nI j_13)) 12 (wrg (I 12) j_13)), L, A, Q) ⟨(nI j_13), (wrg (I 12) j_13), ⟨j_13, rfl, j_5, j_13, false, hsk_6, ⟨fun g => absurd g (by decide), fun g => absurd g c_6_6⟩, hsk_14, Or.inl ⟨hdig_18N, rfl, rfl, rfl⟩⟩, rfl⟩ hP hD
  · skip
    have hj1T := tp_lt c_6_6
    refine lv_iconst (v := nI 1) hx hb dX10_number_9 (by decide) ?_
    refine lv_goto (tgt := 14) hx hb dX10_number_10 (by decide) ?_
    refine lv_istore_n (lv' := [(1, .int (nI 1)), (0, .ref (h 0))]) hx hb dX10_number_14 rfl hl (by decide) rfl (fun ls hl => ?_)
    refine lv_aload_n hx hb dX10_number_15 rfl (lv_at hl 1 rfl) ?_
    refine lv_dup hx hb dX10_number_16 rfl ?_
    refine va_get (D := (dC, dI)) (ci := 10) (v := .int (nI j_5)) (C := RX10) (T := TX10) (N := 28) hx hb hts hinX10 hown hK hP 0 rfl rfl 11 (by decide) (hts (.fieldLink RX10 119 "MixedWordsModel" "at" "I") (by decide +kernel)) (fun _ h9 => h9) rfl dX10_number_17 ?_
    refine lv_iload_n hx hb dX10_number_20 rfl (lv_at hl 0 rfl) ?_
    refine xs_eqF (tgt := 28) hx hb dX10_number_21 (by decide) (by decide) ?_
    refine lv_iconst (v := nI 1) hx hb dX10_number_24 (by decide) ?_
    refine lv_goto (tgt := 29) hx hb dX10_number_25 (by decide) ?_
    refine lv_iadd hx hb dX10_number_29 ?_
    refine xt_i (y := nI (j_5 + 1)) (nI_add _ _) ?_
    refine va_put (D := (dC, dI)) (ci := 10) (v := .int (nI (j_5 + 1))) (ty := .int) (C := RX10) (T := TX10) (N := 28) hx hb hts hinX10 tyX10 tyX10_ok nmX10 hown hK hP hD hS 0 rfl rfl 11 (by decide) (hts (.fieldLink RX10 119 "MixedWordsModel" "at" "I") (by decide +kernel)) (fun _ h9 => h9) rfl (by decide +kernel) rfl rfl (Nat.le_of_ble_eq_true rfl) dX10_number_30 (fun H locs hP hD hS => ?_)
    have hP : va_P (dC, dI) vwCl (rW h cs (va_up I 11 (nI (j_5 + 1))) L A Q) H := hP
    have hD : va_D A0 (rW h cs (va_up I 11 (nI (j_5 + 1))) L A Q) := hD
    refine lv_aload_n hx hb dX10_number_33 rfl (lv_at hl 1 rfl) ?_
    refine xj_i (wc := (rW h cs (va_up I 11 (nI (j_5 + 1))) L A Q)) (wr := ([] : va_W)) hP hD hS hA [0, 1, 2, 3, 4, 5, 6, 7, 8, 9, 10, 11, 12, 13, 14, 15, 16] [] rfl rfl (by decide +kernel) (by decide +kernel) (va_runV (As := []) (rest := []) ⟨hx, hb, hml, hown, hts⟩ (k_X10_next l dC dI h cs H.size (va_up I 11 (nI (j_5 + 1))) L A Q T (j_5 + 1) hT (by first | assumption | omega | exact hT9) rfl (by first | assumption | omega | exact haT)) (cwV 0 hts gX10_number_X10_next rfl rfl rfl (by decide +kernel) ⟨Nat.le_of_ble_eq_true rfl, Nat.le_of_ble_eq_true rfl⟩) (xpV (wc := (rW h cs (va_up I 11 (nI (j_5 + 1))) L A Q)) hP hD hK hN [0, 1, 2, 3, 4, 5, 6, 7, 8, 9, 10, 11, 12, 13, 14, 15, 16] rfl (by decide) 0 (ci := 10) rfl rfl _) rfl rfl hl.1 rfl (lv_room (Nat.le_of_ble_eq_true rfl)) dX10_number_34 ⟨Nat.zero_le _, Nat.zero_le _⟩) (fun r_49 u_48 H locs hw hP hD hS => ?_)
    obtain ⟨x11_50, hf_51, rfl⟩ := hw
    have hP : va_P (dC, dI) vwCl (rW h cs (va_up I 11 x11_50) L A Q) H := hP
    have hD : va_D A0 (rW h cs (va_up I 11 x11_50) L A Q) := hD
    obtain ⟨j_52, hsk_53, rfl, rfl⟩ := hf_51
    have hsk_53T := hsk_53.2.1
    refine lv_i2l (v := (tpAt (A 9) T j_52).toInt64) hx hb dX10_number_37 rfl ?_
    refine lv_ldc2 (v := 48) hx hb hown (hts (.constantLong RX10 129 (48)) (by decide +kernel)) dX10_number_38 ?_
    refine lv_ldc2 (v := 57) hx hb hown (hts (.constantLong RX10 131 (57)) (by decide +kernel)) dX10_number_41 ?_
    refine xj_i (wc := ([] : va_W)) (wr := (rW h cs (va_up I 11 (nI j_52)) L A Q)) hP hD hS hA [] [0, 1, 2, 3, 4, 5, 6, 7, 8, 9, 10, 11, 12, 13, 14, 15, 16] rfl rfl (by decide +kernel) (by decide +kernel) (va_runS (As := [.long ((tpAt (A 9) T j_52).toInt64), .long (48 : Int64), .long (57 : Int64)]) (rest := []) ⟨hx, hb, hml, hown, hts⟩ (k_X10_in l dC dI h cs H.size I L A Q ((tpAt (A 9) T j_52).toInt64) (48 : Int64) (57 : Int64)) (va_cwS 3 hts gX10_number_X10_in rfl rfl rfl (by decide +kernel) ⟨Nat.le_of_ble_eq_true rfl, Nat.le_of_ble_eq_true rfl⟩) (xpS (wc := ([] : va_W)) hP hD hK hN [] rfl (by decide) _) rfl rfl hl.1 rfl (lv_room (Nat.le_of_ble_eq_true rfl)) dX10_number_44 ⟨Nat.zero_le _, Nat.zero_le _⟩) (fun r_55 u_54 H locs hw hP hD hS => ?_)
    obtain ⟨hf_56, rfl⟩ := hw
    have hP : va_P (dC, dI) vwCl (rW h cs (va_up I 11 (nI j_52)) L A Q) H := hP
    have hD : va_D A0 (rW h cs (va_up I 11 (nI j_52)) L A Q) := hD
    rcases in_Z (x := (tpAt (A 9) T j_52)) (a := 48) (b := 57) rfl rfl hf_56 with ⟨rfl, hdig_57⟩ | ⟨rfl, hdig_57⟩
    · skip
      have hdig_57D : IsDig (tpAt (A 9) T j_52) := hdig_57
      refine xs_neT (tgt := 60) hx hb dX10_number_47 (by decide) (by decide) ?_
      have hj2T := dig_lt hdig_57D
      refine lv_aload_n hx hb dX10_number_60 rfl (lv_at hl 1 rfl) ?_
      refine va_get (D := (dC, dI)) (ci := 10) (v := .int (nI j_52)) (C := RX10) (T := TX10) (N := 28) hx hb hts hinX10 hown hK hP 0 rfl rfl 11 (by decide) (hts (.fieldLink RX10 119 "MixedWordsModel" "at" "I") (by decide +kernel)) (fun _ h9 => h9) rfl dX10_number_61 ?_
      refine lv_istore_n (lv' := [(2, .int (nI j_52)), (1, .int (nI 1)), (0, .ref (h 0))]) hx hb dX10_number_64 rfl hl (by decide) rfl (fun ls hl => ?_)
      refine lv_iconst (v := nI 0) hx hb dX10_number_65 (by decide) ?_
      refine lv_istore_n (lv' := [(3, .int (nI 0)), (2, .int (nI j_52)), (1, .int (nI 1)), (0, .ref (h 0))]) hx hb dX10_number_66 rfl hl (by decide) rfl (fun ls hl => ?_)
      have cut_67 : ∀ (nf : Nat) (j : Nat) (v3 : Int32), (T - j) < nf → (j_52 ≤ j) → (j ≤ T) → (∀ u : Nat, j_52 ≤ u → u < j → IsDig (A 9 u)) → (v3 = digV (A 9) j_52 (j - j_52)) → ∀ (H : Heap) (locs : List Loc) (ls : Array Slot), va_P (dC, dI) vwCl (rW h cs (va_up I 11 (nI j)) L A Q) H → va_D A0 (rW h cs (va_up I 11 (nI j)) L A Q) → va_S A0 s.heap H locs → lv_has ls 4 [(0, .ref (h 0)), (1, .int (nI 1)), (2, .int (nI j_52)), (3, .int v3)] → W p l e (headSpec wsX10_number ({ frames := 1, cells := 0, slots := 0, locals := 25 })).room s m ([.ref (h 0)] : List Value).toArray below meth c H locs 0 0 (MQ below (va_Qi (fun (r : Int32) (u : RS) => ∃ x11 : Int32, ∃ x12 : Int32, (∃ a2 : Nat, x11 = nI a2 ∧ numP (A 9) T a0 (I 12) a2 x12 r) ∧ u = ((va_up (va_up I 11 x11) 12 x12), L, A, Q)) (xB (dC, dI) (tysA cs) A0 (fun u : RS => rW h cs u.1 u.2.1 u.2.2.1 u.2.2.2)) A0) ([.ref (h 0)] : List Value).toArray s 0 0 A0) (F0 m 67 ls []) := by
        intro nf
        induction nf with
        | zero => intro j v3 hm; exact absurd hm (Nat.not_lt_zero _)
        | succ nf ih_67 =>
          intro j v3 hm_67 hj2_67 hjT_67 hd_67 hv_67 H locs ls hP hD hS hl
          refine lv_aload_n hx hb dX10_number_67 rfl (lv_at hl 0 rfl) ?_
          refine va_get (D := (dC, dI)) (ci := 10) (v := .int (nI j)) (C := RX10) (T := TX10) (N := 28) hx hb hts hinX10 hown hK hP 0 rfl rfl 11 (by decide) (hts (.fieldLink RX10 119 "MixedWordsModel" "at" "I") (by decide +kernel)) (fun _ h9 => h9) rfl dX10_number_68 ?_
          refine lv_aload_n hx hb dX10_number_71 rfl (lv_at hl 0 rfl) ?_
          refine va_get (D := (dC, dI)) (ci := 10) (v := .int (I 10)) (C := RX10) (T := TX10) (N := 28) hx hb hts hinX10 hown hK hP 0 rfl rfl 10 (by decide) (hts (.fieldLink RX10 116 "MixedWordsModel" "taped" "I") (by decide +kernel)) (fun _ h9 => h9) rfl dX10_number_72 ?_
          refine xt_i (y := nI T) (hT) ?_
          refine xn_ge (tgt := 141) hx hb dX10_number_75 (by decide) (by omega) (by omega) (fun c_75_58 => ?_) (fun c_75_58 => ?_)
          · skip
            refine lv_iload_n hx hb dX10_number_141 rfl (lv_at hl 3 rfl) ?_
            refine lv_bipush (v := nI 9) hx hb dX10_number_142 (by decide) ?_
            refine lv_icmp_le (tgt := 152) hx hb dX10_number_144 (by decide) (fun c_144_59 => ?_) (fun c_144_59 => ?_)
            · skip
              refine lv_iload_n hx hb dX10_number_152 rfl (lv_at hl 1 rfl) ?_
              refine xs_eqF (tgt := 161) hx hb dX10_number_153 (by decide) (by decide) ?_
              refine lv_iload_n hx hb dX10_number_156 rfl (lv_at hl 3 rfl) ?_
              refine lv_ineg hx hb dX10_number_157 ?_
              refine lv_goto (tgt := 162) hx hb dX10_number_158 (by decide) ?_
              exact xr_i (v := (-v3)) hx hb hr hlocks hK hS dX10_number_162 ((va_up (va_up I 11 (nI j)) 12 (I 12)), L, A, Q) ⟨(nI j), (I 12), ⟨j, rfl, j_5, j_52, true, hsk_6, ⟨fun _ => c_6_6, fun _ => rfl⟩, hsk_53, Or.inr ⟨hdig_57D, j, ⟨hj2_67, hjT_67, hd_67, fun g => by omega⟩, rfl, by rw [← hv_67, if_pos (by assumption)], by rw [← hv_67]; rfl⟩⟩, rfl⟩ hP hD
            · skip
              refine lv_aload_n hx hb dX10_number_147 rfl (lv_at hl 0 rfl) ?_
              refine lv_iload_n hx hb dX10_number_148 rfl (lv_at hl 2 rfl) ?_
              refine xj_v (wc := (rW h cs (va_up I 11 (nI j)) L A Q)) (wr := ([] : va_W)) hP hD hS hA [0, 1, 2, 3, 4, 5, 6, 7, 8, 9, 10, 11, 12, 13, 14, 15, 16] [] rfl rfl (by decide +kernel) (by decide +kernel) (va_runV (As := [.int (nI j_52)]) (rest := []) ⟨hx, hb, hml, hown, hts⟩ (k_X10_fails l dC dI h cs H.size (va_up I 11 (nI j)) L A Q j_52) (cwV 1 hts gX10_number_X10_fails rfl rfl rfl (by decide +kernel) ⟨Nat.le_of_ble_eq_true rfl, Nat.le_of_ble_eq_true rfl⟩) (xpV (wc := (rW h cs (va_up I 11 (nI j)) L A Q)) hP hD hK hN [0, 1, 2, 3, 4, 5, 6, 7, 8, 9, 10, 11, 12, 13, 14, 15, 16] rfl (by decide) 0 (ci := 10) rfl rfl _) rfl rfl hl.1 rfl (lv_room (Nat.le_of_ble_eq_true rfl)) dX10_number_149 ⟨Nat.zero_le _, Nat.zero_le _⟩) (fun u_62 H locs hw hP hD hS => ?_)
              obtain ⟨x12_64, hf_65, rfl⟩ := hw
              have hP : va_P (dC, dI) vwCl (rW h cs (va_up (va_up I 11 (nI j)) 12 x12_64) L A Q) H := hP
              have hD : va_D A0 (rW h cs (va_up (va_up I 11 (nI j)) 12 x12_64) L A Q) := hD
              obtain rfl : x12_64 = wrg (I 12) j_52 := hf_65
              refine lv_iload_n hx hb dX10_number_152 rfl (lv_at hl 1 rfl) ?_
              refine xs_eqF (tgt := 161) hx hb dX10_number_153 (by decide) (by decide) ?_
              refine lv_iload_n hx hb dX10_number_156 rfl (lv_at hl 3 rfl) ?_
              refine lv_ineg hx hb dX10_number_157 ?_
              refine lv_goto (tgt := 162) hx hb dX10_number_158 (by decide) ?_
              exact xr_i (v := (-v3)) hx hb hr hlocks hK hS dX10_number_162 ((va_up (va_up I 11 (nI j)) 12 (wrg (I 12) j_52)), L, A, Q) ⟨(nI j), (wrg (I 12) j_52), ⟨j, rfl, j_5, j_52, true, hsk_6, ⟨fun _ => c_6_6, fun _ => rfl⟩, hsk_53, Or.inr ⟨hdig_57D, j, ⟨hj2_67, hjT_67, hd_67, fun g => by omega⟩, rfl, by rw [← hv_67, if_neg (Int32.not_le.mpr (Int32.not_le.mp (by assumption)))], by rw [← hv_67]; rfl⟩⟩, rfl⟩ hP hD
          · skip
            refine lv_aload_n hx hb dX10_number_78 rfl (lv_at hl 0 rfl) ?_
            refine va_get (D := (dC, dI)) (ci := 10) (v := .ref (h 9)) (C := RX10) (T := TX10) (N := 28) hx hb hts hinX10 hown hK hP 0 rfl rfl 9 (by decide) (hts (.fieldLink RX10 32 "MixedWordsModel" "tape" "[I") (by decide +kernel)) (fun _ h9 => h9) rfl dX10_number_79 ?_
            refine lv_aload_n hx hb dX10_number_82 rfl (lv_at hl 0 rfl) ?_
            refine va_get (D := (dC, dI)) (ci := 10) (v := .int (nI j)) (C := RX10) (T := TX10) (N := 28) hx hb hts hinX10 hown hK hP 0 rfl rfl 11 (by decide) (hts (.fieldLink RX10 119 "MixedWordsModel" "at" "I") (by decide +kernel)) (fun _ h9 => h9) rfl dX10_number_83 ?_
            refine xa_iald hx hb hK hP 5 0 rfl rfl (by omega) (by decide) dX10_number_86 ?_
            refine lv_i2l (v := (A 9 j).toInt64) hx hb dX10_number_87 rfl ?_
            refine lv_ldc2 (v := 48) hx hb hown (hts (.constantLong RX10 129 (48)) (by decide +kernel)) dX10_number_88 ?_
            refine lv_ldc2 (v := 57) hx hb hown (hts (.constantLong RX10 131 (57)) (by decide +kernel)) dX10_number_91 ?_
            refine xj_i (wc := ([] : va_W)) (wr := (rW h cs (va_up I 11 (nI j)) L A Q)) hP hD hS hA [] [0, 1, 2, 3, 4, 5, 6, 7, 8, 9, 10, 11, 12, 13, 14, 15, 16] rfl rfl (by decide +kernel) (by decide +kernel) (va_runS (As := [.long ((A 9 j).toInt64), .long (48 : Int64), .long (57 : Int64)]) (rest := []) ⟨hx, hb, hml, hown, hts⟩ (k_X10_in l dC dI h cs H.size I L A Q ((A 9 j).toInt64) (48 : Int64) (57 : Int64)) (va_cwS 3 hts gX10_number_X10_in rfl rfl rfl (by decide +kernel) ⟨Nat.le_of_ble_eq_true rfl, Nat.le_of_ble_eq_true rfl⟩) (xpS (wc := ([] : va_W)) hP hD hK hN [] rfl (by decide) _) rfl rfl hl.1 rfl (lv_room (Nat.le_of_ble_eq_true rfl)) dX10_number_94 ⟨Nat.zero_le _, Nat.zero_le _⟩) (fun r_68 u_67 H locs hw hP hD hS => ?_)
            obtain ⟨hf_69, rfl⟩ := hw
            have hP : va_P (dC, dI) vwCl (rW h cs (va_up I 11 (nI j)) L A Q) H := hP
            have hD : va_D A0 (rW h cs (va_up I 11 (nI j)) L A Q) := hD
            rcases in_Z (x := (A 9 j)) (a := 48) (b := 57) rfl rfl hf_69 with ⟨rfl, hdig_70⟩ | ⟨rfl, hdig_70⟩
            · skip
              have hdig_70D : IsDig (A 9 j) := hdig_70
              refine xs_eqF (tgt := 141) hx hb dX10_number_97 (by decide) (by decide) ?_
              refine lv_iload_n hx hb dX10_number_100 rfl (lv_at hl 3 rfl) ?_
              refine lv_bipush (v := nI 9) hx hb dX10_number_101 (by decide) ?_
              refine lv_icmp_le (tgt := 110) hx hb dX10_number_103 (by decide) (fun c_103_71 => ?_) (fun c_103_71 => ?_)
              · skip
                refine lv_bipush (v := nI 10) hx hb dX10_number_110 (by decide) ?_
                refine lv_iload_n hx hb dX10_number_112 rfl (lv_at hl 3 rfl) ?_
                refine lv_imul hx hb dX10_number_113 ?_
                refine lv_aload_n hx hb dX10_number_114 rfl (lv_at hl 0 rfl) ?_
                refine va_get (D := (dC, dI)) (ci := 10) (v := .ref (h 9)) (C := RX10) (T := TX10) (N := 28) hx hb hts hinX10 hown hK hP 0 rfl rfl 9 (by decide) (hts (.fieldLink RX10 32 "MixedWordsModel" "tape" "[I") (by decide +kernel)) (fun _ h9 => h9) rfl dX10_number_115 ?_
                refine lv_aload_n hx hb dX10_number_118 rfl (lv_at hl 0 rfl) ?_
                refine va_get (D := (dC, dI)) (ci := 10) (v := .int (nI j)) (C := RX10) (T := TX10) (N := 28) hx hb hts hinX10 hown hK hP 0 rfl rfl 11 (by decide) (hts (.fieldLink RX10 119 "MixedWordsModel" "at" "I") (by decide +kernel)) (fun _ h9 => h9) rfl dX10_number_119 ?_
                refine xa_iald hx hb hK hP 5 0 rfl rfl (by omega) (by decide) dX10_number_122 ?_
                refine lv_iadd hx hb dX10_number_123 ?_
                refine lv_bipush (v := nI 48) hx hb dX10_number_124 (by decide) ?_
                refine lv_isub hx hb dX10_number_126 ?_
                refine lv_istore_n (lv' := [(3, .int ((((nI 10) * v3) + (A 9 j)) - (nI 48))), (0, .ref (h 0)), (1, .int (nI 1)), (2, .int (nI j_52))]) hx hb dX10_number_127 rfl hl (by decide) rfl (fun ls hl => ?_)
                refine lv_aload_n hx hb dX10_number_128 rfl (lv_at hl 1 rfl) ?_
                refine lv_dup hx hb dX10_number_129 rfl ?_
                refine va_get (D := (dC, dI)) (ci := 10) (v := .int (nI j)) (C := RX10) (T := TX10) (N := 28) hx hb hts hinX10 hown hK hP 0 rfl rfl 11 (by decide) (hts (.fieldLink RX10 119 "MixedWordsModel" "at" "I") (by decide +kernel)) (fun _ h9 => h9) rfl dX10_number_130 ?_
                refine lv_iconst (v := nI 1) hx hb dX10_number_133 (by decide) ?_
                refine lv_iadd hx hb dX10_number_134 ?_
                refine xt_i (y := nI (j + 1)) (nI_add _ _) ?_
                refine va_put (D := (dC, dI)) (ci := 10) (v := .int (nI (j + 1))) (ty := .int) (C := RX10) (T := TX10) (N := 28) hx hb hts hinX10 tyX10 tyX10_ok nmX10 hown hK hP hD hS 0 rfl rfl 11 (by decide) (hts (.fieldLink RX10 119 "MixedWordsModel" "at" "I") (by decide +kernel)) (fun _ h9 => h9) rfl (by decide +kernel) rfl rfl (Nat.le_of_ble_eq_true rfl) dX10_number_135 (fun H locs hP hD hS => ?_)
                have hP : va_P (dC, dI) vwCl (rW h cs (va_up I 11 (nI (j + 1))) L A Q) H := hP
                have hD : va_D A0 (rW h cs (va_up I 11 (nI (j + 1))) L A Q) := hD
                refine lv_goto (tgt := 67) hx hb dX10_number_138 (by decide) ?_
                exact ih_67 (j + 1) ((((nI 10) * v3) + (A 9 j)) - (nI 48)) (by omega) (by first | assumption | omega) (by first | assumption | omega) (by first | (intro u h1 h2; omega) | (intro u h1 h2; by_cases e : u = j; (· subst e; assumption); (· exact hd_67 u h1 (by omega)))) (by first | (rw [Nat.sub_self]; rfl) | exact dig_le hj2_67 hv_67 (by assumption) | exact dig_gt hj2_67 hv_67 (by assumption)) _ _ _ hP hD hS (lv_sub hl [1, 2, 3, 0] rfl)
              · skip
                refine lv_iload_n hx hb dX10_number_106 rfl (lv_at hl 3 rfl) ?_
                refine lv_goto (tgt := 127) hx hb dX10_number_107 (by decide) ?_
                refine lv_istore_n (lv' := [(3, .int v3), (0, .ref (h 0)), (1, .int (nI 1)), (2, .int (nI j_52))]) hx hb dX10_number_127 rfl hl (by decide) rfl (fun ls hl => ?_)
                refine lv_aload_n hx hb dX10_number_128 rfl (lv_at hl 1 rfl) ?_
                refine lv_dup hx hb dX10_number_129 rfl ?_
                refine va_get (D := (dC, dI)) (ci := 10) (v := .int (nI j)) (C := RX10) (T := TX10) (N := 28) hx hb hts hinX10 hown hK hP 0 rfl rfl 11 (by decide) (hts (.fieldLink RX10 119 "MixedWordsModel" "at" "I") (by decide +kernel)) (fun _ h9 => h9) rfl dX10_number_130 ?_
                refine lv_iconst (v := nI 1) hx hb dX10_number_133 (by decide) ?_
                refine lv_iadd hx hb dX10_number_134 ?_
                refine xt_i (y := nI (j + 1)) (nI_add _ _) ?_
                refine va_put (D := (dC, dI)) (ci := 10) (v := .int (nI (j + 1))) (ty := .int) (C := RX10) (T := TX10) (N := 28) hx hb hts hinX10 tyX10 tyX10_ok nmX10 hown hK hP hD hS 0 rfl rfl 11 (by decide) (hts (.fieldLink RX10 119 "MixedWordsModel" "at" "I") (by decide +kernel)) (fun _ h9 => h9) rfl (by decide +kernel) rfl rfl (Nat.le_of_ble_eq_true rfl) dX10_number_135 (fun H locs hP hD hS => ?_)
                have hP : va_P (dC, dI) vwCl (rW h cs (va_up I 11 (nI (j + 1))) L A Q) H := hP
                have hD : va_D A0 (rW h cs (va_up I 11 (nI (j + 1))) L A Q) := hD
                refine lv_goto (tgt := 67) hx hb dX10_number_138 (by decide) ?_
                exact ih_67 (j + 1) v3 (by omega) (by first | assumption | omega) (by first | assumption | omega) (by first | (intro u h1 h2; omega) | (intro u h1 h2; by_cases e : u = j; (· subst e; assumption); (· exact hd_67 u h1 (by omega)))) (by first | (rw [Nat.sub_self]; rfl) | exact dig_le hj2_67 hv_67 (by assumption) | exact dig_gt hj2_67 hv_67 (by assumption)) _ _ _ hP hD hS (lv_sub hl [1, 2, 3, 0] rfl)
            · skip
              have hdig_70N : ¬ IsDig (A 9 j) := hdig_70
              refine xs_eqT (tgt := 141) hx hb dX10_number_97 (by decide) (by decide) ?_
              refine lv_iload_n hx hb dX10_number_141 rfl (lv_at hl 3 rfl) ?_
              refine lv_bipush (v := nI 9) hx hb dX10_number_142 (by decide) ?_
              refine lv_icmp_le (tgt := 152) hx hb dX10_number_144 (by decide) (fun c_144_73 => ?_) (fun c_144_73 => ?_)
              · skip
                refine lv_iload_n hx hb dX10_number_152 rfl (lv_at hl 1 rfl) ?_
                refine xs_eqF (tgt := 161) hx hb dX10_number_153 (by decide) (by decide) ?_
                refine lv_iload_n hx hb dX10_number_156 rfl (lv_at hl 3 rfl) ?_
                refine lv_ineg hx hb dX10_number_157 ?_
                refine lv_goto (tgt := 162) hx hb dX10_number_158 (by decide) ?_
                exact xr_i (v := (-v3)) hx hb hr hlocks hK hS dX10_number_162 ((va_up (va_up I 11 (nI j)) 12 (I 12)), L, A, Q) ⟨(nI j), (I 12), ⟨j, rfl, j_5, j_52, true, hsk_6, ⟨fun _ => c_6_6, fun _ => rfl⟩, hsk_53, Or.inr ⟨hdig_57D, j, ⟨hj2_67, hjT_67, hd_67, fun _ => hdig_70N⟩, rfl, by rw [← hv_67, if_pos (by assumption)], by rw [← hv_67]; rfl⟩⟩, rfl⟩ hP hD
              · skip
                refine lv_aload_n hx hb dX10_number_147 rfl (lv_at hl 0 rfl) ?_
                refine lv_iload_n hx hb dX10_number_148 rfl (lv_at hl 2 rfl) ?_
                refine xj_v (wc := (rW h cs (va_up I 11 (nI j)) L A Q)) (wr := ([] : va_W)) hP hD hS hA [0, 1, 2, 3, 4, 5, 6, 7, 8, 9, 10, 11, 12, 13, 14, 15, 16] [] rfl rfl (by decide +kernel) (by decide +kernel) (va_runV (As := [.int (nI j_52)]) (rest := []) ⟨hx, hb, hml, hown, hts⟩ (k_X10_fails l dC dI h cs H.size (va_up I 11 (nI j)) L A Q j_52) (cwV 1 hts gX10_number_X10_fails rfl rfl rfl (by decide +kernel) ⟨Nat.le_of_ble_eq_true rfl, Nat.le_of_ble_eq_true rfl⟩) (xpV (wc := (rW h cs (va_up I 11 (nI j)) L A Q)) hP hD hK hN [0, 1, 2, 3, 4, 5, 6, 7, 8, 9, 10, 11, 12, 13, 14, 15, 16] rfl (by decide) 0 (ci := 10) rfl rfl _) rfl rfl hl.1 rfl (lv_room (Nat.le_of_ble_eq_true rfl)) dX10_number_149 ⟨Nat.zero_le _, Nat.zero_le _⟩) (fun u_76 H locs hw hP hD hS => ?_)
                obtain ⟨x12_78, hf_79, rfl⟩ := hw
                have hP : va_P (dC, dI) vwCl (rW h cs (va_up (va_up I 11 (nI j)) 12 x12_78) L A Q) H := hP
                have hD : va_D A0 (rW h cs (va_up (va_up I 11 (nI j)) 12 x12_78) L A Q) := hD
                obtain rfl : x12_78 = wrg (I 12) j_52 := hf_79
                refine lv_iload_n hx hb dX10_number_152 rfl (lv_at hl 1 rfl) ?_
                refine xs_eqF (tgt := 161) hx hb dX10_number_153 (by decide) (by decide) ?_
                refine lv_iload_n hx hb dX10_number_156 rfl (lv_at hl 3 rfl) ?_
                refine lv_ineg hx hb dX10_number_157 ?_
                refine lv_goto (tgt := 162) hx hb dX10_number_158 (by decide) ?_
                exact xr_i (v := (-v3)) hx hb hr hlocks hK hS dX10_number_162 ((va_up (va_up I 11 (nI j)) 12 (wrg (I 12) j_52)), L, A, Q) ⟨(nI j), (wrg (I 12) j_52), ⟨j, rfl, j_5, j_52, true, hsk_6, ⟨fun _ => c_6_6, fun _ => rfl⟩, hsk_53, Or.inr ⟨hdig_57D, j, ⟨hj2_67, hjT_67, hd_67, fun _ => hdig_70N⟩, rfl, by rw [← hv_67, if_neg (Int32.not_le.mpr (Int32.not_le.mp (by assumption)))], by rw [← hv_67]; rfl⟩⟩, rfl⟩ hP hD
      exact cut_67 _ j_52 (nI 0) (Nat.lt_succ_self _) (by first | assumption | omega) (by first | assumption | omega) (by first | (intro u h1 h2; omega) | (intro u h1 h2; by_cases e : u = j; (· subst e; assumption); (· exact hd_67 u h1 (by omega)))) (by first | (rw [Nat.sub_self]; rfl) | exact dig_le hj2_67 hv_67 (by assumption) | exact dig_gt hj2_67 hv_67 (by assumption)) _ _ _ hP hD hS (lv_sub hl [3, 2, 1, 0] rfl)
    · skip
      have hdig_57N : ¬ IsDig (tpAt (A 9) T j_52) := hdig_57
      refine xs_neF (tgt := 60) hx hb dX10_number_47 (by decide) (by decide) ?_
      refine lv_aload_n hx hb dX10_number_50 rfl (lv_at hl 1 rfl) ?_
      refine lv_aload_n hx hb dX10_number_51 rfl (lv_at hl 1 rfl) ?_
      refine va_get (D := (dC, dI)) (ci := 10) (v := .int (nI j_52)) (C := RX10) (T := TX10) (N := 28) hx hb hts hinX10 hown hK hP 0 rfl rfl 11 (by decide) (hts (.fieldLink RX10 119 "MixedWordsModel" "at" "I") (by decide +kernel)) (fun _ h9 => h9) rfl dX10_number_52 ?_
      refine xj_v (wc := (rW h cs (va_up I 11 (nI j_52)) L A Q)) (wr := ([] : va_W)) hP hD hS hA [0, 1, 2, 3, 4, 5, 6, 7, 8, 9, 10, 11, 12, 13, 14, 15, 16] [] rfl rfl (by decide +kernel) (by decide +kernel) (va_runV (As := [.int (nI j_52)]) (rest := []) ⟨hx, hb, hml, hown, hts⟩ (k_X10_fails l dC dI h cs H.size (va_up I 11 (nI j_52)) L A Q j_52) (cwV 1 hts gX10_number_X10_fails rfl rfl rfl (by decide +kernel) ⟨Nat.le_of_ble_eq_true rfl, Nat.le_of_ble_eq_true rfl⟩) (xpV (wc := (rW h cs (va_up I 11 (nI j_52)) L A Q)) hP hD hK hN [0, 1, 2, 3, 4, 5, 6, 7, 8, 9, 10, 11, 12, 13, 14, 15, 16] rfl (by decide) 0 (ci := 10) rfl rfl _) rfl rfl hl.1 rfl (lv_room (Nat.le_of_ble_eq_true rfl)) dX10_number_55 ⟨Nat.zero_le _, Nat.zero_le _⟩) (fun u_82 H locs hw hP hD hS => ?_)
      obtain ⟨x12_84, hf_85, rfl⟩ := hw
      have hP : va_P (dC, dI) vwCl (rW h cs (va_up (va_up I 11 (nI j_52)) 12 x12_84) L A Q) H := hP
      have hD : va_D A0 (rW h cs (va_up (va_up I 11 (nI j_52)) 12 x12_84) L A Q) := hD
      obtain rfl : x12_84 = wrg (I 12) j_52 := hf_85
      refine lv_iconst (v := nI 0) hx hb dX10_number_58 (by decide) ?_
      exact xr_i (v := (nI 0)) hx hb hr hlocks hK hS dX10_number_59 ((va_up (va_up I 11 (nI j_52)) 12 (wrg (I 12) j_52)), L, A, Q) ⟨(nI j_52), (wrg (I 12) j_52), ⟨j_52, rfl, j_5, j_52, true, hsk_6, ⟨fun _ => c_6_6, fun _ => rfl⟩, hsk_53, Or.inl ⟨hdig_57N, rfl, rfl, rfl⟩⟩, rfl⟩ hP hD
