def abC (g : Nat → Nat → Int32) (le : Nat → Int32) (c : Nat) : Nat → Int32
  | 0 => nI 0
  | r + 1 => abC g le c r + g r c * le r
def blC (g : Nat → Nat → Int32) (R c : Nat) : Int32 := if nI 1 < prodF g c c R then prodF g c c R else nI 1
def ixC (g : Nat → Nat → Int32) (le : Nat → Int32) (a R c : Nat) : Int32 := nlF (abC g le c R).toInt64 (blC g R c).toInt64 (nI a)
def ltC (a : Nat) (i : Int32) : Int32 := nI 2 * i - nI a + nI 1
def dC9 (g : Nat → Nat → Int32) (R : Nat) : Nat → Int32 := fun t => prodF g t t R
def tkC (d : Nat → Int32) (M : Nat) : Nat → Int32
  | 0 => nI 0
  | k + 1 => tkC d M k ||| (nI 1 <<< (nI (gtB d (tkC d M k) M).1 &&& 31))
/-- the rounds of taking: what is left, the indexes of the letters -/
def tkP (g : Nat → Nat → Int32) (a R M : Nat) (h0 : Nat → Int32) : Nat → (Nat → Int32) → (Nat → Int32) → Prop
  | 0, le, _ => ∀ t : Nat, t < 5 → le t = h0 t
  | k + 1, le, ix => ∃ le0 ix0 : Nat → Int32, tkP g a R M h0 k le0 ix0 ∧ ix = upd ix0 (gtB (dC9 g R) (tkC (dC9 g R) M k) M).1 (ixC g le0 a R (gtB (dC9 g R) (tkC (dC9 g R) M k) M).1) ∧ ∀ t : Nat, t < R → le t = le0 t - ltC a (ixC g le0 a R (gtB (dC9 g R) (tkC (dC9 g R) M k) M).1) * g t (gtB (dC9 g R) (tkC (dC9 g R) M k) M).1
theorem to_s {f l : Nat → Int32} {g : Nat → Nat → Int32} {x : Int32} {n c : Nat} (h1 : ∀ t : Nat, t < n → f t = l t - x * g t c) (h2 : ∀ t : Nat, n ≤ t → f t = l t) : (∀ t : Nat, t < n + 1 → upd f n (f n - x * g n c) t = l t - x * g t c) ∧ ∀ t : Nat, n + 1 ≤ t → upd f n (f n - x * g n c) t = l t := by
  refine ⟨fun t ht => ?_, fun t ht => ?_⟩
  · by_cases e : t = n
    · rw [e, pk_us, h2 n (Nat.le_refl n)]
    · rw [pk_un e]
      exact h1 t (by omega)
  · rw [pk_un (by omega)]
    exact h2 t (by omega)
set_option maxRecDepth 20000 in
theorem ggX6_takeOff_X9_product : GoodIn wsX6_takeOff wsX9_product := goodIn_r _ [13] rfl (by decide +kernel)
set_option maxRecDepth 20000 in
theorem gX6_takeOff_X9_product_n55 : GoodIn wsX6_takeOff (wsX9_product) := ggX6_takeOff_X9_product
set_option maxRecDepth 20000 in
theorem ggX6_takeOff_X9_nearestLetter : GoodIn wsX6_takeOff wsX9_nearestLetter := goodIn_r _ [15, 16, 17, 18, 12, 19, 20, 21, 22, 23, 24, 25, 26, 27, 28, 7, 29, 30, 31, 32] rfl (by decide +kernel)
set_option maxRecDepth 20000 in
theorem gX6_takeOff_X9_nearestLetter_n68 : GoodIn wsX6_takeOff (wsX9_nearestLetter) := ggX6_takeOff_X9_nearestLetter
theorem bdX6_takeOff_0 : (decode cX6_takeOff 0 = .ok (.iconst 0, 1)) ∧ (decode cX6_takeOff 1 = .ok (.istore_n 2, 1)) ∧ (decode cX6_takeOff 2 = .ok (.iconst 0, 1)) ∧ (decode cX6_takeOff 3 = .ok (.istore_n 3, 1)) ∧ (decode cX6_takeOff 4 = .ok (.iload_n 3, 1)) ∧ (decode cX6_takeOff 5 = .ok (.aload_n 0, 1)) ∧ (decode cX6_takeOff 6 = .ok (.getfield 21, 3)) ∧ (decode cX6_takeOff 9 = .ok (.getfield 52, 3)) ∧ (decode cX6_takeOff 12 = .ok (.if_icmp .ge 30, 3)) ∧ (decode cX6_takeOff 15 = .ok (.iload_n 2, 1)) ∧ (decode cX6_takeOff 16 = .ok (.aload_n 0, 1)) ∧ (decode cX6_takeOff 17 = .ok (.getfield 21, 3)) ∧ (decode cX6_takeOff 20 = .ok (.getfield 48, 3)) ∧ (decode cX6_takeOff 23 = .ok (.iload_n 3, 1)) ∧ (decode cX6_takeOff 24 = .ok (.aaload, 1)) ∧ (decode cX6_takeOff 25 = .ok (.iload_n 1, 1)) := by decide +kernel
theorem dX6_takeOff_0 : decode cX6_takeOff 0 = .ok (.iconst 0, 1) := bdX6_takeOff_0.1
theorem dX6_takeOff_1 : decode cX6_takeOff 1 = .ok (.istore_n 2, 1) := bdX6_takeOff_0.2.1
theorem dX6_takeOff_2 : decode cX6_takeOff 2 = .ok (.iconst 0, 1) := bdX6_takeOff_0.2.2.1
theorem dX6_takeOff_3 : decode cX6_takeOff 3 = .ok (.istore_n 3, 1) := bdX6_takeOff_0.2.2.2.1
theorem dX6_takeOff_4 : decode cX6_takeOff 4 = .ok (.iload_n 3, 1) := bdX6_takeOff_0.2.2.2.2.1
theorem dX6_takeOff_5 : decode cX6_takeOff 5 = .ok (.aload_n 0, 1) := bdX6_takeOff_0.2.2.2.2.2.1
theorem dX6_takeOff_6 : decode cX6_takeOff 6 = .ok (.getfield 21, 3) := bdX6_takeOff_0.2.2.2.2.2.2.1
theorem dX6_takeOff_9 : decode cX6_takeOff 9 = .ok (.getfield 52, 3) := bdX6_takeOff_0.2.2.2.2.2.2.2.1
theorem dX6_takeOff_12 : decode cX6_takeOff 12 = .ok (.if_icmp .ge 30, 3) := bdX6_takeOff_0.2.2.2.2.2.2.2.2.1
theorem dX6_takeOff_15 : decode cX6_takeOff 15 = .ok (.iload_n 2, 1) := bdX6_takeOff_0.2.2.2.2.2.2.2.2.2.1
theorem dX6_takeOff_16 : decode cX6_takeOff 16 = .ok (.aload_n 0, 1) := bdX6_takeOff_0.2.2.2.2.2.2.2.2.2.2.1
theorem dX6_takeOff_17 : decode cX6_takeOff 17 = .ok (.getfield 21, 3) := bdX6_takeOff_0.2.2.2.2.2.2.2.2.2.2.2.1
theorem dX6_takeOff_20 : decode cX6_takeOff 20 = .ok (.getfield 48, 3) := bdX6_takeOff_0.2.2.2.2.2.2.2.2.2.2.2.2.1
theorem dX6_takeOff_23 : decode cX6_takeOff 23 = .ok (.iload_n 3, 1) := bdX6_takeOff_0.2.2.2.2.2.2.2.2.2.2.2.2.2.1
theorem dX6_takeOff_24 : decode cX6_takeOff 24 = .ok (.aaload, 1) := bdX6_takeOff_0.2.2.2.2.2.2.2.2.2.2.2.2.2.2.1
theorem dX6_takeOff_25 : decode cX6_takeOff 25 = .ok (.iload_n 1, 1) := bdX6_takeOff_0.2.2.2.2.2.2.2.2.2.2.2.2.2.2.2
theorem bdX6_takeOff_26 : (decode cX6_takeOff 26 = .ok (.iaload, 1)) ∧ (decode cX6_takeOff 27 = .ok (.aload_n 0, 1)) ∧ (decode cX6_takeOff 28 = .ok (.getfield 9, 3)) ∧ (decode cX6_takeOff 31 = .ok (.iload_n 3, 1)) ∧ (decode cX6_takeOff 32 = .ok (.iaload, 1)) ∧ (decode cX6_takeOff 33 = .ok (.imul, 1)) ∧ (decode cX6_takeOff 34 = .ok (.iadd, 1)) ∧ (decode cX6_takeOff 35 = .ok (.istore_n 2, 1)) ∧ (decode cX6_takeOff 36 = .ok (.iinc 3 1, 3)) ∧ (decode cX6_takeOff 39 = .ok (.goto (-35), 3)) ∧ (decode cX6_takeOff 42 = .ok (.iconst 1, 1)) ∧ (decode cX6_takeOff 43 = .ok (.aload_n 0, 1)) ∧ (decode cX6_takeOff 44 = .ok (.getfield 21, 3)) ∧ (decode cX6_takeOff 47 = .ok (.getfield 48, 3)) ∧ (decode cX6_takeOff 50 = .ok (.aload_n 0, 1)) ∧ (decode cX6_takeOff 51 = .ok (.getfield 21, 3)) := by decide +kernel
theorem dX6_takeOff_26 : decode cX6_takeOff 26 = .ok (.iaload, 1) := bdX6_takeOff_26.1
theorem dX6_takeOff_27 : decode cX6_takeOff 27 = .ok (.aload_n 0, 1) := bdX6_takeOff_26.2.1
theorem dX6_takeOff_28 : decode cX6_takeOff 28 = .ok (.getfield 9, 3) := bdX6_takeOff_26.2.2.1
theorem dX6_takeOff_31 : decode cX6_takeOff 31 = .ok (.iload_n 3, 1) := bdX6_takeOff_26.2.2.2.1
theorem dX6_takeOff_32 : decode cX6_takeOff 32 = .ok (.iaload, 1) := bdX6_takeOff_26.2.2.2.2.1
theorem dX6_takeOff_33 : decode cX6_takeOff 33 = .ok (.imul, 1) := bdX6_takeOff_26.2.2.2.2.2.1
theorem dX6_takeOff_34 : decode cX6_takeOff 34 = .ok (.iadd, 1) := bdX6_takeOff_26.2.2.2.2.2.2.1
theorem dX6_takeOff_35 : decode cX6_takeOff 35 = .ok (.istore_n 2, 1) := bdX6_takeOff_26.2.2.2.2.2.2.2.1
theorem dX6_takeOff_36 : decode cX6_takeOff 36 = .ok (.iinc 3 1, 3) := bdX6_takeOff_26.2.2.2.2.2.2.2.2.1
theorem dX6_takeOff_39 : decode cX6_takeOff 39 = .ok (.goto (-35), 3) := bdX6_takeOff_26.2.2.2.2.2.2.2.2.2.1
theorem dX6_takeOff_42 : decode cX6_takeOff 42 = .ok (.iconst 1, 1) := bdX6_takeOff_26.2.2.2.2.2.2.2.2.2.2.1
theorem dX6_takeOff_43 : decode cX6_takeOff 43 = .ok (.aload_n 0, 1) := bdX6_takeOff_26.2.2.2.2.2.2.2.2.2.2.2.1
theorem dX6_takeOff_44 : decode cX6_takeOff 44 = .ok (.getfield 21, 3) := bdX6_takeOff_26.2.2.2.2.2.2.2.2.2.2.2.2.1
theorem dX6_takeOff_47 : decode cX6_takeOff 47 = .ok (.getfield 48, 3) := bdX6_takeOff_26.2.2.2.2.2.2.2.2.2.2.2.2.2.1
theorem dX6_takeOff_50 : decode cX6_takeOff 50 = .ok (.aload_n 0, 1) := bdX6_takeOff_26.2.2.2.2.2.2.2.2.2.2.2.2.2.2.1
theorem dX6_takeOff_51 : decode cX6_takeOff 51 = .ok (.getfield 21, 3) := bdX6_takeOff_26.2.2.2.2.2.2.2.2.2.2.2.2.2.2.2
theorem bdX6_takeOff_54 : (decode cX6_takeOff 54 = .ok (.getfield 52, 3)) ∧ (decode cX6_takeOff 57 = .ok (.iload_n 1, 1)) ∧ (decode cX6_takeOff 58 = .ok (.iload_n 1, 1)) ∧ (decode cX6_takeOff 59 = .ok (.invokestatic 55, 3)) ∧ (decode cX6_takeOff 62 = .ok (.invokestatic 59, 3)) ∧ (decode cX6_takeOff 65 = .ok (.istore_n 3, 1)) ∧ (decode cX6_takeOff 66 = .ok (.aload_n 0, 1)) ∧ (decode cX6_takeOff 67 = .ok (.getfield 18, 3)) ∧ (decode cX6_takeOff 70 = .ok (.iload_n 1, 1)) ∧ (decode cX6_takeOff 71 = .ok (.iload_n 2, 1)) ∧ (decode cX6_takeOff 72 = .ok (.i2l, 1)) ∧ (decode cX6_takeOff 73 = .ok (.iload_n 3, 1)) ∧ (decode cX6_takeOff 74 = .ok (.i2l, 1)) ∧ (decode cX6_takeOff 75 = .ok (.aload_n 0, 1)) ∧ (decode cX6_takeOff 76 = .ok (.getfield 21, 3)) ∧ (decode cX6_takeOff 79 = .ok (.getfield 65, 3)) := by decide +kernel
theorem dX6_takeOff_54 : decode cX6_takeOff 54 = .ok (.getfield 52, 3) := bdX6_takeOff_54.1
theorem dX6_takeOff_57 : decode cX6_takeOff 57 = .ok (.iload_n 1, 1) := bdX6_takeOff_54.2.1
theorem dX6_takeOff_58 : decode cX6_takeOff 58 = .ok (.iload_n 1, 1) := bdX6_takeOff_54.2.2.1
theorem dX6_takeOff_59 : decode cX6_takeOff 59 = .ok (.invokestatic 55, 3) := bdX6_takeOff_54.2.2.2.1
theorem dX6_takeOff_62 : decode cX6_takeOff 62 = .ok (.invokestatic 59, 3) := bdX6_takeOff_54.2.2.2.2.1
theorem dX6_takeOff_65 : decode cX6_takeOff 65 = .ok (.istore_n 3, 1) := bdX6_takeOff_54.2.2.2.2.2.1
theorem dX6_takeOff_66 : decode cX6_takeOff 66 = .ok (.aload_n 0, 1) := bdX6_takeOff_54.2.2.2.2.2.2.1
theorem dX6_takeOff_67 : decode cX6_takeOff 67 = .ok (.getfield 18, 3) := bdX6_takeOff_54.2.2.2.2.2.2.2.1
theorem dX6_takeOff_70 : decode cX6_takeOff 70 = .ok (.iload_n 1, 1) := bdX6_takeOff_54.2.2.2.2.2.2.2.2.1
theorem dX6_takeOff_71 : decode cX6_takeOff 71 = .ok (.iload_n 2, 1) := bdX6_takeOff_54.2.2.2.2.2.2.2.2.2.1
theorem dX6_takeOff_72 : decode cX6_takeOff 72 = .ok (.i2l, 1) := bdX6_takeOff_54.2.2.2.2.2.2.2.2.2.2.1
theorem dX6_takeOff_73 : decode cX6_takeOff 73 = .ok (.iload_n 3, 1) := bdX6_takeOff_54.2.2.2.2.2.2.2.2.2.2.2.1
theorem dX6_takeOff_74 : decode cX6_takeOff 74 = .ok (.i2l, 1) := bdX6_takeOff_54.2.2.2.2.2.2.2.2.2.2.2.2.1
theorem dX6_takeOff_75 : decode cX6_takeOff 75 = .ok (.aload_n 0, 1) := bdX6_takeOff_54.2.2.2.2.2.2.2.2.2.2.2.2.2.1
theorem dX6_takeOff_76 : decode cX6_takeOff 76 = .ok (.getfield 21, 3) := bdX6_takeOff_54.2.2.2.2.2.2.2.2.2.2.2.2.2.2.1
theorem dX6_takeOff_79 : decode cX6_takeOff 79 = .ok (.getfield 65, 3) := bdX6_takeOff_54.2.2.2.2.2.2.2.2.2.2.2.2.2.2.2
theorem bdX6_takeOff_82 : (decode cX6_takeOff 82 = .ok (.invokestatic 68, 3)) ∧ (decode cX6_takeOff 85 = .ok (.iastore, 1)) ∧ (decode cX6_takeOff 86 = .ok (.iconst 2, 1)) ∧ (decode cX6_takeOff 87 = .ok (.aload_n 0, 1)) ∧ (decode cX6_takeOff 88 = .ok (.getfield 18, 3)) ∧ (decode cX6_takeOff 91 = .ok (.iload_n 1, 1)) ∧ (decode cX6_takeOff 92 = .ok (.iaload, 1)) ∧ (decode cX6_takeOff 93 = .ok (.imul, 1)) ∧ (decode cX6_takeOff 94 = .ok (.aload_n 0, 1)) ∧ (decode cX6_takeOff 95 = .ok (.getfield 21, 3)) ∧ (decode cX6_takeOff 98 = .ok (.getfield 65, 3)) ∧ (decode cX6_takeOff 101 = .ok (.isub, 1)) ∧ (decode cX6_takeOff 102 = .ok (.iconst 1, 1)) ∧ (decode cX6_takeOff 103 = .ok (.iadd, 1)) ∧ (decode cX6_takeOff 104 = .ok (.istore 4, 2)) ∧ (decode cX6_takeOff 106 = .ok (.iconst 0, 1)) := by decide +kernel
theorem dX6_takeOff_82 : decode cX6_takeOff 82 = .ok (.invokestatic 68, 3) := bdX6_takeOff_82.1
theorem dX6_takeOff_85 : decode cX6_takeOff 85 = .ok (.iastore, 1) := bdX6_takeOff_82.2.1
theorem dX6_takeOff_86 : decode cX6_takeOff 86 = .ok (.iconst 2, 1) := bdX6_takeOff_82.2.2.1
theorem dX6_takeOff_87 : decode cX6_takeOff 87 = .ok (.aload_n 0, 1) := bdX6_takeOff_82.2.2.2.1
theorem dX6_takeOff_88 : decode cX6_takeOff 88 = .ok (.getfield 18, 3) := bdX6_takeOff_82.2.2.2.2.1
theorem dX6_takeOff_91 : decode cX6_takeOff 91 = .ok (.iload_n 1, 1) := bdX6_takeOff_82.2.2.2.2.2.1
theorem dX6_takeOff_92 : decode cX6_takeOff 92 = .ok (.iaload, 1) := bdX6_takeOff_82.2.2.2.2.2.2.1
theorem dX6_takeOff_93 : decode cX6_takeOff 93 = .ok (.imul, 1) := bdX6_takeOff_82.2.2.2.2.2.2.2.1
theorem dX6_takeOff_94 : decode cX6_takeOff 94 = .ok (.aload_n 0, 1) := bdX6_takeOff_82.2.2.2.2.2.2.2.2.1
theorem dX6_takeOff_95 : decode cX6_takeOff 95 = .ok (.getfield 21, 3) := bdX6_takeOff_82.2.2.2.2.2.2.2.2.2.1
theorem dX6_takeOff_98 : decode cX6_takeOff 98 = .ok (.getfield 65, 3) := bdX6_takeOff_82.2.2.2.2.2.2.2.2.2.2.1
theorem dX6_takeOff_101 : decode cX6_takeOff 101 = .ok (.isub, 1) := bdX6_takeOff_82.2.2.2.2.2.2.2.2.2.2.2.1
theorem dX6_takeOff_102 : decode cX6_takeOff 102 = .ok (.iconst 1, 1) := bdX6_takeOff_82.2.2.2.2.2.2.2.2.2.2.2.2.1
theorem dX6_takeOff_103 : decode cX6_takeOff 103 = .ok (.iadd, 1) := bdX6_takeOff_82.2.2.2.2.2.2.2.2.2.2.2.2.2.1
theorem dX6_takeOff_104 : decode cX6_takeOff 104 = .ok (.istore 4, 2) := bdX6_takeOff_82.2.2.2.2.2.2.2.2.2.2.2.2.2.2.1
theorem dX6_takeOff_106 : decode cX6_takeOff 106 = .ok (.iconst 0, 1) := bdX6_takeOff_82.2.2.2.2.2.2.2.2.2.2.2.2.2.2.2
theorem bdX6_takeOff_107 : (decode cX6_takeOff 107 = .ok (.istore 5, 2)) ∧ (decode cX6_takeOff 109 = .ok (.iload 5, 2)) ∧ (decode cX6_takeOff 111 = .ok (.aload_n 0, 1)) ∧ (decode cX6_takeOff 112 = .ok (.getfield 21, 3)) ∧ (decode cX6_takeOff 115 = .ok (.getfield 52, 3)) ∧ (decode cX6_takeOff 118 = .ok (.if_icmp .ge 34, 3)) ∧ (decode cX6_takeOff 121 = .ok (.aload_n 0, 1)) ∧ (decode cX6_takeOff 122 = .ok (.getfield 9, 3)) ∧ (decode cX6_takeOff 125 = .ok (.iload 5, 2)) ∧ (decode cX6_takeOff 127 = .ok (.dup2, 1)) ∧ (decode cX6_takeOff 128 = .ok (.iaload, 1)) ∧ (decode cX6_takeOff 129 = .ok (.iload 4, 2)) ∧ (decode cX6_takeOff 131 = .ok (.aload_n 0, 1)) ∧ (decode cX6_takeOff 132 = .ok (.getfield 21, 3)) ∧ (decode cX6_takeOff 135 = .ok (.getfield 48, 3)) ∧ (decode cX6_takeOff 138 = .ok (.iload 5, 2)) := by decide +kernel
theorem dX6_takeOff_107 : decode cX6_takeOff 107 = .ok (.istore 5, 2) := bdX6_takeOff_107.1
theorem dX6_takeOff_109 : decode cX6_takeOff 109 = .ok (.iload 5, 2) := bdX6_takeOff_107.2.1
theorem dX6_takeOff_111 : decode cX6_takeOff 111 = .ok (.aload_n 0, 1) := bdX6_takeOff_107.2.2.1
theorem dX6_takeOff_112 : decode cX6_takeOff 112 = .ok (.getfield 21, 3) := bdX6_takeOff_107.2.2.2.1
theorem dX6_takeOff_115 : decode cX6_takeOff 115 = .ok (.getfield 52, 3) := bdX6_takeOff_107.2.2.2.2.1
theorem dX6_takeOff_118 : decode cX6_takeOff 118 = .ok (.if_icmp .ge 34, 3) := bdX6_takeOff_107.2.2.2.2.2.1
theorem dX6_takeOff_121 : decode cX6_takeOff 121 = .ok (.aload_n 0, 1) := bdX6_takeOff_107.2.2.2.2.2.2.1
theorem dX6_takeOff_122 : decode cX6_takeOff 122 = .ok (.getfield 9, 3) := bdX6_takeOff_107.2.2.2.2.2.2.2.1
theorem dX6_takeOff_125 : decode cX6_takeOff 125 = .ok (.iload 5, 2) := bdX6_takeOff_107.2.2.2.2.2.2.2.2.1
theorem dX6_takeOff_127 : decode cX6_takeOff 127 = .ok (.dup2, 1) := bdX6_takeOff_107.2.2.2.2.2.2.2.2.2.1
theorem dX6_takeOff_128 : decode cX6_takeOff 128 = .ok (.iaload, 1) := bdX6_takeOff_107.2.2.2.2.2.2.2.2.2.2.1
theorem dX6_takeOff_129 : decode cX6_takeOff 129 = .ok (.iload 4, 2) := bdX6_takeOff_107.2.2.2.2.2.2.2.2.2.2.2.1
theorem dX6_takeOff_131 : decode cX6_takeOff 131 = .ok (.aload_n 0, 1) := bdX6_takeOff_107.2.2.2.2.2.2.2.2.2.2.2.2.1
theorem dX6_takeOff_132 : decode cX6_takeOff 132 = .ok (.getfield 21, 3) := bdX6_takeOff_107.2.2.2.2.2.2.2.2.2.2.2.2.2.1
theorem dX6_takeOff_135 : decode cX6_takeOff 135 = .ok (.getfield 48, 3) := bdX6_takeOff_107.2.2.2.2.2.2.2.2.2.2.2.2.2.2.1
theorem dX6_takeOff_138 : decode cX6_takeOff 138 = .ok (.iload 5, 2) := bdX6_takeOff_107.2.2.2.2.2.2.2.2.2.2.2.2.2.2.2
theorem bdX6_takeOff_140 : (decode cX6_takeOff 140 = .ok (.aaload, 1)) ∧ (decode cX6_takeOff 141 = .ok (.iload_n 1, 1)) ∧ (decode cX6_takeOff 142 = .ok (.iaload, 1)) ∧ (decode cX6_takeOff 143 = .ok (.imul, 1)) ∧ (decode cX6_takeOff 144 = .ok (.isub, 1)) ∧ (decode cX6_takeOff 145 = .ok (.iastore, 1)) ∧ (decode cX6_takeOff 146 = .ok (.iinc 5 1, 3)) ∧ (decode cX6_takeOff 149 = .ok (.goto (-40), 3)) ∧ (decode cX6_takeOff 152 = .ok (.return_, 1)) := by decide +kernel
theorem dX6_takeOff_140 : decode cX6_takeOff 140 = .ok (.aaload, 1) := bdX6_takeOff_140.1
theorem dX6_takeOff_141 : decode cX6_takeOff 141 = .ok (.iload_n 1, 1) := bdX6_takeOff_140.2.1
theorem dX6_takeOff_142 : decode cX6_takeOff 142 = .ok (.iaload, 1) := bdX6_takeOff_140.2.2.1
theorem dX6_takeOff_143 : decode cX6_takeOff 143 = .ok (.imul, 1) := bdX6_takeOff_140.2.2.2.1
theorem dX6_takeOff_144 : decode cX6_takeOff 144 = .ok (.isub, 1) := bdX6_takeOff_140.2.2.2.2.1
theorem dX6_takeOff_145 : decode cX6_takeOff 145 = .ok (.iastore, 1) := bdX6_takeOff_140.2.2.2.2.2.1
theorem dX6_takeOff_146 : decode cX6_takeOff 146 = .ok (.iinc 5 1, 3) := bdX6_takeOff_140.2.2.2.2.2.2.1
theorem dX6_takeOff_149 : decode cX6_takeOff 149 = .ok (.goto (-40), 3) := bdX6_takeOff_140.2.2.2.2.2.2.2.1
theorem dX6_takeOff_152 : decode cX6_takeOff 152 = .ok (.return_, 1) := bdX6_takeOff_140.2.2.2.2.2.2.2.2
set_option maxHeartbeats 4000000 in
set_option maxRecDepth 100000 in
theorem k_X6_takeOff (l : Launch) (dC : Nat → ClassId) (dI : Nat → Nat → Nat) (h : Nat → Nat) (cs : Nat → ClassId) (sz : Nat) (I : Nat → Int32) (L : Nat → Int64) (A : Nat → Nat → Int32) (Q : Nat → Nat → Int64) (G : Nat → Nat → Nat → Int32) (J : Nat → Nat → Nat → Int64) (cl R M a : Nat) (hcl : cl < 4) (hR : I 120 = nI R) (hR1 : 1 ≤ R) (hR5 : R ≤ 5) (hM : I 121 = nI M) (hM1 : 1 ≤ M) (hM4 : M ≤ 4) (ha : I 122 = nI a) (ha2 : a = 2 ∨ a = 4) : Met l yX6_takeOff wsX6_takeOff ({ frames := 3, cells := 0, slots := 0, locals := 106 }) (va_Pc [.ref (h 107), .int (nI cl)] (xPre (dC, dI) (wTaker h cs I L A Q G J) (tysA cs) sz)) (va_Qv (fun (u : CS) => ∃ a190 : Nat → Int32, ∃ a192 : Nat → Int32, (a192 = upd (A 192) cl (ixC (G 0) (A 190) a R cl) ∧ (∀ t : Nat, t < R → a190 t = A 190 t - ltC a (ixC (G 0) (A 190) a R cl) * G 0 t cl)) ∧ u = (I, L, (va_up (va_up A 190 a190) 192 a192), Q, G, J)) (xB (dC, dI) (tysA cs) (va_A (wTaker h cs I L A Q G J) sz) (fun u : CS => wTaker h cs u.1 u.2.1 u.2.2.1 u.2.2.2.1 u.2.2.2.2.1 u.2.2.2.2.2)) (va_A (wTaker h cs I L A Q G J) sz)) 0 0 (va_A (wTaker h cs I L A Q G J) sz) := by
  refine Met.ofW (cc := cX6_takeOff) (maxL := 6) (ret := none) (by decide) rfl ?_
  intro p e s m args below meth c s₁ B hml hv
  obtain ⟨rfl, hsz, hP, hK, hD0, hN⟩ := hv
  have hx := B.exec
  have hb := B.bytes
  have hr := B.returns
  have hts := atoms_spec (ws := wsX6_takeOff) B.pre
  have hown : s.vm.findClass RX6 = some m.cls := findClass_of_methodNamed B.named
  have hlocks := B.notSynchronized
  subst hsz
  have hD := hD0.self (sz := s.heap.size)
  generalize hAe : va_A (wTaker h cs I L A Q G J) s.heap.size = A0 at hD ⊢
  have hA : ∀ q : Nat, s.heap.size ≤ q → A0 q := fun q h => by rw [← hAe]; exact Or.inr h
  have hl := lv_entry ([.ref (h 107), .int (nI cl)]) (n := 6) (Nat.le_of_ble_eq_true rfl)
  rw [lg_entry_eq]
  generalize (lg_sl ([.ref (h 107), .int (nI cl)]) ++ List.replicate (6 - (lg_sl ([.ref (h 107), .int (nI cl)])).length) Slot.unset).toArray = ls at hl ⊢
  have hl : lv_has ls 6 [(0, .ref (h 107)), (1, .int (nI cl))] := hl
  generalize hH : s.heap = H at hP ⊢
  have hS : va_S A0 s.heap H [] := by rw [← hH]; exact va_S.rf
  have hinX6 : ∀ w ∈ wsX60, w ∈ wsX6_takeOff := by decide +kernel
  have hinX3 : ∀ w ∈ wsX30, w ∈ wsX6_takeOff := by decide +kernel
  refine lv_iconst (v := nI 0) hx hb dX6_takeOff_0 (by decide) ?_
  refine lv_istore_n (lv' := [(2, .int (nI 0)), (0, .ref (h 107)), (1, .int (nI cl))]) hx hb dX6_takeOff_1 rfl hl (by decide) rfl (fun ls hl => ?_)
  refine lv_iconst (v := nI 0) hx hb dX6_takeOff_2 (by decide) ?_
  refine lv_istore_n (lv' := [(3, .int (nI 0)), (2, .int (nI 0)), (0, .ref (h 107)), (1, .int (nI cl))]) hx hb dX6_takeOff_3 rfl hl (by decide) rfl (fun ls hl => ?_)
  have cut_4 : ∀ (nf : Nat) (n : Nat), (R - n) < nf → (n ≤ R) → ∀ (H : Heap) (locs : List Loc) (ls : Array Slot), va_P (dC, dI) vwCl (wTaker h cs I L A Q G J) H → va_D A0 (wTaker h cs I L A Q G J) → va_S A0 s.heap H locs → lv_has ls 6 [(0, .ref (h 107)), (1, .int (nI cl)), (2, .int (abC (G 0) (A 190) cl n)), (3, .int (nI n))] → W p l e (headSpec wsX6_takeOff ({ frames := 3, cells := 0, slots := 0, locals := 106 })).room s m ([.ref (h 107), .int (nI cl)] : List Value).toArray below meth c H locs 0 0 (MQ below (va_Qv (fun (u : CS) => ∃ a190 : Nat → Int32, ∃ a192 : Nat → Int32, (a192 = upd (A 192) cl (ixC (G 0) (A 190) a R cl) ∧ (∀ t : Nat, t < R → a190 t = A 190 t - ltC a (ixC (G 0) (A 190) a R cl) * G 0 t cl)) ∧ u = (I, L, (va_up (va_up A 190 a190) 192 a192), Q, G, J)) (xB (dC, dI) (tysA cs) A0 (fun u : CS => wTaker h cs u.1 u.2.1 u.2.2.1 u.2.2.2.1 u.2.2.2.2.1 u.2.2.2.2.2)) A0) ([.ref (h 107), .int (nI cl)] : List Value).toArray s 0 0 A0) (F0 m 4 ls []) := by
    intro nf
    induction nf with
    | zero => intro n hm; exact absurd hm (Nat.not_lt_zero _)
    | succ nf ih_4 =>
      intro n hm_4 hn4 H locs ls hP hD hS hl
      refine lv_iload_n hx hb dX6_takeOff_4 rfl (lv_at hl 3 rfl) ?_
      refine lv_aload_n hx hb dX6_takeOff_5 rfl (lv_at hl 0 rfl) ?_
      refine va_get (D := (dC, dI)) (ci := 6) (v := .ref (h 101)) (C := RX6) (T := TX6) (N := 4) hx hb hts hinX6 hown hK hP 0 rfl rfl 0 (by decide) (hts (.fieldLink RX6 21 "MixedWords$Taker" "mix" "LMixedWords$Mix;") (by decide +kernel)) (fun _ h9 => h9) rfl dX6_takeOff_6 ?_
      refine va_get (D := (dC, dI)) (ci := 3) (v := .int (I 120)) (C := RX3) (T := TX3) (N := 6) hx hb hts hinX3 hown hK hP 4 rfl rfl 0 (by decide) (hts (.fieldLink RX6 52 "MixedWords$Mix" "height" "I") (by decide +kernel)) (fun _ h9 => h9) rfl dX6_takeOff_9 ?_
      refine xt_i (y := nI R) (hR) ?_
      refine xn_ge (tgt := 42) hx hb dX6_takeOff_12 (by decide) (by omega) (by omega) (fun c_12_0 => ?_) (fun c_12_0 => ?_)
      · skip
        have en4 : n = R := by omega
        rw [en4] at hl
        refine lv_iconst (v := nI 1) hx hb dX6_takeOff_42 (by decide) ?_
        refine lv_aload_n hx hb dX6_takeOff_43 rfl (lv_at hl 0 rfl) ?_
        refine va_get (D := (dC, dI)) (ci := 6) (v := .ref (h 101)) (C := RX6) (T := TX6) (N := 4) hx hb hts hinX6 hown hK hP 0 rfl rfl 0 (by decide) (hts (.fieldLink RX6 21 "MixedWords$Taker" "mix" "LMixedWords$Mix;") (by decide +kernel)) (fun _ h9 => h9) rfl dX6_takeOff_44 ?_
        refine va_get (D := (dC, dI)) (ci := 3) (v := .ref (h 130)) (C := RX3) (T := TX3) (N := 6) hx hb hts hinX3 hown hK hP 4 rfl rfl 4 (by decide) (hts (.fieldLink RX6 48 "MixedWords$Mix" "cells" "[[I") (by decide +kernel)) (fun _ h9 => h9) rfl dX6_takeOff_47 ?_
        refine lv_aload_n hx hb dX6_takeOff_50 rfl (lv_at hl 0 rfl) ?_
        refine va_get (D := (dC, dI)) (ci := 6) (v := .ref (h 101)) (C := RX6) (T := TX6) (N := 4) hx hb hts hinX6 hown hK hP 0 rfl rfl 0 (by decide) (hts (.fieldLink RX6 21 "MixedWords$Taker" "mix" "LMixedWords$Mix;") (by decide +kernel)) (fun _ h9 => h9) rfl dX6_takeOff_51 ?_
        refine va_get (D := (dC, dI)) (ci := 3) (v := .int (I 120)) (C := RX3) (T := TX3) (N := 6) hx hb hts hinX3 hown hK hP 4 rfl rfl 0 (by decide) (hts (.fieldLink RX6 52 "MixedWords$Mix" "height" "I") (by decide +kernel)) (fun _ h9 => h9) rfl dX6_takeOff_54 ?_
        refine xt_i (y := nI R) (hR) ?_
        refine lv_iload_n hx hb dX6_takeOff_57 rfl (lv_at hl 1 rfl) ?_
        refine lv_iload_n hx hb dX6_takeOff_58 rfl (lv_at hl 1 rfl) ?_
        refine xj_i (wc := (wGrid (fun k => h (k + 129)) cs I L A Q (fun _ => G 0) J)) (wr := [(h 107, .inr (6, [.ref (h 101), .ref (h 190), .ref (h 191), .ref (h 192)])), (h 190, .inl (cs 0, 5, .inl (A 190))), (h 191, .inl (cs 0, 4, .inl (A 191))), (h 192, .inl (cs 0, 4, .inl (A 192))), (h 101, .inr (3, [.int (I 120), .int (I 121), .int (I 122), .int (I 123), .ref (h 130), .ref (h 136)])), (h 136, .inl (cs 0, 5, .inl (A 136)))]) hP hD hS hA [5, 6, 7, 8, 9, 10] [0, 1, 2, 3, 4, 11] rfl rfl (by decide +kernel) (by decide +kernel) (va_runSN (As := [.ref (h 130), .int (nI R), .int (nI cl), .int (nI cl)]) (rest := [.int (nI 1)]) ⟨hx, hb, hml, hown, hts⟩ (k_X9_product l dC dI (fun k => h (k + 129)) cs H.size I L A Q (fun _ => G 0) J R cl cl (by first | assumption | omega) (by first | assumption | omega) (by first | assumption | omega)) ⟨va_cnB (host := "MixedWords") 4 hts gX6_takeOff_X9_product_n55 rfl rfl rfl hN.2.2.2.2.2.2.2.1 (hts (.initialized RX9) (by decide +kernel)) (by decide +kernel) ⟨Nat.le_of_ble_eq_true rfl, Nat.le_of_ble_eq_true rfl⟩, hts (.static yX9_product) (by decide +kernel), trivial⟩ (xpS (wc := (wGrid (fun k => h (k + 129)) cs I L A Q (fun _ => G 0) J)) hP hD hK hN [5, 6, 7, 8, 9, 10] rfl (by decide) _) rfl rfl hl.1 rfl (lv_room (Nat.le_of_ble_eq_true rfl)) dX6_takeOff_59 ⟨Nat.zero_le _, Nat.zero_le _⟩) (fun r_3 u_2 H locs hw hP hD hS => ?_)
        obtain ⟨hf_4, rfl⟩ := hw
        have hP : va_P (dC, dI) vwCl (wTaker h cs I L A Q G J) H := xP_sub hP [0, 1, 2, 3, 4, 6, 7, 8, 9, 10, 11, 5] rfl
        have hD : va_D A0 (wTaker h cs I L A Q G J) := hD.sub [0, 1, 2, 3, 4, 6, 7, 8, 9, 10, 11, 5] (by decide +kernel) rfl
        obtain rfl := hf_4
        refine va_mmax hx hb (hml.trans hl.1.symm) hown (hts (.methodLink RX6 59 Lib.Math.max.name) (by decide +kernel)) (hts (.static Lib.Math.max.name) (by decide +kernel)) (hts (.initialized "java/lang/Math") (by decide +kernel)) (hts (.code Lib.Math.max.name Lib.Math.max.code 2 (some .int)) (by decide +kernel)) (Nat.le_of_ble_eq_true rfl) (Nat.le_of_ble_eq_true rfl) (Nat.zero_le _) (Nat.zero_le _) dX6_takeOff_62 ?_
        refine lv_istore_n (lv' := [(3, .int (if nI 1 < prodF (G 0) cl cl R then prodF (G 0) cl cl R else nI 1)), (0, .ref (h 107)), (1, .int (nI cl)), (2, .int (abC (G 0) (A 190) cl R))]) hx hb dX6_takeOff_65 rfl hl (by decide) rfl (fun ls hl => ?_)
        refine lv_aload_n hx hb dX6_takeOff_66 rfl (lv_at hl 1 rfl) ?_
        refine va_get (D := (dC, dI)) (ci := 6) (v := .ref (h 192)) (C := RX6) (T := TX6) (N := 4) hx hb hts hinX6 hown hK hP 0 rfl rfl 3 (by decide) (hts (.fieldLink RX6 18 "MixedWords$Taker" "indexes" "[I") (by decide +kernel)) (fun _ h9 => h9) rfl dX6_takeOff_67 ?_
        refine lv_iload_n hx hb dX6_takeOff_70 rfl (lv_at hl 2 rfl) ?_
        refine lv_iload_n hx hb dX6_takeOff_71 rfl (lv_at hl 3 rfl) ?_
        refine lv_i2l (v := (abC (G 0) (A 190) cl R).toInt64) hx hb dX6_takeOff_72 rfl ?_
        refine lv_iload_n hx hb dX6_takeOff_73 rfl (lv_at hl 0 rfl) ?_
        refine lv_i2l (v := (if nI 1 < prodF (G 0) cl cl R then prodF (G 0) cl cl R else nI 1).toInt64) hx hb dX6_takeOff_74 rfl ?_
        refine lv_aload_n hx hb dX6_takeOff_75 rfl (lv_at hl 1 rfl) ?_
        refine va_get (D := (dC, dI)) (ci := 6) (v := .ref (h 101)) (C := RX6) (T := TX6) (N := 4) hx hb hts hinX6 hown hK hP 0 rfl rfl 0 (by decide) (hts (.fieldLink RX6 21 "MixedWords$Taker" "mix" "LMixedWords$Mix;") (by decide +kernel)) (fun _ h9 => h9) rfl dX6_takeOff_76 ?_
        refine va_get (D := (dC, dI)) (ci := 3) (v := .int (I 122)) (C := RX3) (T := TX3) (N := 6) hx hb hts hinX3 hown hK hP 4 rfl rfl 2 (by decide) (hts (.fieldLink RX6 65 "MixedWords$Mix" "letterCount" "I") (by decide +kernel)) (fun _ h9 => h9) rfl dX6_takeOff_79 ?_
        refine xt_i (y := nI a) (ha) ?_
        refine xj_i (wc := ([] : va_W)) (wr := (wTaker h cs I L A Q G J)) hP hD hS hA [] [0, 1, 2, 3, 4, 5, 6, 7, 8, 9, 10, 11] rfl rfl (by decide +kernel) (by decide +kernel) (va_runSN (As := [.long ((abC (G 0) (A 190) cl R).toInt64), .long ((if nI 1 < prodF (G 0) cl cl R then prodF (G 0) cl cl R else nI 1).toInt64), .int (nI a)]) (rest := [.int (nI cl), .ref (h 192)]) ⟨hx, hb, hml, hown, hts⟩ (k_X9_nearestLetter l dC dI h cs H.size I L A Q G J ((abC (G 0) (A 190) cl R).toInt64) ((if nI 1 < prodF (G 0) cl cl R then prodF (G 0) cl cl R else nI 1).toInt64) (nI a)) ⟨va_cnB (host := "MixedWords") 3 hts gX6_takeOff_X9_nearestLetter_n68 rfl rfl rfl hN.2.2.2.2.2.2.2.2 (hts (.initialized RX9) (by decide +kernel)) (by decide +kernel) ⟨Nat.le_of_ble_eq_true rfl, Nat.le_of_ble_eq_true rfl⟩, hts (.static yX9_nearestLetter) (by decide +kernel), trivial⟩ (xpS (wc := ([] : va_W)) hP hD hK hN [] rfl (by decide) _) rfl rfl hl.1 rfl (lv_room (Nat.le_of_ble_eq_true rfl)) dX6_takeOff_82 ⟨Nat.zero_le _, Nat.zero_le _⟩) (fun r_6 u_5 H locs hw hP hD hS => ?_)
        obtain ⟨hf_7, rfl⟩ := hw
        have hP : va_P (dC, dI) vwCl (wTaker h cs I L A Q G J) H := hP
        have hD : va_D A0 (wTaker h cs I L A Q G J) := hD
        obtain rfl := hf_7
        refine xa_iast hx hb hK hP hD hS 3 0 rfl rfl (by omega) (by decide) dX6_takeOff_85 (fun H locs hP hD hS => ?_)
        have hP : va_P (dC, dI) vwCl (wTaker h cs I L (va_up A 192 (upd (A 192) cl (nlF ((abC (G 0) (A 190) cl R).toInt64) ((if nI 1 < prodF (G 0) cl cl R then prodF (G 0) cl cl R else nI 1).toInt64) (nI a)))) Q G J) H := hP
        have hD : va_D A0 (wTaker h cs I L (va_up A 192 (upd (A 192) cl (nlF ((abC (G 0) (A 190) cl R).toInt64) ((if nI 1 < prodF (G 0) cl cl R then prodF (G 0) cl cl R else nI 1).toInt64) (nI a)))) Q G J) := hD
        refine lv_iconst (v := nI 2) hx hb dX6_takeOff_86 (by decide) ?_
        refine lv_aload_n hx hb dX6_takeOff_87 rfl (lv_at hl 1 rfl) ?_
        refine va_get (D := (dC, dI)) (ci := 6) (v := .ref (h 192)) (C := RX6) (T := TX6) (N := 4) hx hb hts hinX6 hown hK hP 0 rfl rfl 3 (by decide) (hts (.fieldLink RX6 18 "MixedWords$Taker" "indexes" "[I") (by decide +kernel)) (fun _ h9 => h9) rfl dX6_takeOff_88 ?_
        refine lv_iload_n hx hb dX6_takeOff_91 rfl (lv_at hl 2 rfl) ?_
        refine xa_iald hx hb hK hP 3 0 rfl rfl (by omega) (by decide) dX6_takeOff_92 ?_
        refine xt_i (y := ixC (G 0) (A 190) a R cl) (pk_us) ?_
        refine lv_imul hx hb dX6_takeOff_93 ?_
        refine lv_aload_n hx hb dX6_takeOff_94 rfl (lv_at hl 1 rfl) ?_
        refine va_get (D := (dC, dI)) (ci := 6) (v := .ref (h 101)) (C := RX6) (T := TX6) (N := 4) hx hb hts hinX6 hown hK hP 0 rfl rfl 0 (by decide) (hts (.fieldLink RX6 21 "MixedWords$Taker" "mix" "LMixedWords$Mix;") (by decide +kernel)) (fun _ h9 => h9) rfl dX6_takeOff_95 ?_
        refine va_get (D := (dC, dI)) (ci := 3) (v := .int (I 122)) (C := RX3) (T := TX3) (N := 6) hx hb hts hinX3 hown hK hP 4 rfl rfl 2 (by decide) (hts (.fieldLink RX6 65 "MixedWords$Mix" "letterCount" "I") (by decide +kernel)) (fun _ h9 => h9) rfl dX6_takeOff_98 ?_
        refine xt_i (y := nI a) (ha) ?_
        refine lv_isub hx hb dX6_takeOff_101 ?_
        refine lv_iconst (v := nI 1) hx hb dX6_takeOff_102 (by decide) ?_
        refine lv_iadd hx hb dX6_takeOff_103 ?_
        refine lv_istore (lv' := [(4, .int ((((nI 2) * (ixC (G 0) (A 190) a R cl)) - (nI a)) + (nI 1))), (3, .int (if nI 1 < prodF (G 0) cl cl R then prodF (G 0) cl cl R else nI 1)), (0, .ref (h 107)), (1, .int (nI cl)), (2, .int (abC (G 0) (A 190) cl R))]) hx hb dX6_takeOff_104 hl (by decide) rfl (fun ls hl => ?_)
        refine lv_iconst (v := nI 0) hx hb dX6_takeOff_106 (by decide) ?_
        refine lv_istore (lv' := [(5, .int (nI 0)), (4, .int ((((nI 2) * (ixC (G 0) (A 190) a R cl)) - (nI a)) + (nI 1))), (3, .int (if nI 1 < prodF (G 0) cl cl R then prodF (G 0) cl cl R else nI 1)), (0, .ref (h 107)), (1, .int (nI cl)), (2, .int (abC (G 0) (A 190) cl R))]) hx hb dX6_takeOff_107 hl (by decide) rfl (fun ls hl => ?_)
        have cut_109 : ∀ (nf : Nat) (n : Nat) (f190 : Nat → Int32), (R - n) < nf → (n ≤ R) → (∀ t : Nat, t < n → f190 t = A 190 t - ltC a (ixC (G 0) (A 190) a R cl) * G 0 t cl) → (∀ t : Nat, n ≤ t → f190 t = A 190 t) → ∀ (H : Heap) (locs : List Loc) (ls : Array Slot), va_P (dC, dI) vwCl (wTaker h cs I L (va_up (va_up A 190 f190) 192 (upd (A 192) cl (ixC (G 0) (A 190) a R cl))) Q G J) H → va_D A0 (wTaker h cs I L (va_up (va_up A 190 f190) 192 (upd (A 192) cl (ixC (G 0) (A 190) a R cl))) Q G J) → va_S A0 s.heap H locs → lv_has ls 6 [(0, .ref (h 107)), (1, .int (nI cl)), (2, .int (abC (G 0) (A 190) cl R)), (3, .int (if nI 1 < prodF (G 0) cl cl R then prodF (G 0) cl cl R else nI 1)), (4, .int (ltC a (ixC (G 0) (A 190) a R cl))), (5, .int (nI n))] → W p l e (headSpec wsX6_takeOff ({ frames := 3, cells := 0, slots := 0, locals := 106 })).room s m ([.ref (h 107), .int (nI cl)] : List Value).toArray below meth c H locs 0 0 (MQ below (va_Qv (fun (u : CS) => ∃ a190 : Nat → Int32, ∃ a192 : Nat → Int32, (a192 = upd (A 192) cl (ixC (G 0) (A 190) a R cl) ∧ (∀ t : Nat, t < R → a190 t = A 190 t - ltC a (ixC (G 0) (A 190) a R cl) * G 0 t cl)) ∧ u = (I, L, (va_up (va_up A 190 a190) 192 a192), Q, G, J)) (xB (dC, dI) (tysA cs) A0 (fun u : CS => wTaker h cs u.1 u.2.1 u.2.2.1 u.2.2.2.1 u.2.2.2.2.1 u.2.2.2.2.2)) A0) ([.ref (h 107), .int (nI cl)] : List Value).toArray s 0 0 A0) (F0 m 109 ls []) := by
          intro nf
          induction nf with
          | zero => intro n f190 hm; exact absurd hm (Nat.not_lt_zero _)
          | succ nf ih_109 =>
            intro n f190 hm_109 hn9 h109 h109b H locs ls hP hD hS hl
            refine lv_iload hx hb dX6_takeOff_109 (lv_at hl 5 rfl) ?_
            refine lv_aload_n hx hb dX6_takeOff_111 rfl (lv_at hl 0 rfl) ?_
            refine va_get (D := (dC, dI)) (ci := 6) (v := .ref (h 101)) (C := RX6) (T := TX6) (N := 4) hx hb hts hinX6 hown hK hP 0 rfl rfl 0 (by decide) (hts (.fieldLink RX6 21 "MixedWords$Taker" "mix" "LMixedWords$Mix;") (by decide +kernel)) (fun _ h9 => h9) rfl dX6_takeOff_112 ?_
            refine va_get (D := (dC, dI)) (ci := 3) (v := .int (I 120)) (C := RX3) (T := TX3) (N := 6) hx hb hts hinX3 hown hK hP 4 rfl rfl 0 (by decide) (hts (.fieldLink RX6 52 "MixedWords$Mix" "height" "I") (by decide +kernel)) (fun _ h9 => h9) rfl dX6_takeOff_115 ?_
            refine xt_i (y := nI R) (hR) ?_
            refine xn_ge (tgt := 152) hx hb dX6_takeOff_118 (by decide) (by omega) (by omega) (fun c_118_7 => ?_) (fun c_118_7 => ?_)
            · skip
              exact xr_v hx hb hr hlocks hK hS dX6_takeOff_152 (I, L, (va_up (va_up A 190 f190) 192 (upd (A 192) cl (ixC (G 0) (A 190) a R cl))), Q, G, J) ⟨f190, (upd (A 192) cl (ixC (G 0) (A 190) a R cl)), ⟨rfl, fun t ht => h109 t (by omega)⟩, rfl⟩ hP hD
            · skip
              refine lv_aload_n hx hb dX6_takeOff_121 rfl (lv_at hl 0 rfl) ?_
              refine va_get (D := (dC, dI)) (ci := 6) (v := .ref (h 190)) (C := RX6) (T := TX6) (N := 4) hx hb hts hinX6 hown hK hP 0 rfl rfl 1 (by decide) (hts (.fieldLink RX6 9 "MixedWords$Taker" "left" "[I") (by decide +kernel)) (fun _ h9 => h9) rfl dX6_takeOff_122 ?_
              refine lv_iload hx hb dX6_takeOff_125 (lv_at hl 5 rfl) ?_
              refine lv_dup2_11 hx hb dX6_takeOff_127 rfl rfl ?_
              refine xa_iald hx hb hK hP 1 0 rfl rfl (by omega) (by decide) dX6_takeOff_128 ?_
              refine lv_iload hx hb dX6_takeOff_129 (lv_at hl 4 rfl) ?_
              refine lv_aload_n hx hb dX6_takeOff_131 rfl (lv_at hl 0 rfl) ?_
              refine va_get (D := (dC, dI)) (ci := 6) (v := .ref (h 101)) (C := RX6) (T := TX6) (N := 4) hx hb hts hinX6 hown hK hP 0 rfl rfl 0 (by decide) (hts (.fieldLink RX6 21 "MixedWords$Taker" "mix" "LMixedWords$Mix;") (by decide +kernel)) (fun _ h9 => h9) rfl dX6_takeOff_132 ?_
              refine va_get (D := (dC, dI)) (ci := 3) (v := .ref (h 130)) (C := RX3) (T := TX3) (N := 6) hx hb hts hinX3 hown hK hP 4 rfl rfl 4 (by decide) (hts (.fieldLink RX6 48 "MixedWords$Mix" "cells" "[[I") (by decide +kernel)) (fun _ h9 => h9) rfl dX6_takeOff_135 ?_
              refine lv_iload hx hb dX6_takeOff_138 (lv_at hl 5 rfl) ?_
              refine xa_aald (b := h (n + 131)) hx hb hK hP 5 3 rfl rfl rfl (by omega) (by decide) (if_pos (by omega)) dX6_takeOff_140 ?_
              refine lv_iload_n hx hb dX6_takeOff_141 rfl (lv_at hl 1 rfl) ?_
              refine xa_iald hx hb hK hP (6 + n) 0 (wTaker_atG0 (by omega)) rfl (by omega) (by decide) dX6_takeOff_142 ?_
              refine lv_imul hx hb dX6_takeOff_143 ?_
              refine lv_isub hx hb dX6_takeOff_144 ?_
              refine xa_iast hx hb hK hP hD hS 1 0 rfl rfl (by omega) (by decide) dX6_takeOff_145 (fun H locs hP hD hS => ?_)
              have hP : va_P (dC, dI) vwCl (wTaker h cs I L (va_up (va_up A 192 (upd (A 192) cl (ixC (G 0) (A 190) a R cl))) 190 (upd f190 n ((f190 n) - ((ltC a (ixC (G 0) (A 190) a R cl)) * (((G 0) n) cl))))) Q G J) H := hP
              have hD : va_D A0 (wTaker h cs I L (va_up (va_up A 192 (upd (A 192) cl (ixC (G 0) (A 190) a R cl))) 190 (upd f190 n ((f190 n) - ((ltC a (ixC (G 0) (A 190) a R cl)) * (((G 0) n) cl))))) Q G J) := hD
              refine lv_iinc (v := nI (n + 1)) (lv' := [(5, .int (nI (n + 1))), (0, .ref (h 107)), (1, .int (nI cl)), (2, .int (abC (G 0) (A 190) cl R)), (3, .int (if nI 1 < prodF (G 0) cl cl R then prodF (G 0) cl cl R else nI 1)), (4, .int (ltC a (ixC (G 0) (A 190) a R cl)))]) hx hb dX6_takeOff_146 hl (k := 5) rfl (nI_1 _) (by decide) rfl (fun ls hl => ?_)
              refine lv_goto (tgt := 109) hx hb dX6_takeOff_149 (by decide) ?_
              exact ih_109 (n + 1) (upd f190 n ((f190 n) - ((ltC a (ixC (G 0) (A 190) a R cl)) * (((G 0) n) cl)))) (by omega) (by first | assumption | omega) (by first | exact (fun t ht => absurd ht (Nat.not_lt_zero t)) | exact (to_s h109 h109b).1) (by first | exact (fun _ _ => rfl) | exact (to_s h109 h109b).2) _ _ _ hP hD hS (lv_sub hl [1, 2, 3, 4, 5, 0] rfl)
        exact cut_109 _ 0 (A 190) (Nat.lt_succ_self _) (by first | assumption | omega) (by first | exact (fun t ht => absurd ht (Nat.not_lt_zero t)) | exact (to_s h109 h109b).1) (by first | exact (fun _ _ => rfl) | exact (to_s h109 h109b).2) _ _ _ hP hD hS (lv_sub hl [3, 4, 5, 2, 1, 0] rfl)
      · skip
        refine lv_iload_n hx hb dX6_takeOff_15 rfl (lv_at hl 2 rfl) ?_
        refine lv_aload_n hx hb dX6_takeOff_16 rfl (lv_at hl 0 rfl) ?_
        refine va_get (D := (dC, dI)) (ci := 6) (v := .ref (h 101)) (C := RX6) (T := TX6) (N := 4) hx hb hts hinX6 hown hK hP 0 rfl rfl 0 (by decide) (hts (.fieldLink RX6 21 "MixedWords$Taker" "mix" "LMixedWords$Mix;") (by decide +kernel)) (fun _ h9 => h9) rfl dX6_takeOff_17 ?_
        refine va_get (D := (dC, dI)) (ci := 3) (v := .ref (h 130)) (C := RX3) (T := TX3) (N := 6) hx hb hts hinX3 hown hK hP 4 rfl rfl 4 (by decide) (hts (.fieldLink RX6 48 "MixedWords$Mix" "cells" "[[I") (by decide +kernel)) (fun _ h9 => h9) rfl dX6_takeOff_20 ?_
        refine lv_iload_n hx hb dX6_takeOff_23 rfl (lv_at hl 3 rfl) ?_
        refine xa_aald (b := h (n + 131)) hx hb hK hP 5 3 rfl rfl rfl (by omega) (by decide) (if_pos (by omega)) dX6_takeOff_24 ?_
        refine lv_iload_n hx hb dX6_takeOff_25 rfl (lv_at hl 1 rfl) ?_
        refine xa_iald hx hb hK hP (6 + n) 0 (wTaker_atG0 (by omega)) rfl (by omega) (by decide) dX6_takeOff_26 ?_
        refine lv_aload_n hx hb dX6_takeOff_27 rfl (lv_at hl 0 rfl) ?_
        refine va_get (D := (dC, dI)) (ci := 6) (v := .ref (h 190)) (C := RX6) (T := TX6) (N := 4) hx hb hts hinX6 hown hK hP 0 rfl rfl 1 (by decide) (hts (.fieldLink RX6 9 "MixedWords$Taker" "left" "[I") (by decide +kernel)) (fun _ h9 => h9) rfl dX6_takeOff_28 ?_
        refine lv_iload_n hx hb dX6_takeOff_31 rfl (lv_at hl 3 rfl) ?_
        refine xa_iald hx hb hK hP 1 0 rfl rfl (by omega) (by decide) dX6_takeOff_32 ?_
        refine lv_imul hx hb dX6_takeOff_33 ?_
        refine lv_iadd hx hb dX6_takeOff_34 ?_
        refine lv_istore_n (lv' := [(2, .int ((abC (G 0) (A 190) cl n) + ((((G 0) n) cl) * (A 190 n)))), (0, .ref (h 107)), (1, .int (nI cl)), (3, .int (nI n))]) hx hb dX6_takeOff_35 rfl hl (by decide) rfl (fun ls hl => ?_)
        refine lv_iinc (v := nI (n + 1)) (lv' := [(3, .int (nI (n + 1))), (2, .int ((abC (G 0) (A 190) cl n) + ((((G 0) n) cl) * (A 190 n)))), (0, .ref (h 107)), (1, .int (nI cl))]) hx hb dX6_takeOff_36 hl (k := 3) rfl (nI_1 _) (by decide) rfl (fun ls hl => ?_)
        refine lv_goto (tgt := 4) hx hb dX6_takeOff_39 (by decide) ?_
        exact ih_4 (n + 1) (by omega) (by first | assumption | omega) _ _ _ hP hD hS (lv_sub hl [2, 3, 1, 0] rfl)
  exact cut_4 _ 0 (Nat.lt_succ_self _) (by first | assumption | omega) _ _ _ hP hD hS (lv_sub hl [2, 3, 1, 0] rfl)
set_option maxRecDepth 20000 in
theorem ggX6_takeAll_X6_greatest : GoodIn wsX6_takeAll wsX6_greatest := goodIn_r _ [14, 1, 8, 15, 16, 17, 18, 19, 49, 50, 51, 52, 53, 54, 55, 56, 57, 58] rfl (by decide +kernel)
set_option maxRecDepth 20000 in
theorem gX6_takeAll_X6_greatest : GoodIn wsX6_takeAll (wsV RX6 40 RX6 yX6_greatest wsX6_greatest) := goodIn_app (goodIn_of _ (by decide +kernel)) ggX6_takeAll_X6_greatest
set_option maxRecDepth 20000 in
theorem ggX6_takeAll_X6_takeOff : GoodIn wsX6_takeAll wsX6_takeOff := goodIn_r _ [23, 1, 16, 15, 3, 24, 25, 26, 27, 28, 29, 17, 18, 19, 30, 31, 32, 33, 34, 35, 36, 37, 38, 39, 40, 41, 42, 43, 44, 45, 46, 47, 48, 49, 50, 51, 52, 53, 54, 55, 56, 57, 58] rfl (by decide +kernel)
set_option maxRecDepth 20000 in
theorem gX6_takeAll_X6_takeOff : GoodIn wsX6_takeAll (wsV RX6 44 RX6 yX6_takeOff wsX6_takeOff) := goodIn_app (goodIn_of _ (by decide +kernel)) ggX6_takeAll_X6_takeOff
theorem bdX6_takeAll_0 : (decode cX6_takeAll 0 = .ok (.aload_n 0, 1)) ∧ (decode cX6_takeAll 1 = .ok (.getfield 21, 3)) ∧ (decode cX6_takeAll 4 = .ok (.getfield 25, 3)) ∧ (decode cX6_takeAll 7 = .ok (.iconst 0, 1)) ∧ (decode cX6_takeAll 8 = .ok (.aload_n 0, 1)) ∧ (decode cX6_takeAll 9 = .ok (.getfield 9, 3)) ∧ (decode cX6_takeAll 12 = .ok (.iconst 0, 1)) ∧ (decode cX6_takeAll 13 = .ok (.iconst 5, 1)) ∧ (decode cX6_takeAll 14 = .ok (.invokestatic 30, 3)) ∧ (decode cX6_takeAll 17 = .ok (.iconst 0, 1)) ∧ (decode cX6_takeAll 18 = .ok (.istore_n 1, 1)) ∧ (decode cX6_takeAll 19 = .ok (.iconst 0, 1)) ∧ (decode cX6_takeAll 20 = .ok (.istore_n 2, 1)) ∧ (decode cX6_takeAll 21 = .ok (.iload_n 2, 1)) ∧ (decode cX6_takeAll 22 = .ok (.aload_n 0, 1)) ∧ (decode cX6_takeAll 23 = .ok (.getfield 21, 3)) := by decide +kernel
theorem dX6_takeAll_0 : decode cX6_takeAll 0 = .ok (.aload_n 0, 1) := bdX6_takeAll_0.1
theorem dX6_takeAll_1 : decode cX6_takeAll 1 = .ok (.getfield 21, 3) := bdX6_takeAll_0.2.1
theorem dX6_takeAll_4 : decode cX6_takeAll 4 = .ok (.getfield 25, 3) := bdX6_takeAll_0.2.2.1
theorem dX6_takeAll_7 : decode cX6_takeAll 7 = .ok (.iconst 0, 1) := bdX6_takeAll_0.2.2.2.1
theorem dX6_takeAll_8 : decode cX6_takeAll 8 = .ok (.aload_n 0, 1) := bdX6_takeAll_0.2.2.2.2.1
theorem dX6_takeAll_9 : decode cX6_takeAll 9 = .ok (.getfield 9, 3) := bdX6_takeAll_0.2.2.2.2.2.1
theorem dX6_takeAll_12 : decode cX6_takeAll 12 = .ok (.iconst 0, 1) := bdX6_takeAll_0.2.2.2.2.2.2.1
theorem dX6_takeAll_13 : decode cX6_takeAll 13 = .ok (.iconst 5, 1) := bdX6_takeAll_0.2.2.2.2.2.2.2.1
theorem dX6_takeAll_14 : decode cX6_takeAll 14 = .ok (.invokestatic 30, 3) := bdX6_takeAll_0.2.2.2.2.2.2.2.2.1
theorem dX6_takeAll_17 : decode cX6_takeAll 17 = .ok (.iconst 0, 1) := bdX6_takeAll_0.2.2.2.2.2.2.2.2.2.1
theorem dX6_takeAll_18 : decode cX6_takeAll 18 = .ok (.istore_n 1, 1) := bdX6_takeAll_0.2.2.2.2.2.2.2.2.2.2.1
theorem dX6_takeAll_19 : decode cX6_takeAll 19 = .ok (.iconst 0, 1) := bdX6_takeAll_0.2.2.2.2.2.2.2.2.2.2.2.1
theorem dX6_takeAll_20 : decode cX6_takeAll 20 = .ok (.istore_n 2, 1) := bdX6_takeAll_0.2.2.2.2.2.2.2.2.2.2.2.2.1
theorem dX6_takeAll_21 : decode cX6_takeAll 21 = .ok (.iload_n 2, 1) := bdX6_takeAll_0.2.2.2.2.2.2.2.2.2.2.2.2.2.1
theorem dX6_takeAll_22 : decode cX6_takeAll 22 = .ok (.aload_n 0, 1) := bdX6_takeAll_0.2.2.2.2.2.2.2.2.2.2.2.2.2.2.1
theorem dX6_takeAll_23 : decode cX6_takeAll 23 = .ok (.getfield 21, 3) := bdX6_takeAll_0.2.2.2.2.2.2.2.2.2.2.2.2.2.2.2
theorem bdX6_takeAll_26 : (decode cX6_takeAll 26 = .ok (.getfield 36, 3)) ∧ (decode cX6_takeAll 29 = .ok (.if_icmp .ge 33, 3)) ∧ (decode cX6_takeAll 32 = .ok (.aload_n 0, 1)) ∧ (decode cX6_takeAll 33 = .ok (.iload_n 1, 1)) ∧ (decode cX6_takeAll 34 = .ok (.invokevirtual 40, 3)) ∧ (decode cX6_takeAll 37 = .ok (.istore_n 3, 1)) ∧ (decode cX6_takeAll 38 = .ok (.aload_n 0, 1)) ∧ (decode cX6_takeAll 39 = .ok (.getfield 15, 3)) ∧ (decode cX6_takeAll 42 = .ok (.iload_n 2, 1)) ∧ (decode cX6_takeAll 43 = .ok (.iload_n 3, 1)) ∧ (decode cX6_takeAll 44 = .ok (.iastore, 1)) ∧ (decode cX6_takeAll 45 = .ok (.iload_n 1, 1)) ∧ (decode cX6_takeAll 46 = .ok (.iconst 1, 1)) ∧ (decode cX6_takeAll 47 = .ok (.iload_n 3, 1)) ∧ (decode cX6_takeAll 48 = .ok (.ishl, 1)) ∧ (decode cX6_takeAll 49 = .ok (.ior, 1)) := by decide +kernel
theorem dX6_takeAll_26 : decode cX6_takeAll 26 = .ok (.getfield 36, 3) := bdX6_takeAll_26.1
theorem dX6_takeAll_29 : decode cX6_takeAll 29 = .ok (.if_icmp .ge 33, 3) := bdX6_takeAll_26.2.1
theorem dX6_takeAll_32 : decode cX6_takeAll 32 = .ok (.aload_n 0, 1) := bdX6_takeAll_26.2.2.1
theorem dX6_takeAll_33 : decode cX6_takeAll 33 = .ok (.iload_n 1, 1) := bdX6_takeAll_26.2.2.2.1
theorem dX6_takeAll_34 : decode cX6_takeAll 34 = .ok (.invokevirtual 40, 3) := bdX6_takeAll_26.2.2.2.2.1
theorem dX6_takeAll_37 : decode cX6_takeAll 37 = .ok (.istore_n 3, 1) := bdX6_takeAll_26.2.2.2.2.2.1
theorem dX6_takeAll_38 : decode cX6_takeAll 38 = .ok (.aload_n 0, 1) := bdX6_takeAll_26.2.2.2.2.2.2.1
theorem dX6_takeAll_39 : decode cX6_takeAll 39 = .ok (.getfield 15, 3) := bdX6_takeAll_26.2.2.2.2.2.2.2.1
theorem dX6_takeAll_42 : decode cX6_takeAll 42 = .ok (.iload_n 2, 1) := bdX6_takeAll_26.2.2.2.2.2.2.2.2.1
theorem dX6_takeAll_43 : decode cX6_takeAll 43 = .ok (.iload_n 3, 1) := bdX6_takeAll_26.2.2.2.2.2.2.2.2.2.1
theorem dX6_takeAll_44 : decode cX6_takeAll 44 = .ok (.iastore, 1) := bdX6_takeAll_26.2.2.2.2.2.2.2.2.2.2.1
theorem dX6_takeAll_45 : decode cX6_takeAll 45 = .ok (.iload_n 1, 1) := bdX6_takeAll_26.2.2.2.2.2.2.2.2.2.2.2.1
theorem dX6_takeAll_46 : decode cX6_takeAll 46 = .ok (.iconst 1, 1) := bdX6_takeAll_26.2.2.2.2.2.2.2.2.2.2.2.2.1
theorem dX6_takeAll_47 : decode cX6_takeAll 47 = .ok (.iload_n 3, 1) := bdX6_takeAll_26.2.2.2.2.2.2.2.2.2.2.2.2.2.1
theorem dX6_takeAll_48 : decode cX6_takeAll 48 = .ok (.ishl, 1) := bdX6_takeAll_26.2.2.2.2.2.2.2.2.2.2.2.2.2.2.1
theorem dX6_takeAll_49 : decode cX6_takeAll 49 = .ok (.ior, 1) := bdX6_takeAll_26.2.2.2.2.2.2.2.2.2.2.2.2.2.2.2
theorem bdX6_takeAll_50 : (decode cX6_takeAll 50 = .ok (.istore_n 1, 1)) ∧ (decode cX6_takeAll 51 = .ok (.aload_n 0, 1)) ∧ (decode cX6_takeAll 52 = .ok (.iload_n 3, 1)) ∧ (decode cX6_takeAll 53 = .ok (.invokevirtual 44, 3)) ∧ (decode cX6_takeAll 56 = .ok (.iinc 2 1, 3)) ∧ (decode cX6_takeAll 59 = .ok (.goto (-38), 3)) ∧ (decode cX6_takeAll 62 = .ok (.return_, 1)) := by decide +kernel
theorem dX6_takeAll_50 : decode cX6_takeAll 50 = .ok (.istore_n 1, 1) := bdX6_takeAll_50.1
theorem dX6_takeAll_51 : decode cX6_takeAll 51 = .ok (.aload_n 0, 1) := bdX6_takeAll_50.2.1
theorem dX6_takeAll_52 : decode cX6_takeAll 52 = .ok (.iload_n 3, 1) := bdX6_takeAll_50.2.2.1
theorem dX6_takeAll_53 : decode cX6_takeAll 53 = .ok (.invokevirtual 44, 3) := bdX6_takeAll_50.2.2.2.1
theorem dX6_takeAll_56 : decode cX6_takeAll 56 = .ok (.iinc 2 1, 3) := bdX6_takeAll_50.2.2.2.2.1
theorem dX6_takeAll_59 : decode cX6_takeAll 59 = .ok (.goto (-38), 3) := bdX6_takeAll_50.2.2.2.2.2.1
theorem dX6_takeAll_62 : decode cX6_takeAll 62 = .ok (.return_, 1) := bdX6_takeAll_50.2.2.2.2.2.2
set_option maxHeartbeats 4000000 in
set_option maxRecDepth 100000 in
theorem k_X6_takeAll (l : Launch) (dC : Nat → ClassId) (dI : Nat → Nat → Nat) (h : Nat → Nat) (cs : Nat → ClassId) (sz : Nat) (I : Nat → Int32) (L : Nat → Int64) (A : Nat → Nat → Int32) (Q : Nat → Nat → Int64) (G : Nat → Nat → Nat → Int32) (J : Nat → Nat → Nat → Int64) (R M a : Nat) (hR : I 120 = nI R) (hR1 : 1 ≤ R) (hR5 : R ≤ 5) (hM : I 121 = nI M) (hM1 : 1 ≤ M) (hM4 : M ≤ 4) (ha : I 122 = nI a) (ha2 : a = 2 ∨ a = 4) : Met l yX6_takeAll wsX6_takeAll ({ frames := 4, cells := 0, slots := 0, locals := 131 }) (va_Pc [.ref (h 107)] (xPre (dC, dI) (wTaker h cs I L A Q G J) (tysA cs) sz)) (va_Qv (fun (u : CS) => ∃ a190 : Nat → Int32, ∃ a191 : Nat → Int32, ∃ a192 : Nat → Int32, (tkP (G 0) a R M (A 136) M a190 a192 ∧ ∀ k : Nat, k < M → a191 k = nI (gtB (dC9 (G 0) R) (tkC (dC9 (G 0) R) M k) M).1) ∧ u = (I, L, (va_up (va_up (va_up A 190 a190) 191 a191) 192 a192), Q, G, J)) (xB (dC, dI) (tysA cs) (va_A (wTaker h cs I L A Q G J) sz) (fun u : CS => wTaker h cs u.1 u.2.1 u.2.2.1 u.2.2.2.1 u.2.2.2.2.1 u.2.2.2.2.2)) (va_A (wTaker h cs I L A Q G J) sz)) 0 0 (va_A (wTaker h cs I L A Q G J) sz) := by
  refine Met.ofW (cc := cX6_takeAll) (maxL := 4) (ret := none) (by decide) rfl ?_
  intro p e s m args below meth c s₁ B hml hv
  obtain ⟨rfl, hsz, hP, hK, hD0, hN⟩ := hv
  have hx := B.exec
  have hb := B.bytes
  have hr := B.returns
  have hts := atoms_spec (ws := wsX6_takeAll) B.pre
  have hown : s.vm.findClass RX6 = some m.cls := findClass_of_methodNamed B.named
  have hlocks := B.notSynchronized
  subst hsz
  have hD := hD0.self (sz := s.heap.size)
  generalize hAe : va_A (wTaker h cs I L A Q G J) s.heap.size = A0 at hD ⊢
  have hA : ∀ q : Nat, s.heap.size ≤ q → A0 q := fun q h => by rw [← hAe]; exact Or.inr h
  have hl := lv_entry ([.ref (h 107)]) (n := 4) (Nat.le_of_ble_eq_true rfl)
  rw [lg_entry_eq]
  generalize (lg_sl ([.ref (h 107)]) ++ List.replicate (4 - (lg_sl ([.ref (h 107)])).length) Slot.unset).toArray = ls at hl ⊢
  have hl : lv_has ls 4 [(0, .ref (h 107))] := hl
  generalize hH : s.heap = H at hP ⊢
  have hS : va_S A0 s.heap H [] := by rw [← hH]; exact va_S.rf
  have hinX6 : ∀ w ∈ wsX60, w ∈ wsX6_takeAll := by decide +kernel
  have hinX3 : ∀ w ∈ wsX30, w ∈ wsX6_takeAll := by decide +kernel
  refine lv_aload_n hx hb dX6_takeAll_0 rfl (lv_at hl 0 rfl) ?_
  refine va_get (D := (dC, dI)) (ci := 6) (v := .ref (h 101)) (C := RX6) (T := TX6) (N := 4) hx hb hts hinX6 hown hK hP 0 rfl rfl 0 (by decide) (hts (.fieldLink RX6 21 "MixedWords$Taker" "mix" "LMixedWords$Mix;") (by decide +kernel)) (fun _ h9 => h9) rfl dX6_takeAll_1 ?_
  refine va_get (D := (dC, dI)) (ci := 3) (v := .ref (h 136)) (C := RX3) (T := TX3) (N := 6) hx hb hts hinX3 hown hK hP 4 rfl rfl 5 (by decide) (hts (.fieldLink RX6 25 "MixedWords$Mix" "heard" "[I") (by decide +kernel)) (fun _ h9 => h9) rfl dX6_takeAll_4 ?_
  refine lv_iconst (v := nI 0) hx hb dX6_takeAll_7 (by decide) ?_
  refine lv_aload_n hx hb dX6_takeAll_8 rfl (lv_at hl 0 rfl) ?_
  refine va_get (D := (dC, dI)) (ci := 6) (v := .ref (h 190)) (C := RX6) (T := TX6) (N := 4) hx hb hts hinX6 hown hK hP 0 rfl rfl 1 (by decide) (hts (.fieldLink RX6 9 "MixedWords$Taker" "left" "[I") (by decide +kernel)) (fun _ h9 => h9) rfl dX6_takeAll_9 ?_
  refine lv_iconst (v := nI 0) hx hb dX6_takeAll_12 (by decide) ?_
  refine lv_iconst (v := nI 5) hx hb dX6_takeAll_13 (by decide) ?_
  refine xa_copy (cA := cs 0) hx hb (hml.trans hl.1.symm) hown (hts (.methodLink RX6 30 arraycopyName) (by decide +kernel)) (hts (.native arraycopyName) (by decide +kernel)) (hts (.static arraycopyName) (by decide +kernel)) (hts (.initialized "java/lang/System") (by decide +kernel)) hK hP hD hS 11 1 rfl rfl (by omega) (by omega) (by decide) (by decide) (Nat.le_of_ble_eq_true rfl) (Nat.le_of_ble_eq_true rfl) dX6_takeAll_14 (fun H locs hP hD hS => ?_)
  have hP : va_P (dC, dI) vwCl (wTaker h cs I L (va_up A 190 (va_cpy (A 136) (A 190) 0 0 5)) Q G J) H := hP
  have hD : va_D A0 (wTaker h cs I L (va_up A 190 (va_cpy (A 136) (A 190) 0 0 5)) Q G J) := hD
  refine lv_iconst (v := nI 0) hx hb dX6_takeAll_17 (by decide) ?_
  refine lv_istore_n (lv' := [(1, .int (nI 0)), (0, .ref (h 107))]) hx hb dX6_takeAll_18 rfl hl (by decide) rfl (fun ls hl => ?_)
  refine lv_iconst (v := nI 0) hx hb dX6_takeAll_19 (by decide) ?_
  refine lv_istore_n (lv' := [(2, .int (nI 0)), (1, .int (nI 0)), (0, .ref (h 107))]) hx hb dX6_takeAll_20 rfl hl (by decide) rfl (fun ls hl => ?_)
  have cut_21 : ∀ (nf : Nat) (n : Nat) (f190 : Nat → Int32) (f191 : Nat → Int32) (f192 : Nat → Int32), (M - n) < nf → (n ≤ M) → (tkP (G 0) a R M (A 136) n f190 f192) → (∀ k : Nat, k < n → f191 k = nI (gtB (dC9 (G 0) R) (tkC (dC9 (G 0) R) M k) M).1) → ∀ (H : Heap) (locs : List Loc) (ls : Array Slot), va_P (dC, dI) vwCl (wTaker h cs I L (va_up (va_up (va_up A 190 f190) 191 f191) 192 f192) Q G J) H → va_D A0 (wTaker h cs I L (va_up (va_up (va_up A 190 f190) 191 f191) 192 f192) Q G J) → va_S A0 s.heap H locs → lv_has ls 4 [(0, .ref (h 107)), (1, .int (tkC (dC9 (G 0) R) M n)), (2, .int (nI n))] → W p l e (headSpec wsX6_takeAll ({ frames := 4, cells := 0, slots := 0, locals := 131 })).room s m ([.ref (h 107)] : List Value).toArray below meth c H locs 0 0 (MQ below (va_Qv (fun (u : CS) => ∃ a190 : Nat → Int32, ∃ a191 : Nat → Int32, ∃ a192 : Nat → Int32, (tkP (G 0) a R M (A 136) M a190 a192 ∧ ∀ k : Nat, k < M → a191 k = nI (gtB (dC9 (G 0) R) (tkC (dC9 (G 0) R) M k) M).1) ∧ u = (I, L, (va_up (va_up (va_up A 190 a190) 191 a191) 192 a192), Q, G, J)) (xB (dC, dI) (tysA cs) A0 (fun u : CS => wTaker h cs u.1 u.2.1 u.2.2.1 u.2.2.2.1 u.2.2.2.2.1 u.2.2.2.2.2)) A0) ([.ref (h 107)] : List Value).toArray s 0 0 A0) (F0 m 21 ls []) := by
    intro nf
    induction nf with
    | zero => intro n f190 f191 f192 hm; exact absurd hm (Nat.not_lt_zero _)
    | succ nf ih_21 =>
      intro n f190 f191 f192 hm_21 hn2 ht2 hs2 H locs ls hP hD hS hl
      refine lv_iload_n hx hb dX6_takeAll_21 rfl (lv_at hl 2 rfl) ?_
      refine lv_aload_n hx hb dX6_takeAll_22 rfl (lv_at hl 0 rfl) ?_
      refine va_get (D := (dC, dI)) (ci := 6) (v := .ref (h 101)) (C := RX6) (T := TX6) (N := 4) hx hb hts hinX6 hown hK hP 0 rfl rfl 0 (by decide) (hts (.fieldLink RX6 21 "MixedWords$Taker" "mix" "LMixedWords$Mix;") (by decide +kernel)) (fun _ h9 => h9) rfl dX6_takeAll_23 ?_
      refine va_get (D := (dC, dI)) (ci := 3) (v := .int (I 121)) (C := RX3) (T := TX3) (N := 6) hx hb hts hinX3 hown hK hP 4 rfl rfl 1 (by decide) (hts (.fieldLink RX6 36 "MixedWords$Mix" "width" "I") (by decide +kernel)) (fun _ h9 => h9) rfl dX6_takeAll_26 ?_
      refine xt_i (y := nI M) (hM) ?_
      refine xn_ge (tgt := 62) hx hb dX6_takeAll_29 (by decide) (by omega) (by omega) (fun c_29_0 => ?_) (fun c_29_0 => ?_)
      · skip
        exact xr_v hx hb hr hlocks hK hS dX6_takeAll_62 (I, L, (va_up (va_up (va_up A 190 f190) 191 f191) 192 f192), Q, G, J) ⟨f190, f191, f192, ⟨(show n = M by omega) ▸ ht2, fun k hk => hs2 k (by omega)⟩, rfl⟩ hP hD
      · skip
        refine lv_aload_n hx hb dX6_takeAll_32 rfl (lv_at hl 0 rfl) ?_
        refine lv_iload_n hx hb dX6_takeAll_33 rfl (lv_at hl 1 rfl) ?_
        refine xj_i (wc := (wTaker h cs I L (va_up (va_up (va_up A 190 f190) 191 f191) 192 f192) Q G J)) (wr := ([] : va_W)) hP hD hS hA [0, 1, 2, 3, 4, 5, 6, 7, 8, 9, 10, 11] [] rfl rfl (by decide +kernel) (by decide +kernel) (va_runV (As := [.int (tkC (dC9 (G 0) R) M n)]) (rest := []) ⟨hx, hb, hml, hown, hts⟩ (k_X6_greatest l dC dI h cs H.size I L (va_up (va_up (va_up A 190 f190) 191 f191) 192 f192) Q G J (tkC (dC9 (G 0) R) M n) R M hR (by first | assumption | omega | exact hR1) (by first | assumption | omega | exact hR5) hM (by first | assumption | omega | exact hM1) (by first | assumption | omega | exact hM4)) (cwV 1 hts gX6_takeAll_X6_greatest rfl rfl rfl (by decide +kernel) ⟨Nat.le_of_ble_eq_true rfl, Nat.le_of_ble_eq_true rfl⟩) (xpV (wc := (wTaker h cs I L (va_up (va_up (va_up A 190 f190) 191 f191) 192 f192) Q G J)) hP hD hK hN [0, 1, 2, 3, 4, 5, 6, 7, 8, 9, 10, 11] rfl (by decide) 0 (ci := 6) rfl rfl _) rfl rfl hl.1 rfl (lv_room (Nat.le_of_ble_eq_true rfl)) dX6_takeAll_34 ⟨Nat.zero_le _, Nat.zero_le _⟩) (fun r_3 u_2 H locs hw hP hD hS => ?_)
        obtain ⟨hf_4, rfl⟩ := hw
        have hP : va_P (dC, dI) vwCl (wTaker h cs I L (va_up (va_up (va_up A 190 f190) 191 f191) 192 f192) Q G J) H := hP
        have hD : va_D A0 (wTaker h cs I L (va_up (va_up (va_up A 190 f190) 191 f191) 192 f192) Q G J) := hD
        have hgr : r_3 = nI (gtB (dC9 (G 0) R) (tkC (dC9 (G 0) R) M n) M).1 ∧ (gtB (dC9 (G 0) R) (tkC (dC9 (G 0) R) M n) M).1 < 4 := hf_4
        obtain ⟨rfl, hgr4⟩ := hgr
        refine lv_istore_n (lv' := [(3, .int (nI ((gtB (dC9 (G 0) R) (tkC (dC9 (G 0) R) M n) M).1))), (0, .ref (h 107)), (1, .int (tkC (dC9 (G 0) R) M n)), (2, .int (nI n))]) hx hb dX6_takeAll_37 rfl hl (by decide) rfl (fun ls hl => ?_)
        refine lv_aload_n hx hb dX6_takeAll_38 rfl (lv_at hl 1 rfl) ?_
        refine va_get (D := (dC, dI)) (ci := 6) (v := .ref (h 191)) (C := RX6) (T := TX6) (N := 4) hx hb hts hinX6 hown hK hP 0 rfl rfl 2 (by decide) (hts (.fieldLink RX6 15 "MixedWords$Taker" "sequence" "[I") (by decide +kernel)) (fun _ h9 => h9) rfl dX6_takeAll_39 ?_
        refine lv_iload_n hx hb dX6_takeAll_42 rfl (lv_at hl 3 rfl) ?_
        refine lv_iload_n hx hb dX6_takeAll_43 rfl (lv_at hl 0 rfl) ?_
        refine xa_iast hx hb hK hP hD hS 2 0 rfl rfl (by omega) (by decide) dX6_takeAll_44 (fun H locs hP hD hS => ?_)
        have hP : va_P (dC, dI) vwCl (wTaker h cs I L (va_up (va_up (va_up A 190 f190) 192 f192) 191 (upd f191 n (nI ((gtB (dC9 (G 0) R) (tkC (dC9 (G 0) R) M n) M).1)))) Q G J) H := hP
        have hD : va_D A0 (wTaker h cs I L (va_up (va_up (va_up A 190 f190) 192 f192) 191 (upd f191 n (nI ((gtB (dC9 (G 0) R) (tkC (dC9 (G 0) R) M n) M).1)))) Q G J) := hD
        refine lv_iload_n hx hb dX6_takeAll_45 rfl (lv_at hl 2 rfl) ?_
        refine lv_iconst (v := nI 1) hx hb dX6_takeAll_46 (by decide) ?_
        refine lv_iload_n hx hb dX6_takeAll_47 rfl (lv_at hl 0 rfl) ?_
        refine lv_ishl hx hb dX6_takeAll_48 ?_
        refine lv_ior hx hb dX6_takeAll_49 ?_
        refine lv_istore_n (lv' := [(1, .int ((tkC (dC9 (G 0) R) M n) ||| ((nI 1) <<< ((nI ((gtB (dC9 (G 0) R) (tkC (dC9 (G 0) R) M n) M).1)) &&& 31)))), (3, .int (nI ((gtB (dC9 (G 0) R) (tkC (dC9 (G 0) R) M n) M).1))), (0, .ref (h 107)), (2, .int (nI n))]) hx hb dX6_takeAll_50 rfl hl (by decide) rfl (fun ls hl => ?_)
        refine lv_aload_n hx hb dX6_takeAll_51 rfl (lv_at hl 2 rfl) ?_
        refine lv_iload_n hx hb dX6_takeAll_52 rfl (lv_at hl 1 rfl) ?_
        refine xj_v (wc := (wTaker h cs I L (va_up (va_up (va_up A 190 f190) 192 f192) 191 (upd f191 n (nI ((gtB (dC9 (G 0) R) (tkC (dC9 (G 0) R) M n) M).1)))) Q G J)) (wr := ([] : va_W)) hP hD hS hA [0, 1, 2, 3, 4, 5, 6, 7, 8, 9, 10, 11] [] rfl rfl (by decide +kernel) (by decide +kernel) (va_runV (As := [.int (nI ((gtB (dC9 (G 0) R) (tkC (dC9 (G 0) R) M n) M).1))]) (rest := []) ⟨hx, hb, hml, hown, hts⟩ (k_X6_takeOff l dC dI h cs H.size I L (va_up (va_up (va_up A 190 f190) 192 f192) 191 (upd f191 n (nI ((gtB (dC9 (G 0) R) (tkC (dC9 (G 0) R) M n) M).1)))) Q G J ((gtB (dC9 (G 0) R) (tkC (dC9 (G 0) R) M n) M).1) R M a (by first | assumption | omega) hR (by first | assumption | omega | exact hR1) (by first | assumption | omega | exact hR5) hM (by first | assumption | omega | exact hM1) (by first | assumption | omega | exact hM4) ha (by first | assumption | omega | exact ha2)) (cwV 1 hts gX6_takeAll_X6_takeOff rfl rfl rfl (by decide +kernel) ⟨Nat.le_of_ble_eq_true rfl, Nat.le_of_ble_eq_true rfl⟩) (xpV (wc := (wTaker h cs I L (va_up (va_up (va_up A 190 f190) 192 f192) 191 (upd f191 n (nI ((gtB (dC9 (G 0) R) (tkC (dC9 (G 0) R) M n) M).1)))) Q G J)) hP hD hK hN [0, 1, 2, 3, 4, 5, 6, 7, 8, 9, 10, 11] rfl (by decide) 0 (ci := 6) rfl rfl _) rfl rfl hl.1 rfl (lv_room (Nat.le_of_ble_eq_true rfl)) dX6_takeAll_53 ⟨Nat.zero_le _, Nat.zero_le _⟩) (fun u_5 H locs hw hP hD hS => ?_)
        obtain ⟨a190_7, a192_8, hf_9, rfl⟩ := hw
        have hP : va_P (dC, dI) vwCl (wTaker h cs I L (va_up (va_up (va_up A 191 (upd f191 n (nI ((gtB (dC9 (G 0) R) (tkC (dC9 (G 0) R) M n) M).1)))) 190 a190_7) 192 a192_8) Q G J) H := hP
        have hD : va_D A0 (wTaker h cs I L (va_up (va_up (va_up A 191 (upd f191 n (nI ((gtB (dC9 (G 0) R) (tkC (dC9 (G 0) R) M n) M).1)))) 190 a190_7) 192 a192_8) Q G J) := hD
        refine lv_iinc (v := nI (n + 1)) (lv' := [(2, .int (nI (n + 1))), (1, .int ((tkC (dC9 (G 0) R) M n) ||| ((nI 1) <<< ((nI ((gtB (dC9 (G 0) R) (tkC (dC9 (G 0) R) M n) M).1)) &&& 31)))), (3, .int (nI ((gtB (dC9 (G 0) R) (tkC (dC9 (G 0) R) M n) M).1))), (0, .ref (h 107))]) hx hb dX6_takeAll_56 hl (k := 3) rfl (nI_1 _) (by decide) rfl (fun ls hl => ?_)
        refine lv_goto (tgt := 21) hx hb dX6_takeAll_59 (by decide) ?_
        exact ih_21 (n + 1) a190_7 (upd f191 n (nI ((gtB (dC9 (G 0) R) (tkC (dC9 (G 0) R) M n) M).1))) a192_8 (by omega) (by first | assumption | omega) (by first | exact (fun t ht => by show va_cpy _ _ _ _ _ t = _; rw [va_cpy, if_pos (by omega), show 0 + (t - 0) = t by omega]) | exact ⟨_, _, ht2, hf_9⟩) (by first | exact (fun k hk => absurd hk (Nat.not_lt_zero k)) | exact offs_s (F := fun k => nI (gtB (dC9 (G 0) R) (tkC (dC9 (G 0) R) M k) M).1) hs2) _ _ _ hP hD hS (lv_sub hl [3, 1, 0] rfl)
  exact cut_21 _ 0 (va_cpy (A 136) (A 190) 0 0 5) (A 191) (A 192) (Nat.lt_succ_self _) (by first | assumption | omega) (by first | exact (fun t ht => by show va_cpy _ _ _ _ _ t = _; rw [va_cpy, if_pos (by omega), show 0 + (t - 0) = t by omega]) | exact ⟨_, _, ht2, hf_9⟩) (by first | exact (fun k hk => absurd hk (Nat.not_lt_zero k)) | exact offs_s (F := fun k => nI (gtB (dC9 (G 0) R) (tkC (dC9 (G 0) R) M k) M).1) hs2) _ _ _ hP hD hS (lv_sub hl [2, 1, 0] rfl)
