
/-- what an act leaves of the three rows: the shift by one where 40 are there, the new one behind -/
def actRows (d p : Nat) (v w : Int32) (a6 a7 a8 f6 f7 f8 : Nat → Int32) (dd : Nat) : Prop :=
  (∀ k : Nat, k < dd → f6 k = a6 (k + (d - dd)) ∧ f7 k = a7 (k + (d - dd)) ∧ f8 k = a8 (k + (d - dd))) ∧ f6 dd = nI p ∧ f7 dd = w ∧ f8 dd = v
theorem act_post {d dd p : Nat} {v w : Int32} {a6 a7 a8 g6 g7 g8 : Nat → Int32} (h : ∀ k : Nat, k < dd → g6 k = a6 (k + (d - dd)) ∧ g7 k = a7 (k + (d - dd)) ∧ g8 k = a8 (k + (d - dd))) : actRows d p v w a6 a7 a8 (upd g6 dd (nI p)) (upd g7 dd w) (upd g8 dd v) dd := by
  refine ⟨fun k hk => ?_, pk_us, pk_us, pk_us⟩
  have e : k ≠ dd := by omega
  rw [pk_un e, pk_un e, pk_un e]
  exact h k hk

theorem act_lt {d k : Nat} {a6 a7 a8 g6 g7 g8 : Nat → Int32} (hd : d = 40) (hg : ∀ t : Nat, t < k → g6 t = a6 (t + (d - 39)) ∧ g7 t = a7 (t + (d - 39)) ∧ g8 t = a8 (t + (d - 39))) (hh : ∀ t : Nat, k ≤ t → g6 t = a6 t ∧ g7 t = a7 t ∧ g8 t = a8 t) :
    ∀ t : Nat, t < k + 1 → upd g6 k (g6 (k + 1)) t = a6 (t + (d - 39)) ∧ upd g7 k (g7 (k + 1)) t = a7 (t + (d - 39)) ∧ upd g8 k (g8 (k + 1)) t = a8 (t + (d - 39)) := by
  intro t ht
  subst hd
  by_cases e : t = k
  · subst e
    rw [pk_us, pk_us, pk_us]
    exact hh (t + 1) (by omega)
  · rw [pk_un e, pk_un e, pk_un e]
    exact hg t (by omega)
theorem act_ge {k : Nat} {a6 a7 a8 g6 g7 g8 : Nat → Int32} {u v w : Int32} (hh : ∀ t : Nat, k ≤ t → g6 t = a6 t ∧ g7 t = a7 t ∧ g8 t = a8 t) :
    ∀ t : Nat, k + 1 ≤ t → upd g6 k u t = a6 t ∧ upd g7 k v t = a7 t ∧ upd g8 k w t = a8 t := by
  intro t ht
  have e : t ≠ k := by omega
  rw [pk_un e, pk_un e, pk_un e]
  exact hh t (by omega)
theorem bdX10_act_0 : (decode cX10_act 0 = .ok (.aload_n 0, 1)) ∧ (decode cX10_act 1 = .ok (.getfield 69, 3)) ∧ (decode cX10_act 4 = .ok (.bipush 40, 2)) ∧ (decode cX10_act 6 = .ok (.if_icmp .ne 65, 3)) ∧ (decode cX10_act 9 = .ok (.iconst 0, 1)) ∧ (decode cX10_act 10 = .ok (.istore_n 3, 1)) ∧ (decode cX10_act 11 = .ok (.iload_n 3, 1)) ∧ (decode cX10_act 12 = .ok (.bipush 39, 2)) ∧ (decode cX10_act 14 = .ok (.if_icmp .ge 51, 3)) ∧ (decode cX10_act 17 = .ok (.aload_n 0, 1)) ∧ (decode cX10_act 18 = .ok (.getfield 23, 3)) ∧ (decode cX10_act 21 = .ok (.iload_n 3, 1)) ∧ (decode cX10_act 22 = .ok (.aload_n 0, 1)) ∧ (decode cX10_act 23 = .ok (.getfield 23, 3)) ∧ (decode cX10_act 26 = .ok (.iload_n 3, 1)) ∧ (decode cX10_act 27 = .ok (.iconst 1, 1)) := by decide +kernel
theorem dX10_act_0 : decode cX10_act 0 = .ok (.aload_n 0, 1) := bdX10_act_0.1
theorem dX10_act_1 : decode cX10_act 1 = .ok (.getfield 69, 3) := bdX10_act_0.2.1
theorem dX10_act_4 : decode cX10_act 4 = .ok (.bipush 40, 2) := bdX10_act_0.2.2.1
theorem dX10_act_6 : decode cX10_act 6 = .ok (.if_icmp .ne 65, 3) := bdX10_act_0.2.2.2.1
theorem dX10_act_9 : decode cX10_act 9 = .ok (.iconst 0, 1) := bdX10_act_0.2.2.2.2.1
theorem dX10_act_10 : decode cX10_act 10 = .ok (.istore_n 3, 1) := bdX10_act_0.2.2.2.2.2.1
theorem dX10_act_11 : decode cX10_act 11 = .ok (.iload_n 3, 1) := bdX10_act_0.2.2.2.2.2.2.1
theorem dX10_act_12 : decode cX10_act 12 = .ok (.bipush 39, 2) := bdX10_act_0.2.2.2.2.2.2.2.1
theorem dX10_act_14 : decode cX10_act 14 = .ok (.if_icmp .ge 51, 3) := bdX10_act_0.2.2.2.2.2.2.2.2.1
theorem dX10_act_17 : decode cX10_act 17 = .ok (.aload_n 0, 1) := bdX10_act_0.2.2.2.2.2.2.2.2.2.1
theorem dX10_act_18 : decode cX10_act 18 = .ok (.getfield 23, 3) := bdX10_act_0.2.2.2.2.2.2.2.2.2.2.1
theorem dX10_act_21 : decode cX10_act 21 = .ok (.iload_n 3, 1) := bdX10_act_0.2.2.2.2.2.2.2.2.2.2.2.1
theorem dX10_act_22 : decode cX10_act 22 = .ok (.aload_n 0, 1) := bdX10_act_0.2.2.2.2.2.2.2.2.2.2.2.2.1
theorem dX10_act_23 : decode cX10_act 23 = .ok (.getfield 23, 3) := bdX10_act_0.2.2.2.2.2.2.2.2.2.2.2.2.2.1
theorem dX10_act_26 : decode cX10_act 26 = .ok (.iload_n 3, 1) := bdX10_act_0.2.2.2.2.2.2.2.2.2.2.2.2.2.2.1
theorem dX10_act_27 : decode cX10_act 27 = .ok (.iconst 1, 1) := bdX10_act_0.2.2.2.2.2.2.2.2.2.2.2.2.2.2.2
theorem bdX10_act_28 : (decode cX10_act 28 = .ok (.iadd, 1)) ∧ (decode cX10_act 29 = .ok (.iaload, 1)) ∧ (decode cX10_act 30 = .ok (.iastore, 1)) ∧ (decode cX10_act 31 = .ok (.aload_n 0, 1)) ∧ (decode cX10_act 32 = .ok (.getfield 26, 3)) ∧ (decode cX10_act 35 = .ok (.iload_n 3, 1)) ∧ (decode cX10_act 36 = .ok (.aload_n 0, 1)) ∧ (decode cX10_act 37 = .ok (.getfield 26, 3)) ∧ (decode cX10_act 40 = .ok (.iload_n 3, 1)) ∧ (decode cX10_act 41 = .ok (.iconst 1, 1)) ∧ (decode cX10_act 42 = .ok (.iadd, 1)) ∧ (decode cX10_act 43 = .ok (.iaload, 1)) ∧ (decode cX10_act 44 = .ok (.iastore, 1)) ∧ (decode cX10_act 45 = .ok (.aload_n 0, 1)) ∧ (decode cX10_act 46 = .ok (.getfield 29, 3)) ∧ (decode cX10_act 49 = .ok (.iload_n 3, 1)) := by decide +kernel
theorem dX10_act_28 : decode cX10_act 28 = .ok (.iadd, 1) := bdX10_act_28.1
theorem dX10_act_29 : decode cX10_act 29 = .ok (.iaload, 1) := bdX10_act_28.2.1
theorem dX10_act_30 : decode cX10_act 30 = .ok (.iastore, 1) := bdX10_act_28.2.2.1
theorem dX10_act_31 : decode cX10_act 31 = .ok (.aload_n 0, 1) := bdX10_act_28.2.2.2.1
theorem dX10_act_32 : decode cX10_act 32 = .ok (.getfield 26, 3) := bdX10_act_28.2.2.2.2.1
theorem dX10_act_35 : decode cX10_act 35 = .ok (.iload_n 3, 1) := bdX10_act_28.2.2.2.2.2.1
theorem dX10_act_36 : decode cX10_act 36 = .ok (.aload_n 0, 1) := bdX10_act_28.2.2.2.2.2.2.1
theorem dX10_act_37 : decode cX10_act 37 = .ok (.getfield 26, 3) := bdX10_act_28.2.2.2.2.2.2.2.1
theorem dX10_act_40 : decode cX10_act 40 = .ok (.iload_n 3, 1) := bdX10_act_28.2.2.2.2.2.2.2.2.1
theorem dX10_act_41 : decode cX10_act 41 = .ok (.iconst 1, 1) := bdX10_act_28.2.2.2.2.2.2.2.2.2.1
theorem dX10_act_42 : decode cX10_act 42 = .ok (.iadd, 1) := bdX10_act_28.2.2.2.2.2.2.2.2.2.2.1
theorem dX10_act_43 : decode cX10_act 43 = .ok (.iaload, 1) := bdX10_act_28.2.2.2.2.2.2.2.2.2.2.2.1
theorem dX10_act_44 : decode cX10_act 44 = .ok (.iastore, 1) := bdX10_act_28.2.2.2.2.2.2.2.2.2.2.2.2.1
theorem dX10_act_45 : decode cX10_act 45 = .ok (.aload_n 0, 1) := bdX10_act_28.2.2.2.2.2.2.2.2.2.2.2.2.2.1
theorem dX10_act_46 : decode cX10_act 46 = .ok (.getfield 29, 3) := bdX10_act_28.2.2.2.2.2.2.2.2.2.2.2.2.2.2.1
theorem dX10_act_49 : decode cX10_act 49 = .ok (.iload_n 3, 1) := bdX10_act_28.2.2.2.2.2.2.2.2.2.2.2.2.2.2.2
theorem bdX10_act_50 : (decode cX10_act 50 = .ok (.aload_n 0, 1)) ∧ (decode cX10_act 51 = .ok (.getfield 29, 3)) ∧ (decode cX10_act 54 = .ok (.iload_n 3, 1)) ∧ (decode cX10_act 55 = .ok (.iconst 1, 1)) ∧ (decode cX10_act 56 = .ok (.iadd, 1)) ∧ (decode cX10_act 57 = .ok (.iaload, 1)) ∧ (decode cX10_act 58 = .ok (.iastore, 1)) ∧ (decode cX10_act 59 = .ok (.iinc 3 1, 3)) ∧ (decode cX10_act 62 = .ok (.goto (-51), 3)) ∧ (decode cX10_act 65 = .ok (.aload_n 0, 1)) ∧ (decode cX10_act 66 = .ok (.bipush 39, 2)) ∧ (decode cX10_act 68 = .ok (.putfield 69, 3)) ∧ (decode cX10_act 71 = .ok (.aload_n 0, 1)) ∧ (decode cX10_act 72 = .ok (.getfield 19, 3)) ∧ (decode cX10_act 75 = .ok (.iload_n 1, 1)) ∧ (decode cX10_act 76 = .ok (.iaload, 1)) := by decide +kernel
theorem dX10_act_50 : decode cX10_act 50 = .ok (.aload_n 0, 1) := bdX10_act_50.1
theorem dX10_act_51 : decode cX10_act 51 = .ok (.getfield 29, 3) := bdX10_act_50.2.1
theorem dX10_act_54 : decode cX10_act 54 = .ok (.iload_n 3, 1) := bdX10_act_50.2.2.1
theorem dX10_act_55 : decode cX10_act 55 = .ok (.iconst 1, 1) := bdX10_act_50.2.2.2.1
theorem dX10_act_56 : decode cX10_act 56 = .ok (.iadd, 1) := bdX10_act_50.2.2.2.2.1
theorem dX10_act_57 : decode cX10_act 57 = .ok (.iaload, 1) := bdX10_act_50.2.2.2.2.2.1
theorem dX10_act_58 : decode cX10_act 58 = .ok (.iastore, 1) := bdX10_act_50.2.2.2.2.2.2.1
theorem dX10_act_59 : decode cX10_act 59 = .ok (.iinc 3 1, 3) := bdX10_act_50.2.2.2.2.2.2.2.1
theorem dX10_act_62 : decode cX10_act 62 = .ok (.goto (-51), 3) := bdX10_act_50.2.2.2.2.2.2.2.2.1
theorem dX10_act_65 : decode cX10_act 65 = .ok (.aload_n 0, 1) := bdX10_act_50.2.2.2.2.2.2.2.2.2.1
theorem dX10_act_66 : decode cX10_act 66 = .ok (.bipush 39, 2) := bdX10_act_50.2.2.2.2.2.2.2.2.2.2.1
theorem dX10_act_68 : decode cX10_act 68 = .ok (.putfield 69, 3) := bdX10_act_50.2.2.2.2.2.2.2.2.2.2.2.1
theorem dX10_act_71 : decode cX10_act 71 = .ok (.aload_n 0, 1) := bdX10_act_50.2.2.2.2.2.2.2.2.2.2.2.2.1
theorem dX10_act_72 : decode cX10_act 72 = .ok (.getfield 19, 3) := bdX10_act_50.2.2.2.2.2.2.2.2.2.2.2.2.2.1
theorem dX10_act_75 : decode cX10_act 75 = .ok (.iload_n 1, 1) := bdX10_act_50.2.2.2.2.2.2.2.2.2.2.2.2.2.2.1
theorem dX10_act_76 : decode cX10_act 76 = .ok (.iaload, 1) := bdX10_act_50.2.2.2.2.2.2.2.2.2.2.2.2.2.2.2
theorem bdX10_act_77 : (decode cX10_act 77 = .ok (.istore_n 3, 1)) ∧ (decode cX10_act 78 = .ok (.aload_n 0, 1)) ∧ (decode cX10_act 79 = .ok (.getfield 23, 3)) ∧ (decode cX10_act 82 = .ok (.aload_n 0, 1)) ∧ (decode cX10_act 83 = .ok (.getfield 69, 3)) ∧ (decode cX10_act 86 = .ok (.iload_n 1, 1)) ∧ (decode cX10_act 87 = .ok (.iastore, 1)) ∧ (decode cX10_act 88 = .ok (.aload_n 0, 1)) ∧ (decode cX10_act 89 = .ok (.getfield 26, 3)) ∧ (decode cX10_act 92 = .ok (.aload_n 0, 1)) ∧ (decode cX10_act 93 = .ok (.getfield 69, 3)) ∧ (decode cX10_act 96 = .ok (.iload_n 3, 1)) ∧ (decode cX10_act 97 = .ok (.iastore, 1)) ∧ (decode cX10_act 98 = .ok (.aload_n 0, 1)) ∧ (decode cX10_act 99 = .ok (.getfield 29, 3)) ∧ (decode cX10_act 102 = .ok (.aload_n 0, 1)) := by decide +kernel
theorem dX10_act_77 : decode cX10_act 77 = .ok (.istore_n 3, 1) := bdX10_act_77.1
theorem dX10_act_78 : decode cX10_act 78 = .ok (.aload_n 0, 1) := bdX10_act_77.2.1
theorem dX10_act_79 : decode cX10_act 79 = .ok (.getfield 23, 3) := bdX10_act_77.2.2.1
theorem dX10_act_82 : decode cX10_act 82 = .ok (.aload_n 0, 1) := bdX10_act_77.2.2.2.1
theorem dX10_act_83 : decode cX10_act 83 = .ok (.getfield 69, 3) := bdX10_act_77.2.2.2.2.1
theorem dX10_act_86 : decode cX10_act 86 = .ok (.iload_n 1, 1) := bdX10_act_77.2.2.2.2.2.1
theorem dX10_act_87 : decode cX10_act 87 = .ok (.iastore, 1) := bdX10_act_77.2.2.2.2.2.2.1
theorem dX10_act_88 : decode cX10_act 88 = .ok (.aload_n 0, 1) := bdX10_act_77.2.2.2.2.2.2.2.1
theorem dX10_act_89 : decode cX10_act 89 = .ok (.getfield 26, 3) := bdX10_act_77.2.2.2.2.2.2.2.2.1
theorem dX10_act_92 : decode cX10_act 92 = .ok (.aload_n 0, 1) := bdX10_act_77.2.2.2.2.2.2.2.2.2.1
theorem dX10_act_93 : decode cX10_act 93 = .ok (.getfield 69, 3) := bdX10_act_77.2.2.2.2.2.2.2.2.2.2.1
theorem dX10_act_96 : decode cX10_act 96 = .ok (.iload_n 3, 1) := bdX10_act_77.2.2.2.2.2.2.2.2.2.2.2.1
theorem dX10_act_97 : decode cX10_act 97 = .ok (.iastore, 1) := bdX10_act_77.2.2.2.2.2.2.2.2.2.2.2.2.1
theorem dX10_act_98 : decode cX10_act 98 = .ok (.aload_n 0, 1) := bdX10_act_77.2.2.2.2.2.2.2.2.2.2.2.2.2.1
theorem dX10_act_99 : decode cX10_act 99 = .ok (.getfield 29, 3) := bdX10_act_77.2.2.2.2.2.2.2.2.2.2.2.2.2.2.1
theorem dX10_act_102 : decode cX10_act 102 = .ok (.aload_n 0, 1) := bdX10_act_77.2.2.2.2.2.2.2.2.2.2.2.2.2.2.2
theorem bdX10_act_103 : (decode cX10_act 103 = .ok (.getfield 69, 3)) ∧ (decode cX10_act 106 = .ok (.iload_n 2, 1)) ∧ (decode cX10_act 107 = .ok (.iastore, 1)) ∧ (decode cX10_act 108 = .ok (.aload_n 0, 1)) ∧ (decode cX10_act 109 = .ok (.dup, 1)) ∧ (decode cX10_act 110 = .ok (.getfield 69, 3)) ∧ (decode cX10_act 113 = .ok (.iconst 1, 1)) ∧ (decode cX10_act 114 = .ok (.iadd, 1)) ∧ (decode cX10_act 115 = .ok (.putfield 69, 3)) ∧ (decode cX10_act 118 = .ok (.aload_n 0, 1)) ∧ (decode cX10_act 119 = .ok (.iconst 0, 1)) ∧ (decode cX10_act 120 = .ok (.putfield 72, 3)) ∧ (decode cX10_act 123 = .ok (.aload_n 0, 1)) ∧ (decode cX10_act 124 = .ok (.getfield 19, 3)) ∧ (decode cX10_act 127 = .ok (.iload_n 1, 1)) ∧ (decode cX10_act 128 = .ok (.iload_n 2, 1)) := by decide +kernel
theorem dX10_act_103 : decode cX10_act 103 = .ok (.getfield 69, 3) := bdX10_act_103.1
theorem dX10_act_106 : decode cX10_act 106 = .ok (.iload_n 2, 1) := bdX10_act_103.2.1
theorem dX10_act_107 : decode cX10_act 107 = .ok (.iastore, 1) := bdX10_act_103.2.2.1
theorem dX10_act_108 : decode cX10_act 108 = .ok (.aload_n 0, 1) := bdX10_act_103.2.2.2.1
theorem dX10_act_109 : decode cX10_act 109 = .ok (.dup, 1) := bdX10_act_103.2.2.2.2.1
theorem dX10_act_110 : decode cX10_act 110 = .ok (.getfield 69, 3) := bdX10_act_103.2.2.2.2.2.1
theorem dX10_act_113 : decode cX10_act 113 = .ok (.iconst 1, 1) := bdX10_act_103.2.2.2.2.2.2.1
theorem dX10_act_114 : decode cX10_act 114 = .ok (.iadd, 1) := bdX10_act_103.2.2.2.2.2.2.2.1
theorem dX10_act_115 : decode cX10_act 115 = .ok (.putfield 69, 3) := bdX10_act_103.2.2.2.2.2.2.2.2.1
theorem dX10_act_118 : decode cX10_act 118 = .ok (.aload_n 0, 1) := bdX10_act_103.2.2.2.2.2.2.2.2.2.1
theorem dX10_act_119 : decode cX10_act 119 = .ok (.iconst 0, 1) := bdX10_act_103.2.2.2.2.2.2.2.2.2.2.1
theorem dX10_act_120 : decode cX10_act 120 = .ok (.putfield 72, 3) := bdX10_act_103.2.2.2.2.2.2.2.2.2.2.2.1
theorem dX10_act_123 : decode cX10_act 123 = .ok (.aload_n 0, 1) := bdX10_act_103.2.2.2.2.2.2.2.2.2.2.2.2.1
theorem dX10_act_124 : decode cX10_act 124 = .ok (.getfield 19, 3) := bdX10_act_103.2.2.2.2.2.2.2.2.2.2.2.2.2.1
theorem dX10_act_127 : decode cX10_act 127 = .ok (.iload_n 1, 1) := bdX10_act_103.2.2.2.2.2.2.2.2.2.2.2.2.2.2.1
theorem dX10_act_128 : decode cX10_act 128 = .ok (.iload_n 2, 1) := bdX10_act_103.2.2.2.2.2.2.2.2.2.2.2.2.2.2.2
theorem bdX10_act_129 : (decode cX10_act 129 = .ok (.iastore, 1)) ∧ (decode cX10_act 130 = .ok (.iload_n 3, 1)) ∧ (decode cX10_act 131 = .ok (.ireturn, 1)) := by decide +kernel
theorem dX10_act_129 : decode cX10_act 129 = .ok (.iastore, 1) := bdX10_act_129.1
theorem dX10_act_130 : decode cX10_act 130 = .ok (.iload_n 3, 1) := bdX10_act_129.2.1
theorem dX10_act_131 : decode cX10_act 131 = .ok (.ireturn, 1) := bdX10_act_129.2.2
set_option maxHeartbeats 4000000 in
set_option maxRecDepth 100000 in
theorem k_X10_act (l : Launch) (dC : Nat → ClassId) (dI : Nat → Nat → Nat) (h : Nat → Nat) (cs : Nat → ClassId) (sz : Nat) (I : Nat → Int32) (L : Nat → Int64) (A : Nat → Nat → Int32) (Q : Nat → Nat → Int64) (pl : Nat) (v : Int32) (d : Nat) (hp : pl < 25) (hd : I 4 = nI d) (hd4 : d ≤ 40) : Met l yX10_act wsX10_act ({ frames := 0, cells := 0, slots := 0, locals := 0 }) (va_Pc [.ref (h 0), .int (nI pl), .int v] (xPre (dC, dI) (rW h cs I L A Q) (tysA cs) sz)) (va_Qi (fun (r : Int32) (u : RS) => ∃ x4 : Int32, ∃ x5 : Int32, ∃ f3 : Nat → Int32, ∃ f6 : Nat → Int32, ∃ f7 : Nat → Int32, ∃ f8 : Nat → Int32, (r = A 3 pl ∧ ∃ dd : Nat, dd ≤ 39 ∧ (dd = d ∨ (d = 40 ∧ dd = 39)) ∧ x4 = nI (dd + 1) ∧ x5 = nI 0 ∧ f3 = upd (A 3) pl v ∧ actRows d pl v (A 3 pl) (A 6) (A 7) (A 8) f6 f7 f8 dd) ∧ u = ((va_up (va_up I 4 x4) 5 x5), L, (va_up (va_up (va_up (va_up A 3 f3) 6 f6) 7 f7) 8 f8), Q)) (xB (dC, dI) (tysA cs) (va_A (rW h cs I L A Q) sz) (fun u : RS => rW h cs u.1 u.2.1 u.2.2.1 u.2.2.2)) (va_A (rW h cs I L A Q) sz)) 0 0 (va_A (rW h cs I L A Q) sz) := by
  refine Met.ofW (cc := cX10_act) (maxL := 4) (ret := (some .int)) (by decide) rfl ?_
  intro p e s m args below meth c s₁ B hml hv
  obtain ⟨rfl, hsz, hP, hK, hD0, hN⟩ := hv
  have hx := B.exec
  have hb := B.bytes
  have hr := B.returns
  have hts := atoms_spec (ws := wsX10_act) B.pre
  have hown : s.vm.findClass RX10 = some m.cls := findClass_of_methodNamed B.named
  have hlocks := B.notSynchronized
  subst hsz
  have hD := hD0.self (sz := s.heap.size)
  generalize hAe : va_A (rW h cs I L A Q) s.heap.size = A0 at hD ⊢
  have hA : ∀ q : Nat, s.heap.size ≤ q → A0 q := fun q h => by rw [← hAe]; exact Or.inr h
  have hl := lv_entry ([.ref (h 0), .int (nI pl), .int v]) (n := 4) (Nat.le_of_ble_eq_true rfl)
  rw [lg_entry_eq]
  generalize (lg_sl ([.ref (h 0), .int (nI pl), .int v]) ++ List.replicate (4 - (lg_sl ([.ref (h 0), .int (nI pl), .int v])).length) Slot.unset).toArray = ls at hl ⊢
  have hl : lv_has ls 4 [(0, .ref (h 0)), (1, .int (nI pl)), (2, .int v)] := hl
  generalize hH : s.heap = H at hP ⊢
  have hS : va_S A0 s.heap H [] := by rw [← hH]; exact va_S.rf
  have hinX10 : ∀ w ∈ wsX100, w ∈ wsX10_act := by decide +kernel
  refine lv_aload_n hx hb dX10_act_0 rfl (lv_at hl 0 rfl) ?_
  refine va_get (D := (dC, dI)) (ci := 10) (v := .int (I 4)) (C := RX10) (T := TX10) (N := 28) hx hb hts hinX10 hown hK hP 0 rfl rfl 4 (by decide) (hts (.fieldLink RX10 69 "MixedWordsModel" "done" "I") (by decide +kernel)) (fun _ h9 => h9) rfl dX10_act_1 ?_
  refine xt_i (y := nI d) (hd) ?_
  refine lv_bipush (v := nI 40) hx hb dX10_act_4 (by decide) ?_
  refine xn_ne (tgt := 71) hx hb dX10_act_6 (by decide) (by omega) (by omega) (fun c_6_0 => ?_) (fun c_6_0 => ?_)
  · skip
    refine lv_aload_n hx hb dX10_act_71 rfl (lv_at hl 0 rfl) ?_
    refine va_get (D := (dC, dI)) (ci := 10) (v := .ref (h 3)) (C := RX10) (T := TX10) (N := 28) hx hb hts hinX10 hown hK hP 0 rfl rfl 3 (by decide) (hts (.fieldLink RX10 19 "MixedWordsModel" "told" "[I") (by decide +kernel)) (fun _ h9 => h9) rfl dX10_act_72 ?_
    refine lv_iload_n hx hb dX10_act_75 rfl (lv_at hl 1 rfl) ?_
    refine xa_iald hx hb hK hP 1 0 rfl rfl (by omega) (by decide) dX10_act_76 ?_
    refine lv_istore_n (lv' := [(3, .int (A 3 pl)), (0, .ref (h 0)), (1, .int (nI pl)), (2, .int v)]) hx hb dX10_act_77 rfl hl (by decide) rfl (fun ls hl => ?_)
    refine lv_aload_n hx hb dX10_act_78 rfl (lv_at hl 1 rfl) ?_
    refine va_get (D := (dC, dI)) (ci := 10) (v := .ref (h 6)) (C := RX10) (T := TX10) (N := 28) hx hb hts hinX10 hown hK hP 0 rfl rfl 6 (by decide) (hts (.fieldLink RX10 23 "MixedWordsModel" "actPlace" "[I") (by decide +kernel)) (fun _ h9 => h9) rfl dX10_act_79 ?_
    refine lv_aload_n hx hb dX10_act_82 rfl (lv_at hl 1 rfl) ?_
    refine va_get (D := (dC, dI)) (ci := 10) (v := .int (I 4)) (C := RX10) (T := TX10) (N := 28) hx hb hts hinX10 hown hK hP 0 rfl rfl 4 (by decide) (hts (.fieldLink RX10 69 "MixedWordsModel" "done" "I") (by decide +kernel)) (fun _ h9 => h9) rfl dX10_act_83 ?_
    refine xt_i (y := nI d) (hd) ?_
    refine lv_iload_n hx hb dX10_act_86 rfl (lv_at hl 2 rfl) ?_
    refine xa_iast hx hb hK hP hD hS 2 0 rfl rfl (by omega) (by decide) dX10_act_87 (fun H locs hP hD hS => ?_)
    have hP : va_P (dC, dI) vwCl (rW h cs I L (va_up A 6 (upd (A 6) d (nI pl))) Q) H := hP
    have hD : va_D A0 (rW h cs I L (va_up A 6 (upd (A 6) d (nI pl))) Q) := hD
    refine lv_aload_n hx hb dX10_act_88 rfl (lv_at hl 1 rfl) ?_
    refine va_get (D := (dC, dI)) (ci := 10) (v := .ref (h 7)) (C := RX10) (T := TX10) (N := 28) hx hb hts hinX10 hown hK hP 0 rfl rfl 7 (by decide) (hts (.fieldLink RX10 26 "MixedWordsModel" "actWas" "[I") (by decide +kernel)) (fun _ h9 => h9) rfl dX10_act_89 ?_
    refine lv_aload_n hx hb dX10_act_92 rfl (lv_at hl 1 rfl) ?_
    refine va_get (D := (dC, dI)) (ci := 10) (v := .int (I 4)) (C := RX10) (T := TX10) (N := 28) hx hb hts hinX10 hown hK hP 0 rfl rfl 4 (by decide) (hts (.fieldLink RX10 69 "MixedWordsModel" "done" "I") (by decide +kernel)) (fun _ h9 => h9) rfl dX10_act_93 ?_
    refine xt_i (y := nI d) (hd) ?_
    refine lv_iload_n hx hb dX10_act_96 rfl (lv_at hl 0 rfl) ?_
    refine xa_iast hx hb hK hP hD hS 3 0 rfl rfl (by omega) (by decide) dX10_act_97 (fun H locs hP hD hS => ?_)
    have hP : va_P (dC, dI) vwCl (rW h cs I L (va_up (va_up A 6 (upd (A 6) d (nI pl))) 7 (upd (A 7) d (A 3 pl))) Q) H := hP
    have hD : va_D A0 (rW h cs I L (va_up (va_up A 6 (upd (A 6) d (nI pl))) 7 (upd (A 7) d (A 3 pl))) Q) := hD
    refine lv_aload_n hx hb dX10_act_98 rfl (lv_at hl 1 rfl) ?_
    refine va_get (D := (dC, dI)) (ci := 10) (v := .ref (h 8)) (C := RX10) (T := TX10) (N := 28) hx hb hts hinX10 hown hK hP 0 rfl rfl 8 (by decide) (hts (.fieldLink RX10 29 "MixedWordsModel" "actIs" "[I") (by decide +kernel)) (fun _ h9 => h9) rfl dX10_act_99 ?_
    refine lv_aload_n hx hb dX10_act_102 rfl (lv_at hl 1 rfl) ?_
    refine va_get (D := (dC, dI)) (ci := 10) (v := .int (I 4)) (C := RX10) (T := TX10) (N := 28) hx hb hts hinX10 hown hK hP 0 rfl rfl 4 (by decide) (hts (.fieldLink RX10 69 "MixedWordsModel" "done" "I") (by decide +kernel)) (fun _ h9 => h9) rfl dX10_act_103 ?_
    refine xt_i (y := nI d) (hd) ?_
    refine lv_iload_n hx hb dX10_act_106 rfl (lv_at hl 3 rfl) ?_
    refine xa_iast hx hb hK hP hD hS 4 0 rfl rfl (by omega) (by decide) dX10_act_107 (fun H locs hP hD hS => ?_)
    have hP : va_P (dC, dI) vwCl (rW h cs I L (va_up (va_up (va_up A 6 (upd (A 6) d (nI pl))) 7 (upd (A 7) d (A 3 pl))) 8 (upd (A 8) d v)) Q) H := hP
    have hD : va_D A0 (rW h cs I L (va_up (va_up (va_up A 6 (upd (A 6) d (nI pl))) 7 (upd (A 7) d (A 3 pl))) 8 (upd (A 8) d v)) Q) := hD
    refine lv_aload_n hx hb dX10_act_108 rfl (lv_at hl 1 rfl) ?_
    refine lv_dup hx hb dX10_act_109 rfl ?_
    refine va_get (D := (dC, dI)) (ci := 10) (v := .int (I 4)) (C := RX10) (T := TX10) (N := 28) hx hb hts hinX10 hown hK hP 0 rfl rfl 4 (by decide) (hts (.fieldLink RX10 69 "MixedWordsModel" "done" "I") (by decide +kernel)) (fun _ h9 => h9) rfl dX10_act_110 ?_
    refine xt_i (y := nI d) (hd) ?_
    refine lv_iconst (v := nI 1) hx hb dX10_act_113 (by decide) ?_
    refine lv_iadd hx hb dX10_act_114 ?_
    refine xt_i (y := nI (d + 1)) (nI_add _ _) ?_
    refine va_put (D := (dC, dI)) (ci := 10) (v := .int (nI (d + 1))) (ty := .int) (C := RX10) (T := TX10) (N := 28) hx hb hts hinX10 tyX10 tyX10_ok nmX10 hown hK hP hD hS 0 rfl rfl 4 (by decide) (hts (.fieldLink RX10 69 "MixedWordsModel" "done" "I") (by decide +kernel)) (fun _ h9 => h9) rfl (by decide +kernel) rfl rfl (Nat.le_of_ble_eq_true rfl) dX10_act_115 (fun H locs hP hD hS => ?_)
    have hP : va_P (dC, dI) vwCl (rW h cs (va_up I 4 (nI (d + 1))) L (va_up (va_up (va_up A 6 (upd (A 6) d (nI pl))) 7 (upd (A 7) d (A 3 pl))) 8 (upd (A 8) d v)) Q) H := hP
    have hD : va_D A0 (rW h cs (va_up I 4 (nI (d + 1))) L (va_up (va_up (va_up A 6 (upd (A 6) d (nI pl))) 7 (upd (A 7) d (A 3 pl))) 8 (upd (A 8) d v)) Q) := hD
    refine lv_aload_n hx hb dX10_act_118 rfl (lv_at hl 1 rfl) ?_
    refine lv_iconst (v := nI 0) hx hb dX10_act_119 (by decide) ?_
    refine va_put (D := (dC, dI)) (ci := 10) (v := .int (nI 0)) (ty := .int) (C := RX10) (T := TX10) (N := 28) hx hb hts hinX10 tyX10 tyX10_ok nmX10 hown hK hP hD hS 0 rfl rfl 5 (by decide) (hts (.fieldLink RX10 72 "MixedWordsModel" "undone" "I") (by decide +kernel)) (fun _ h9 => h9) rfl (by decide +kernel) rfl rfl (Nat.le_of_ble_eq_true rfl) dX10_act_120 (fun H locs hP hD hS => ?_)
    have hP : va_P (dC, dI) vwCl (rW h cs (va_up (va_up I 4 (nI (d + 1))) 5 (nI 0)) L (va_up (va_up (va_up A 6 (upd (A 6) d (nI pl))) 7 (upd (A 7) d (A 3 pl))) 8 (upd (A 8) d v)) Q) H := hP
    have hD : va_D A0 (rW h cs (va_up (va_up I 4 (nI (d + 1))) 5 (nI 0)) L (va_up (va_up (va_up A 6 (upd (A 6) d (nI pl))) 7 (upd (A 7) d (A 3 pl))) 8 (upd (A 8) d v)) Q) := hD
    refine lv_aload_n hx hb dX10_act_123 rfl (lv_at hl 1 rfl) ?_
    refine va_get (D := (dC, dI)) (ci := 10) (v := .ref (h 3)) (C := RX10) (T := TX10) (N := 28) hx hb hts hinX10 hown hK hP 0 rfl rfl 3 (by decide) (hts (.fieldLink RX10 19 "MixedWordsModel" "told" "[I") (by decide +kernel)) (fun _ h9 => h9) rfl dX10_act_124 ?_
    refine lv_iload_n hx hb dX10_act_127 rfl (lv_at hl 2 rfl) ?_
    refine lv_iload_n hx hb dX10_act_128 rfl (lv_at hl 3 rfl) ?_
    refine xa_iast hx hb hK hP hD hS 1 0 rfl rfl (by omega) (by decide) dX10_act_129 (fun H locs hP hD hS => ?_)
    have hP : va_P (dC, dI) vwCl (rW h cs (va_up (va_up I 4 (nI (d + 1))) 5 (nI 0)) L (va_up (va_up (va_up (va_up A 6 (upd (A 6) d (nI pl))) 7 (upd (A 7) d (A 3 pl))) 8 (upd (A 8) d v)) 3 (upd (A 3) pl v)) Q) H := hP
    have hD : va_D A0 (rW h cs (va_up (va_up I 4 (nI (d + 1))) 5 (nI 0)) L (va_up (va_up (va_up (va_up A 6 (upd (A 6) d (nI pl))) 7 (upd (A 7) d (A 3 pl))) 8 (upd (A 8) d v)) 3 (upd (A 3) pl v)) Q) := hD
    refine lv_iload_n hx hb dX10_act_130 rfl (lv_at hl 0 rfl) ?_
    exact xr_i (v := (A 3 pl)) hx hb hr hlocks hK hS dX10_act_131 ((va_up (va_up I 4 (nI (d + 1))) 5 (nI 0)), L, (va_up (va_up (va_up (va_up A 3 (upd (A 3) pl v)) 6 (upd (A 6) d (nI pl))) 7 (upd (A 7) d (A 3 pl))) 8 (upd (A 8) d v)), Q) ⟨(nI (d + 1)), (nI 0), (upd (A 3) pl v), (upd (A 6) d (nI pl)), (upd (A 7) d (A 3 pl)), (upd (A 8) d v), ⟨rfl, d, by omega, by omega, rfl, rfl, rfl, act_post (fun k hk => ⟨by rw [Nat.sub_self]; rfl, by rw [Nat.sub_self]; rfl, by rw [Nat.sub_self]; rfl⟩)⟩, rfl⟩ hP hD
  · skip
    refine lv_iconst (v := nI 0) hx hb dX10_act_9 (by decide) ?_
    refine lv_istore_n (lv' := [(3, .int (nI 0)), (0, .ref (h 0)), (1, .int (nI pl)), (2, .int v)]) hx hb dX10_act_10 rfl hl (by decide) rfl (fun ls hl => ?_)
    have cut_11 : ∀ (nf : Nat) (k : Nat) (g6 : Nat → Int32) (g7 : Nat → Int32) (g8 : Nat → Int32), (39 - k) < nf → (k ≤ 39) → (∀ t : Nat, t < k → g6 t = A 6 (t + (d - 39)) ∧ g7 t = A 7 (t + (d - 39)) ∧ g8 t = A 8 (t + (d - 39))) → (∀ t : Nat, k ≤ t → g6 t = A 6 t ∧ g7 t = A 7 t ∧ g8 t = A 8 t) → ∀ (H : Heap) (locs : List Loc) (ls : Array Slot), va_P (dC, dI) vwCl (rW h cs I L (va_up (va_up (va_up A 6 g6) 7 g7) 8 g8) Q) H → va_D A0 (rW h cs I L (va_up (va_up (va_up A 6 g6) 7 g7) 8 g8) Q) → va_S A0 s.heap H locs → lv_has ls 4 [(0, .ref (h 0)), (1, .int (nI pl)), (2, .int v), (3, .int (nI k))] → W p l e (headSpec wsX10_act ({ frames := 0, cells := 0, slots := 0, locals := 0 })).room s m ([.ref (h 0), .int (nI pl), .int v] : List Value).toArray below meth c H locs 0 0 (MQ below (va_Qi (fun (r : Int32) (u : RS) => ∃ x4 : Int32, ∃ x5 : Int32, ∃ f3 : Nat → Int32, ∃ f6 : Nat → Int32, ∃ f7 : Nat → Int32, ∃ f8 : Nat → Int32, (r = A 3 pl ∧ ∃ dd : Nat, dd ≤ 39 ∧ (dd = d ∨ (d = 40 ∧ dd = 39)) ∧ x4 = nI (dd + 1) ∧ x5 = nI 0 ∧ f3 = upd (A 3) pl v ∧ actRows d pl v (A 3 pl) (A 6) (A 7) (A 8) f6 f7 f8 dd) ∧ u = ((va_up (va_up I 4 x4) 5 x5), L, (va_up (va_up (va_up (va_up A 3 f3) 6 f6) 7 f7) 8 f8), Q)) (xB (dC, dI) (tysA cs) A0 (fun u : RS => rW h cs u.1 u.2.1 u.2.2.1 u.2.2.2)) A0) ([.ref (h 0), .int (nI pl), .int v] : List Value).toArray s 0 0 A0) (F0 m 11 ls []) := by
      intro nf
      induction nf with
      | zero => intro k g6 g7 g8 hm; exact absurd hm (Nat.not_lt_zero _)
      | succ nf ih_11 =>
        intro k g6 g7 g8 hm_11 hk_11 hg_11 hh_11 H locs ls hP hD hS hl
        refine lv_iload_n hx hb dX10_act_11 rfl (lv_at hl 3 rfl) ?_
        refine lv_bipush (v := nI 39) hx hb dX10_act_12 (by decide) ?_
        refine xn_ge (tgt := 65) hx hb dX10_act_14 (by decide) (by omega) (by omega) (fun c_14_1 => ?_) (fun c_14_1 => ?_)
        · skip
          refine lv_aload_n hx hb dX10_act_65 rfl (lv_at hl 0 rfl) ?_
          refine lv_bipush (v := nI 39) hx hb dX10_act_66 (by decide) ?_
          refine va_put (D := (dC, dI)) (ci := 10) (v := .int (nI 39)) (ty := .int) (C := RX10) (T := TX10) (N := 28) hx hb hts hinX10 tyX10 tyX10_ok nmX10 hown hK hP hD hS 0 rfl rfl 4 (by decide) (hts (.fieldLink RX10 69 "MixedWordsModel" "done" "I") (by decide +kernel)) (fun _ h9 => h9) rfl (by decide +kernel) rfl rfl (Nat.le_of_ble_eq_true rfl) dX10_act_68 (fun H locs hP hD hS => ?_)
          have hP : va_P (dC, dI) vwCl (rW h cs (va_up I 4 (nI 39)) L (va_up (va_up (va_up A 6 g6) 7 g7) 8 g8) Q) H := hP
          have hD : va_D A0 (rW h cs (va_up I 4 (nI 39)) L (va_up (va_up (va_up A 6 g6) 7 g7) 8 g8) Q) := hD
          refine lv_aload_n hx hb dX10_act_71 rfl (lv_at hl 0 rfl) ?_
          refine va_get (D := (dC, dI)) (ci := 10) (v := .ref (h 3)) (C := RX10) (T := TX10) (N := 28) hx hb hts hinX10 hown hK hP 0 rfl rfl 3 (by decide) (hts (.fieldLink RX10 19 "MixedWordsModel" "told" "[I") (by decide +kernel)) (fun _ h9 => h9) rfl dX10_act_72 ?_
          refine lv_iload_n hx hb dX10_act_75 rfl (lv_at hl 1 rfl) ?_
          refine xa_iald hx hb hK hP 1 0 rfl rfl (by omega) (by decide) dX10_act_76 ?_
          refine lv_istore_n (lv' := [(3, .int (A 3 pl)), (0, .ref (h 0)), (1, .int (nI pl)), (2, .int v)]) hx hb dX10_act_77 rfl hl (by decide) rfl (fun ls hl => ?_)
          refine lv_aload_n hx hb dX10_act_78 rfl (lv_at hl 1 rfl) ?_
          refine va_get (D := (dC, dI)) (ci := 10) (v := .ref (h 6)) (C := RX10) (T := TX10) (N := 28) hx hb hts hinX10 hown hK hP 0 rfl rfl 6 (by decide) (hts (.fieldLink RX10 23 "MixedWordsModel" "actPlace" "[I") (by decide +kernel)) (fun _ h9 => h9) rfl dX10_act_79 ?_
          refine lv_aload_n hx hb dX10_act_82 rfl (lv_at hl 1 rfl) ?_
          refine va_get (D := (dC, dI)) (ci := 10) (v := .int (nI 39)) (C := RX10) (T := TX10) (N := 28) hx hb hts hinX10 hown hK hP 0 rfl rfl 4 (by decide) (hts (.fieldLink RX10 69 "MixedWordsModel" "done" "I") (by decide +kernel)) (fun _ h9 => h9) rfl dX10_act_83 ?_
          refine lv_iload_n hx hb dX10_act_86 rfl (lv_at hl 2 rfl) ?_
          refine xa_iast hx hb hK hP hD hS 2 0 rfl rfl (by omega) (by decide) dX10_act_87 (fun H locs hP hD hS => ?_)
          have hP : va_P (dC, dI) vwCl (rW h cs (va_up I 4 (nI 39)) L (va_up (va_up (va_up A 7 g7) 8 g8) 6 (upd g6 39 (nI pl))) Q) H := hP
          have hD : va_D A0 (rW h cs (va_up I 4 (nI 39)) L (va_up (va_up (va_up A 7 g7) 8 g8) 6 (upd g6 39 (nI pl))) Q) := hD
          refine lv_aload_n hx hb dX10_act_88 rfl (lv_at hl 1 rfl) ?_
          refine va_get (D := (dC, dI)) (ci := 10) (v := .ref (h 7)) (C := RX10) (T := TX10) (N := 28) hx hb hts hinX10 hown hK hP 0 rfl rfl 7 (by decide) (hts (.fieldLink RX10 26 "MixedWordsModel" "actWas" "[I") (by decide +kernel)) (fun _ h9 => h9) rfl dX10_act_89 ?_
          refine lv_aload_n hx hb dX10_act_92 rfl (lv_at hl 1 rfl) ?_
          refine va_get (D := (dC, dI)) (ci := 10) (v := .int (nI 39)) (C := RX10) (T := TX10) (N := 28) hx hb hts hinX10 hown hK hP 0 rfl rfl 4 (by decide) (hts (.fieldLink RX10 69 "MixedWordsModel" "done" "I") (by decide +kernel)) (fun _ h9 => h9) rfl dX10_act_93 ?_
          refine lv_iload_n hx hb dX10_act_96 rfl (lv_at hl 0 rfl) ?_
          refine xa_iast hx hb hK hP hD hS 3 0 rfl rfl (by omega) (by decide) dX10_act_97 (fun H locs hP hD hS => ?_)
          have hP : va_P (dC, dI) vwCl (rW h cs (va_up I 4 (nI 39)) L (va_up (va_up (va_up A 8 g8) 6 (upd g6 39 (nI pl))) 7 (upd g7 39 (A 3 pl))) Q) H := hP
          have hD : va_D A0 (rW h cs (va_up I 4 (nI 39)) L (va_up (va_up (va_up A 8 g8) 6 (upd g6 39 (nI pl))) 7 (upd g7 39 (A 3 pl))) Q) := hD
          refine lv_aload_n hx hb dX10_act_98 rfl (lv_at hl 1 rfl) ?_
          refine va_get (D := (dC, dI)) (ci := 10) (v := .ref (h 8)) (C := RX10) (T := TX10) (N := 28) hx hb hts hinX10 hown hK hP 0 rfl rfl 8 (by decide) (hts (.fieldLink RX10 29 "MixedWordsModel" "actIs" "[I") (by decide +kernel)) (fun _ h9 => h9) rfl dX10_act_99 ?_
          refine lv_aload_n hx hb dX10_act_102 rfl (lv_at hl 1 rfl) ?_
          refine va_get (D := (dC, dI)) (ci := 10) (v := .int (nI 39)) (C := RX10) (T := TX10) (N := 28) hx hb hts hinX10 hown hK hP 0 rfl rfl 4 (by decide) (hts (.fieldLink RX10 69 "MixedWordsModel" "done" "I") (by decide +kernel)) (fun _ h9 => h9) rfl dX10_act_103 ?_
          refine lv_iload_n hx hb dX10_act_106 rfl (lv_at hl 3 rfl) ?_
          refine xa_iast hx hb hK hP hD hS 4 0 rfl rfl (by omega) (by decide) dX10_act_107 (fun H locs hP hD hS => ?_)
          have hP : va_P (dC, dI) vwCl (rW h cs (va_up I 4 (nI 39)) L (va_up (va_up (va_up A 6 (upd g6 39 (nI pl))) 7 (upd g7 39 (A 3 pl))) 8 (upd g8 39 v)) Q) H := hP
          have hD : va_D A0 (rW h cs (va_up I 4 (nI 39)) L (va_up (va_up (va_up A 6 (upd g6 39 (nI pl))) 7 (upd g7 39 (A 3 pl))) 8 (upd g8 39 v)) Q) := hD
          refine lv_aload_n hx hb dX10_act_108 rfl (lv_at hl 1 rfl) ?_
          refine lv_dup hx hb dX10_act_109 rfl ?_
          refine va_get (D := (dC, dI)) (ci := 10) (v := .int (nI 39)) (C := RX10) (T := TX10) (N := 28) hx hb hts hinX10 hown hK hP 0 rfl rfl 4 (by decide) (hts (.fieldLink RX10 69 "MixedWordsModel" "done" "I") (by decide +kernel)) (fun _ h9 => h9) rfl dX10_act_110 ?_
          refine lv_iconst (v := nI 1) hx hb dX10_act_113 (by decide) ?_
          refine lv_iadd hx hb dX10_act_114 ?_
          refine xt_i (y := nI 40) (nI_add _ _) ?_
          refine va_put (D := (dC, dI)) (ci := 10) (v := .int (nI 40)) (ty := .int) (C := RX10) (T := TX10) (N := 28) hx hb hts hinX10 tyX10 tyX10_ok nmX10 hown hK hP hD hS 0 rfl rfl 4 (by decide) (hts (.fieldLink RX10 69 "MixedWordsModel" "done" "I") (by decide +kernel)) (fun _ h9 => h9) rfl (by decide +kernel) rfl rfl (Nat.le_of_ble_eq_true rfl) dX10_act_115 (fun H locs hP hD hS => ?_)
          have hP : va_P (dC, dI) vwCl (rW h cs (va_up I 4 (nI 40)) L (va_up (va_up (va_up A 6 (upd g6 39 (nI pl))) 7 (upd g7 39 (A 3 pl))) 8 (upd g8 39 v)) Q) H := hP
          have hD : va_D A0 (rW h cs (va_up I 4 (nI 40)) L (va_up (va_up (va_up A 6 (upd g6 39 (nI pl))) 7 (upd g7 39 (A 3 pl))) 8 (upd g8 39 v)) Q) := hD
          refine lv_aload_n hx hb dX10_act_118 rfl (lv_at hl 1 rfl) ?_
          refine lv_iconst (v := nI 0) hx hb dX10_act_119 (by decide) ?_
          refine va_put (D := (dC, dI)) (ci := 10) (v := .int (nI 0)) (ty := .int) (C := RX10) (T := TX10) (N := 28) hx hb hts hinX10 tyX10 tyX10_ok nmX10 hown hK hP hD hS 0 rfl rfl 5 (by decide) (hts (.fieldLink RX10 72 "MixedWordsModel" "undone" "I") (by decide +kernel)) (fun _ h9 => h9) rfl (by decide +kernel) rfl rfl (Nat.le_of_ble_eq_true rfl) dX10_act_120 (fun H locs hP hD hS => ?_)
          have hP : va_P (dC, dI) vwCl (rW h cs (va_up (va_up I 4 (nI 40)) 5 (nI 0)) L (va_up (va_up (va_up A 6 (upd g6 39 (nI pl))) 7 (upd g7 39 (A 3 pl))) 8 (upd g8 39 v)) Q) H := hP
          have hD : va_D A0 (rW h cs (va_up (va_up I 4 (nI 40)) 5 (nI 0)) L (va_up (va_up (va_up A 6 (upd g6 39 (nI pl))) 7 (upd g7 39 (A 3 pl))) 8 (upd g8 39 v)) Q) := hD
          refine lv_aload_n hx hb dX10_act_123 rfl (lv_at hl 1 rfl) ?_
          refine va_get (D := (dC, dI)) (ci := 10) (v := .ref (h 3)) (C := RX10) (T := TX10) (N := 28) hx hb hts hinX10 hown hK hP 0 rfl rfl 3 (by decide) (hts (.fieldLink RX10 19 "MixedWordsModel" "told" "[I") (by decide +kernel)) (fun _ h9 => h9) rfl dX10_act_124 ?_
          refine lv_iload_n hx hb dX10_act_127 rfl (lv_at hl 2 rfl) ?_
          refine lv_iload_n hx hb dX10_act_128 rfl (lv_at hl 3 rfl) ?_
          refine xa_iast hx hb hK hP hD hS 1 0 rfl rfl (by omega) (by decide) dX10_act_129 (fun H locs hP hD hS => ?_)
          have hP : va_P (dC, dI) vwCl (rW h cs (va_up (va_up I 4 (nI 40)) 5 (nI 0)) L (va_up (va_up (va_up (va_up A 6 (upd g6 39 (nI pl))) 7 (upd g7 39 (A 3 pl))) 8 (upd g8 39 v)) 3 (upd (A 3) pl v)) Q) H := hP
          have hD : va_D A0 (rW h cs (va_up (va_up I 4 (nI 40)) 5 (nI 0)) L (va_up (va_up (va_up (va_up A 6 (upd g6 39 (nI pl))) 7 (upd g7 39 (A 3 pl))) 8 (upd g8 39 v)) 3 (upd (A 3) pl v)) Q) := hD
          refine lv_iload_n hx hb dX10_act_130 rfl (lv_at hl 0 rfl) ?_
          exact xr_i (v := (A 3 pl)) hx hb hr hlocks hK hS dX10_act_131 ((va_up (va_up I 4 (nI 40)) 5 (nI 0)), L, (va_up (va_up (va_up (va_up A 3 (upd (A 3) pl v)) 6 (upd g6 39 (nI pl))) 7 (upd g7 39 (A 3 pl))) 8 (upd g8 39 v)), Q) ⟨(nI 40), (nI 0), (upd (A 3) pl v), (upd g6 39 (nI pl)), (upd g7 39 (A 3 pl)), (upd g8 39 v), ⟨rfl, 39, by omega, by omega, rfl, rfl, rfl, act_post (fun k hk => (hg_11 k (by omega)))⟩, rfl⟩ hP hD
        · skip
          refine lv_aload_n hx hb dX10_act_17 rfl (lv_at hl 0 rfl) ?_
          refine va_get (D := (dC, dI)) (ci := 10) (v := .ref (h 6)) (C := RX10) (T := TX10) (N := 28) hx hb hts hinX10 hown hK hP 0 rfl rfl 6 (by decide) (hts (.fieldLink RX10 23 "MixedWordsModel" "actPlace" "[I") (by decide +kernel)) (fun _ h9 => h9) rfl dX10_act_18 ?_
          refine lv_iload_n hx hb dX10_act_21 rfl (lv_at hl 3 rfl) ?_
          refine lv_aload_n hx hb dX10_act_22 rfl (lv_at hl 0 rfl) ?_
          refine va_get (D := (dC, dI)) (ci := 10) (v := .ref (h 6)) (C := RX10) (T := TX10) (N := 28) hx hb hts hinX10 hown hK hP 0 rfl rfl 6 (by decide) (hts (.fieldLink RX10 23 "MixedWordsModel" "actPlace" "[I") (by decide +kernel)) (fun _ h9 => h9) rfl dX10_act_23 ?_
          refine lv_iload_n hx hb dX10_act_26 rfl (lv_at hl 3 rfl) ?_
          refine lv_iconst (v := nI 1) hx hb dX10_act_27 (by decide) ?_
          refine lv_iadd hx hb dX10_act_28 ?_
          refine xt_i (y := nI (k + 1)) (nI_add _ _) ?_
          refine xa_iald hx hb hK hP 2 0 rfl rfl (by omega) (by decide) dX10_act_29 ?_
          refine xa_iast hx hb hK hP hD hS 2 0 rfl rfl (by omega) (by decide) dX10_act_30 (fun H locs hP hD hS => ?_)
          have hP : va_P (dC, dI) vwCl (rW h cs I L (va_up (va_up (va_up A 7 g7) 8 g8) 6 (upd g6 k (g6 (k + 1)))) Q) H := hP
          have hD : va_D A0 (rW h cs I L (va_up (va_up (va_up A 7 g7) 8 g8) 6 (upd g6 k (g6 (k + 1)))) Q) := hD
          refine lv_aload_n hx hb dX10_act_31 rfl (lv_at hl 0 rfl) ?_
          refine va_get (D := (dC, dI)) (ci := 10) (v := .ref (h 7)) (C := RX10) (T := TX10) (N := 28) hx hb hts hinX10 hown hK hP 0 rfl rfl 7 (by decide) (hts (.fieldLink RX10 26 "MixedWordsModel" "actWas" "[I") (by decide +kernel)) (fun _ h9 => h9) rfl dX10_act_32 ?_
          refine lv_iload_n hx hb dX10_act_35 rfl (lv_at hl 3 rfl) ?_
          refine lv_aload_n hx hb dX10_act_36 rfl (lv_at hl 0 rfl) ?_
          refine va_get (D := (dC, dI)) (ci := 10) (v := .ref (h 7)) (C := RX10) (T := TX10) (N := 28) hx hb hts hinX10 hown hK hP 0 rfl rfl 7 (by decide) (hts (.fieldLink RX10 26 "MixedWordsModel" "actWas" "[I") (by decide +kernel)) (fun _ h9 => h9) rfl dX10_act_37 ?_
          refine lv_iload_n hx hb dX10_act_40 rfl (lv_at hl 3 rfl) ?_
          refine lv_iconst (v := nI 1) hx hb dX10_act_41 (by decide) ?_
          refine lv_iadd hx hb dX10_act_42 ?_
          refine xt_i (y := nI (k + 1)) (nI_add _ _) ?_
          refine xa_iald hx hb hK hP 3 0 rfl rfl (by omega) (by decide) dX10_act_43 ?_
          refine xa_iast hx hb hK hP hD hS 3 0 rfl rfl (by omega) (by decide) dX10_act_44 (fun H locs hP hD hS => ?_)
          have hP : va_P (dC, dI) vwCl (rW h cs I L (va_up (va_up (va_up A 8 g8) 6 (upd g6 k (g6 (k + 1)))) 7 (upd g7 k (g7 (k + 1)))) Q) H := hP
          have hD : va_D A0 (rW h cs I L (va_up (va_up (va_up A 8 g8) 6 (upd g6 k (g6 (k + 1)))) 7 (upd g7 k (g7 (k + 1)))) Q) := hD
          refine lv_aload_n hx hb dX10_act_45 rfl (lv_at hl 0 rfl) ?_
          refine va_get (D := (dC, dI)) (ci := 10) (v := .ref (h 8)) (C := RX10) (T := TX10) (N := 28) hx hb hts hinX10 hown hK hP 0 rfl rfl 8 (by decide) (hts (.fieldLink RX10 29 "MixedWordsModel" "actIs" "[I") (by decide +kernel)) (fun _ h9 => h9) rfl dX10_act_46 ?_
          refine lv_iload_n hx hb dX10_act_49 rfl (lv_at hl 3 rfl) ?_
          refine lv_aload_n hx hb dX10_act_50 rfl (lv_at hl 0 rfl) ?_
          refine va_get (D := (dC, dI)) (ci := 10) (v := .ref (h 8)) (C := RX10) (T := TX10) (N := 28) hx hb hts hinX10 hown hK hP 0 rfl rfl 8 (by decide) (hts (.fieldLink RX10 29 "MixedWordsModel" "actIs" "[I") (by decide +kernel)) (fun _ h9 => h9) rfl dX10_act_51 ?_
          refine lv_iload_n hx hb dX10_act_54 rfl (lv_at hl 3 rfl) ?_
          refine lv_iconst (v := nI 1) hx hb dX10_act_55 (by decide) ?_
          refine lv_iadd hx hb dX10_act_56 ?_
          refine xt_i (y := nI (k + 1)) (nI_add _ _) ?_
          refine xa_iald hx hb hK hP 4 0 rfl rfl (by omega) (by decide) dX10_act_57 ?_
          refine xa_iast hx hb hK hP hD hS 4 0 rfl rfl (by omega) (by decide) dX10_act_58 (fun H locs hP hD hS => ?_)
          have hP : va_P (dC, dI) vwCl (rW h cs I L (va_up (va_up (va_up A 6 (upd g6 k (g6 (k + 1)))) 7 (upd g7 k (g7 (k + 1)))) 8 (upd g8 k (g8 (k + 1)))) Q) H := hP
          have hD : va_D A0 (rW h cs I L (va_up (va_up (va_up A 6 (upd g6 k (g6 (k + 1)))) 7 (upd g7 k (g7 (k + 1)))) 8 (upd g8 k (g8 (k + 1)))) Q) := hD
          refine lv_iinc (v := nI (k + 1)) (lv' := [(3, .int (nI (k + 1))), (0, .ref (h 0)), (1, .int (nI pl)), (2, .int v)]) hx hb dX10_act_59 hl (k := 3) rfl (nI_1 _) (by decide) rfl (fun ls hl => ?_)
          refine lv_goto (tgt := 11) hx hb dX10_act_62 (by decide) ?_
          exact ih_11 (k + 1) (upd g6 k (g6 (k + 1))) (upd g7 k (g7 (k + 1))) (upd g8 k (g8 (k + 1))) (by omega) (by first | assumption | omega) (by first | exact (fun t ht => absurd ht (Nat.not_lt_zero t)) | exact act_lt (by omega) hg_11 hh_11) (by first | exact (fun t _ => ⟨rfl, rfl, rfl⟩) | exact act_ge hh_11) _ _ _ hP hD hS (lv_sub hl [1, 2, 3, 0] rfl)
    exact cut_11 _ 0 (A 6) (A 7) (A 8) (Nat.lt_succ_self _) (by first | assumption | omega) (by first | exact (fun t ht => absurd ht (Nat.not_lt_zero t)) | exact act_lt (by omega) hg_11 hh_11) (by first | exact (fun t _ => ⟨rfl, rfl, rfl⟩) | exact act_ge hh_11) _ _ _ hP hD hS (lv_sub hl [1, 2, 3, 0] rfl)
set_option maxRecDepth 20000 in
theorem ggX10_set_X10_isRow : GoodIn wsX10_set wsX10_isRow := goodIn_r _ [7, 8, 9, 10, 6, 11, 31, 32, 33, 34, 35, 36, 37, 38, 39, 40, 41, 42, 43, 44, 45, 46, 47, 48, 49, 50, 51, 52, 53, 54, 55, 56, 57, 58] rfl (by decide +kernel)
set_option maxRecDepth 20000 in
theorem gX10_set_X10_isRow : GoodIn wsX10_set (wsV RX10 86 RX10 yX10_isRow wsX10_isRow) := goodIn_app (goodIn_of _ (by decide +kernel)) ggX10_set_X10_isRow
set_option maxRecDepth 20000 in
theorem ggX10_set_X10_isColumn : GoodIn wsX10_set wsX10_isColumn := goodIn_r _ [15, 16, 9, 10, 6, 11, 31, 32, 33, 34, 35, 36, 37, 38, 39, 40, 41, 42, 43, 44, 45, 46, 47, 48, 49, 50, 51, 52, 53, 54, 55, 56, 57, 58] rfl (by decide +kernel)
set_option maxRecDepth 20000 in
theorem gX10_set_X10_isColumn : GoodIn wsX10_set (wsV RX10 90 RX10 yX10_isColumn wsX10_isColumn) := goodIn_app (goodIn_of _ (by decide +kernel)) ggX10_set_X10_isColumn
set_option maxRecDepth 20000 in
theorem ggX10_set_X10_in : GoodIn wsX10_set wsX10_in := goodIn_r _ [11] rfl (by decide +kernel)
set_option maxRecDepth 20000 in
theorem gX10_set_X10_in : GoodIn wsX10_set (va_wsS RX10 77 yX10_in wsX10_in) := goodIn_app (goodIn_of _ (by decide +kernel)) ggX10_set_X10_in
set_option maxRecDepth 20000 in
theorem ggX10_set_X10_place : GoodIn wsX10_set wsX10_place := goodIn_r _ [20, 16, 31, 32, 33, 34, 35, 36, 37, 38, 39, 40, 41, 42, 43, 44, 45, 46, 47, 48, 49, 50, 51, 52, 53, 54, 55, 56, 57, 58] rfl (by decide +kernel)
set_option maxRecDepth 20000 in
theorem gX10_set_X10_place : GoodIn wsX10_set (wsV RX10 97 RX10 yX10_place wsX10_place) := goodIn_app (goodIn_of _ (by decide +kernel)) ggX10_set_X10_place
set_option maxRecDepth 20000 in
theorem ggX10_set_X10_act : GoodIn wsX10_set wsX10_act := goodIn_r _ [24, 25, 26, 27, 28, 29, 30, 31, 32, 33, 34, 35, 36, 37, 38, 39, 40, 41, 42, 43, 44, 45, 46, 47, 48, 49, 50, 51, 52, 53, 54, 55, 56, 57, 58] rfl (by decide +kernel)
set_option maxRecDepth 20000 in
theorem gX10_set_X10_act : GoodIn wsX10_set (wsV RX10 101 RX10 yX10_act wsX10_act) := goodIn_app (goodIn_of _ (by decide +kernel)) ggX10_set_X10_act
theorem bdX10_set_0 : (decode cX10_set 0 = .ok (.aload_n 0, 1)) ∧ (decode cX10_set 1 = .ok (.iload_n 1, 1)) ∧ (decode cX10_set 2 = .ok (.invokevirtual 86, 3)) ∧ (decode cX10_set 5 = .ok (.ifCond .eq 25, 3)) ∧ (decode cX10_set 8 = .ok (.aload_n 0, 1)) ∧ (decode cX10_set 9 = .ok (.iload_n 2, 1)) ∧ (decode cX10_set 10 = .ok (.invokevirtual 90, 3)) ∧ (decode cX10_set 13 = .ok (.ifCond .eq 17, 3)) ∧ (decode cX10_set 16 = .ok (.iload_n 3, 1)) ∧ (decode cX10_set 17 = .ok (.i2l, 1)) ∧ (decode cX10_set 18 = .ok (.ldc2_w 93, 3)) ∧ (decode cX10_set 21 = .ok (.ldc2_w 95, 3)) ∧ (decode cX10_set 24 = .ok (.invokestatic 77, 3)) ∧ (decode cX10_set 27 = .ok (.ifCond .ne 6, 3)) ∧ (decode cX10_set 30 = .ok (.bipush (-101), 2)) ∧ (decode cX10_set 32 = .ok (.ireturn, 1)) := by decide +kernel
theorem dX10_set_0 : decode cX10_set 0 = .ok (.aload_n 0, 1) := bdX10_set_0.1
theorem dX10_set_1 : decode cX10_set 1 = .ok (.iload_n 1, 1) := bdX10_set_0.2.1
theorem dX10_set_2 : decode cX10_set 2 = .ok (.invokevirtual 86, 3) := bdX10_set_0.2.2.1
theorem dX10_set_5 : decode cX10_set 5 = .ok (.ifCond .eq 25, 3) := bdX10_set_0.2.2.2.1
theorem dX10_set_8 : decode cX10_set 8 = .ok (.aload_n 0, 1) := bdX10_set_0.2.2.2.2.1
theorem dX10_set_9 : decode cX10_set 9 = .ok (.iload_n 2, 1) := bdX10_set_0.2.2.2.2.2.1
theorem dX10_set_10 : decode cX10_set 10 = .ok (.invokevirtual 90, 3) := bdX10_set_0.2.2.2.2.2.2.1
theorem dX10_set_13 : decode cX10_set 13 = .ok (.ifCond .eq 17, 3) := bdX10_set_0.2.2.2.2.2.2.2.1
theorem dX10_set_16 : decode cX10_set 16 = .ok (.iload_n 3, 1) := bdX10_set_0.2.2.2.2.2.2.2.2.1
theorem dX10_set_17 : decode cX10_set 17 = .ok (.i2l, 1) := bdX10_set_0.2.2.2.2.2.2.2.2.2.1
theorem dX10_set_18 : decode cX10_set 18 = .ok (.ldc2_w 93, 3) := bdX10_set_0.2.2.2.2.2.2.2.2.2.2.1
theorem dX10_set_21 : decode cX10_set 21 = .ok (.ldc2_w 95, 3) := bdX10_set_0.2.2.2.2.2.2.2.2.2.2.2.1
theorem dX10_set_24 : decode cX10_set 24 = .ok (.invokestatic 77, 3) := bdX10_set_0.2.2.2.2.2.2.2.2.2.2.2.2.1
theorem dX10_set_27 : decode cX10_set 27 = .ok (.ifCond .ne 6, 3) := bdX10_set_0.2.2.2.2.2.2.2.2.2.2.2.2.2.1
theorem dX10_set_30 : decode cX10_set 30 = .ok (.bipush (-101), 2) := bdX10_set_0.2.2.2.2.2.2.2.2.2.2.2.2.2.2.1
theorem dX10_set_32 : decode cX10_set 32 = .ok (.ireturn, 1) := bdX10_set_0.2.2.2.2.2.2.2.2.2.2.2.2.2.2.2
theorem bdX10_set_33 : (decode cX10_set 33 = .ok (.aload_n 0, 1)) ∧ (decode cX10_set 34 = .ok (.aload_n 0, 1)) ∧ (decode cX10_set 35 = .ok (.iload_n 1, 1)) ∧ (decode cX10_set 36 = .ok (.iload_n 2, 1)) ∧ (decode cX10_set 37 = .ok (.invokevirtual 97, 3)) ∧ (decode cX10_set 40 = .ok (.iload_n 3, 1)) ∧ (decode cX10_set 41 = .ok (.invokevirtual 101, 3)) ∧ (decode cX10_set 44 = .ok (.ireturn, 1)) := by decide +kernel
theorem dX10_set_33 : decode cX10_set 33 = .ok (.aload_n 0, 1) := bdX10_set_33.1
theorem dX10_set_34 : decode cX10_set 34 = .ok (.aload_n 0, 1) := bdX10_set_33.2.1
theorem dX10_set_35 : decode cX10_set 35 = .ok (.iload_n 1, 1) := bdX10_set_33.2.2.1
theorem dX10_set_36 : decode cX10_set 36 = .ok (.iload_n 2, 1) := bdX10_set_33.2.2.2.1
theorem dX10_set_37 : decode cX10_set 37 = .ok (.invokevirtual 97, 3) := bdX10_set_33.2.2.2.2.1
theorem dX10_set_40 : decode cX10_set 40 = .ok (.iload_n 3, 1) := bdX10_set_33.2.2.2.2.2.1
theorem dX10_set_41 : decode cX10_set 41 = .ok (.invokevirtual 101, 3) := bdX10_set_33.2.2.2.2.2.2.1
theorem dX10_set_44 : decode cX10_set 44 = .ok (.ireturn, 1) := bdX10_set_33.2.2.2.2.2.2.2
set_option maxHeartbeats 4000000 in
set_option maxRecDepth 100000 in
theorem k_X10_set (l : Launch) (dC : Nat → ClassId) (dI : Nat → Nat → Nat) (h : Nat → Nat) (cs : Nat → ClassId) (sz : Nat) (I : Nat → Int32) (L : Nat → Int64) (A : Nat → Nat → Int32) (Q : Nat → Nat → Int64) (x y v : Int32) (R M d : Nat) (hR : I 0 = nI R) (hR1 : 1 ≤ R) (hR5 : R ≤ 5) (hM : I 1 = nI M) (hM1 : 1 ≤ M) (hM4 : M ≤ 4) (hd : I 4 = nI d) (hd4 : d ≤ 40) : Met l yX10_set wsX10_set ({ frames := 2, cells := 0, slots := 0, locals := 46 }) (va_Pc [.ref (h 0), .int x, .int y, .int v] (xPre (dC, dI) (rW h cs I L A Q) (tysA cs) sz)) (va_Qi (fun (r : Int32) (u : RS) => ∃ x4 : Int32, ∃ x5 : Int32, ∃ f3 : Nat → Int32, ∃ f6 : Nat → Int32, ∃ f7 : Nat → Int32, ∃ f8 : Nat → Int32, ((∃ i j : Nat, i < R ∧ j < M ∧ x = nI i ∧ y = nI j ∧ (-9 ≤ v.toInt ∧ v.toInt ≤ 9) ∧ r = A 3 (plc M i j) ∧ ∃ dd : Nat, dd ≤ 39 ∧ (dd = d ∨ (d = 40 ∧ dd = 39)) ∧ x4 = nI (dd + 1) ∧ x5 = nI 0 ∧ f3 = upd (A 3) (plc M i j) v ∧ actRows d (plc M i j) v (A 3 (plc M i j)) (A 6) (A 7) (A 8) f6 f7 f8 dd) ∨ (r = -101 ∧ (∀ i j : Nat, i < R → j < M → x = nI i → y = nI j → (-9 ≤ v.toInt ∧ v.toInt ≤ 9) → False) ∧ x4 = I 4 ∧ x5 = I 5 ∧ f3 = A 3 ∧ f6 = A 6 ∧ f7 = A 7 ∧ f8 = A 8)) ∧ u = ((va_up (va_up I 4 x4) 5 x5), L, (va_up (va_up (va_up (va_up A 3 f3) 6 f6) 7 f7) 8 f8), Q)) (xB (dC, dI) (tysA cs) (va_A (rW h cs I L A Q) sz) (fun u : RS => rW h cs u.1 u.2.1 u.2.2.1 u.2.2.2)) (va_A (rW h cs I L A Q) sz)) 0 0 (va_A (rW h cs I L A Q) sz) := by
  refine Met.ofW (cc := cX10_set) (maxL := 4) (ret := (some .int)) (by decide) rfl ?_
  intro p e s m args below meth c s₁ B hml hv
  obtain ⟨rfl, hsz, hP, hK, hD0, hN⟩ := hv
  have hx := B.exec
  have hb := B.bytes
  have hr := B.returns
  have hts := atoms_spec (ws := wsX10_set) B.pre
  have hown : s.vm.findClass RX10 = some m.cls := findClass_of_methodNamed B.named
  have hlocks := B.notSynchronized
  subst hsz
  have hD := hD0.self (sz := s.heap.size)
  generalize hAe : va_A (rW h cs I L A Q) s.heap.size = A0 at hD ⊢
  have hA : ∀ q : Nat, s.heap.size ≤ q → A0 q := fun q h => by rw [← hAe]; exact Or.inr h
  have hl := lv_entry ([.ref (h 0), .int x, .int y, .int v]) (n := 4) (Nat.le_of_ble_eq_true rfl)
  rw [lg_entry_eq]
  generalize (lg_sl ([.ref (h 0), .int x, .int y, .int v]) ++ List.replicate (4 - (lg_sl ([.ref (h 0), .int x, .int y, .int v])).length) Slot.unset).toArray = ls at hl ⊢
  have hl : lv_has ls 4 [(0, .ref (h 0)), (1, .int x), (2, .int y), (3, .int v)] := hl
  generalize hH : s.heap = H at hP ⊢
  have hS : va_S A0 s.heap H [] := by rw [← hH]; exact va_S.rf
  refine lv_aload_n hx hb dX10_set_0 rfl (lv_at hl 0 rfl) ?_
  refine lv_iload_n hx hb dX10_set_1 rfl (lv_at hl 1 rfl) ?_
  refine xj_i (wc := (rW h cs I L A Q)) (wr := ([] : va_W)) hP hD hS hA [0, 1, 2, 3, 4, 5, 6, 7, 8, 9, 10, 11, 12, 13, 14, 15, 16] [] rfl rfl (by decide +kernel) (by decide +kernel) (va_runV (As := [.int x]) (rest := []) ⟨hx, hb, hml, hown, hts⟩ (k_X10_isRow l dC dI h cs H.size I L A Q x R hR (by first | assumption | omega | exact hR1) (by first | assumption | omega | exact hR5)) (cwV 1 hts gX10_set_X10_isRow rfl rfl rfl (by decide +kernel) ⟨Nat.le_of_ble_eq_true rfl, Nat.le_of_ble_eq_true rfl⟩) (xpV (wc := (rW h cs I L A Q)) hP hD hK hN [0, 1, 2, 3, 4, 5, 6, 7, 8, 9, 10, 11, 12, 13, 14, 15, 16] rfl (by decide) 0 (ci := 10) rfl rfl _) rfl rfl hl.1 rfl (lv_room (Nat.le_of_ble_eq_true rfl)) dX10_set_2 ⟨Nat.zero_le _, Nat.zero_le _⟩) (fun r_2 u_1 H locs hw hP hD hS => ?_)
  obtain ⟨hf_3, rfl⟩ := hw
  have hP : va_P (dC, dI) vwCl (rW h cs I L A Q) H := hP
  have hD : va_D A0 (rW h cs I L A Q) := hD
  rcases hf_3 with ⟨rfl, i_4, hi_5, hx_6⟩ | ⟨rfl, hn_7⟩
  · skip
    rw [hx_6] at hl
    refine xs_eqF (tgt := 30) hx hb dX10_set_5 (by decide) (by decide) ?_
    refine lv_aload_n hx hb dX10_set_8 rfl (lv_at hl 0 rfl) ?_
    refine lv_iload_n hx hb dX10_set_9 rfl (lv_at hl 2 rfl) ?_
    refine xj_i (wc := (rW h cs I L A Q)) (wr := ([] : va_W)) hP hD hS hA [0, 1, 2, 3, 4, 5, 6, 7, 8, 9, 10, 11, 12, 13, 14, 15, 16] [] rfl rfl (by decide +kernel) (by decide +kernel) (va_runV (As := [.int y]) (rest := []) ⟨hx, hb, hml, hown, hts⟩ (k_X10_isColumn l dC dI h cs H.size I L A Q y M hM (by first | assumption | omega | exact hM1) (by first | assumption | omega | exact hM4)) (cwV 1 hts gX10_set_X10_isColumn rfl rfl rfl (by decide +kernel) ⟨Nat.le_of_ble_eq_true rfl, Nat.le_of_ble_eq_true rfl⟩) (xpV (wc := (rW h cs I L A Q)) hP hD hK hN [0, 1, 2, 3, 4, 5, 6, 7, 8, 9, 10, 11, 12, 13, 14, 15, 16] rfl (by decide) 0 (ci := 10) rfl rfl _) rfl rfl hl.1 rfl (lv_room (Nat.le_of_ble_eq_true rfl)) dX10_set_10 ⟨Nat.zero_le _, Nat.zero_le _⟩) (fun r_10 u_9 H locs hw hP hD hS => ?_)
    obtain ⟨hf_11, rfl⟩ := hw
    have hP : va_P (dC, dI) vwCl (rW h cs I L A Q) H := hP
    have hD : va_D A0 (rW h cs I L A Q) := hD
    rcases hf_11 with ⟨rfl, i_12, hi_13, hx_14⟩ | ⟨rfl, hn_15⟩
    · skip
      rw [hx_14] at hl
      refine xs_eqF (tgt := 30) hx hb dX10_set_13 (by decide) (by decide) ?_
      refine lv_iload_n hx hb dX10_set_16 rfl (lv_at hl 3 rfl) ?_
      refine lv_i2l (v := v.toInt64) hx hb dX10_set_17 rfl ?_
      refine lv_ldc2 (v := (-9)) hx hb hown (hts (.constantLong RX10 93 (-9)) (by decide +kernel)) dX10_set_18 ?_
      refine lv_ldc2 (v := 9) hx hb hown (hts (.constantLong RX10 95 (9)) (by decide +kernel)) dX10_set_21 ?_
      refine xj_i (wc := ([] : va_W)) (wr := (rW h cs I L A Q)) hP hD hS hA [] [0, 1, 2, 3, 4, 5, 6, 7, 8, 9, 10, 11, 12, 13, 14, 15, 16] rfl rfl (by decide +kernel) (by decide +kernel) (va_runS (As := [.long v.toInt64, .long (-9 : Int64), .long (9 : Int64)]) (rest := []) ⟨hx, hb, hml, hown, hts⟩ (k_X10_in l dC dI h cs H.size I L A Q v.toInt64 (-9 : Int64) (9 : Int64)) (va_cwS 3 hts gX10_set_X10_in rfl rfl rfl (by decide +kernel) ⟨Nat.le_of_ble_eq_true rfl, Nat.le_of_ble_eq_true rfl⟩) (xpS (wc := ([] : va_W)) hP hD hK hN [] rfl (by decide) _) rfl rfl hl.1 rfl (lv_room (Nat.le_of_ble_eq_true rfl)) dX10_set_24 ⟨Nat.zero_le _, Nat.zero_le _⟩) (fun r_18 u_17 H locs hw hP hD hS => ?_)
      obtain ⟨hf_19, rfl⟩ := hw
      have hP : va_P (dC, dI) vwCl (rW h cs I L A Q) H := hP
      have hD : va_D A0 (rW h cs I L A Q) := hD
      rcases in_Z (a := (-9)) (b := 9) (rfl) (rfl) hf_19 with ⟨rfl, ha_20, hb_21⟩ | ⟨rfl, hn_22⟩
      · skip
        refine xs_neT (tgt := 33) hx hb dX10_set_27 (by decide) (by decide) ?_
        refine lv_aload_n hx hb dX10_set_33 rfl (lv_at hl 0 rfl) ?_
        refine lv_aload_n hx hb dX10_set_34 rfl (lv_at hl 0 rfl) ?_
        refine lv_iload_n hx hb dX10_set_35 rfl (lv_at hl 1 rfl) ?_
        refine lv_iload_n hx hb dX10_set_36 rfl (lv_at hl 2 rfl) ?_
        refine xj_i (wc := (rW h cs I L A Q)) (wr := ([] : va_W)) hP hD hS hA [0, 1, 2, 3, 4, 5, 6, 7, 8, 9, 10, 11, 12, 13, 14, 15, 16] [] rfl rfl (by decide +kernel) (by decide +kernel) (va_runV (As := [.int (nI i_4), .int (nI i_12)]) (rest := [.ref (h 0)]) ⟨hx, hb, hml, hown, hts⟩ (k_X10_place l dC dI h cs H.size I L A Q i_4 i_12 M (by first | assumption | omega) (by first | assumption | omega) hM (by first | assumption | omega | exact hM1) (by first | assumption | omega | exact hM4)) (cwV 2 hts gX10_set_X10_place rfl rfl rfl (by decide +kernel) ⟨Nat.le_of_ble_eq_true rfl, Nat.le_of_ble_eq_true rfl⟩) (xpV (wc := (rW h cs I L A Q)) hP hD hK hN [0, 1, 2, 3, 4, 5, 6, 7, 8, 9, 10, 11, 12, 13, 14, 15, 16] rfl (by decide) 0 (ci := 10) rfl rfl _) rfl rfl hl.1 rfl (lv_room (Nat.le_of_ble_eq_true rfl)) dX10_set_37 ⟨Nat.zero_le _, Nat.zero_le _⟩) (fun r_25 u_24 H locs hw hP hD hS => ?_)
        obtain ⟨hf_26, rfl⟩ := hw
        have hP : va_P (dC, dI) vwCl (rW h cs I L A Q) H := hP
        have hD : va_D A0 (rW h cs I L A Q) := hD
        obtain rfl := hf_26
        have hpl_27 : plc M i_4 i_12 < 25 := plc_lt (by omega) (by omega) (by omega)
        refine lv_iload_n hx hb dX10_set_40 rfl (lv_at hl 3 rfl) ?_
        refine xj_i (wc := (rW h cs I L A Q)) (wr := ([] : va_W)) hP hD hS hA [0, 1, 2, 3, 4, 5, 6, 7, 8, 9, 10, 11, 12, 13, 14, 15, 16] [] rfl rfl (by decide +kernel) (by decide +kernel) (va_runV (As := [.int (nI (plc M i_4 i_12)), .int v]) (rest := []) ⟨hx, hb, hml, hown, hts⟩ (k_X10_act l dC dI h cs H.size I L A Q (plc M i_4 i_12) v d (by first | assumption | omega) hd (by first | assumption | omega | exact hd4)) (cwV 2 hts gX10_set_X10_act rfl rfl rfl (by decide +kernel) ⟨Nat.le_of_ble_eq_true rfl, Nat.le_of_ble_eq_true rfl⟩) (xpV (wc := (rW h cs I L A Q)) hP hD hK hN [0, 1, 2, 3, 4, 5, 6, 7, 8, 9, 10, 11, 12, 13, 14, 15, 16] rfl (by decide) 0 (ci := 10) rfl rfl _) rfl rfl hl.1 rfl (lv_room (Nat.le_of_ble_eq_true rfl)) dX10_set_41 ⟨Nat.zero_le _, Nat.zero_le _⟩) (fun r_29 u_28 H locs hw hP hD hS => ?_)
        obtain ⟨x4_30, x5_31, f3_32, f6_33, f7_34, f8_35, hf_36, rfl⟩ := hw
        have hP : va_P (dC, dI) vwCl (rW h cs (va_up (va_up I 4 x4_30) 5 x5_31) L (va_up (va_up (va_up (va_up A 3 f3_32) 6 f6_33) 7 f7_34) 8 f8_35) Q) H := hP
        have hD : va_D A0 (rW h cs (va_up (va_up I 4 x4_30) 5 x5_31) L (va_up (va_up (va_up (va_up A 3 f3_32) 6 f6_33) 7 f7_34) 8 f8_35) Q) := hD
        exact xr_i (v := r_29) hx hb hr hlocks hK hS dX10_set_44 ((va_up (va_up I 4 x4_30) 5 x5_31), L, (va_up (va_up (va_up (va_up A 3 f3_32) 6 f6_33) 7 f7_34) 8 f8_35), Q) ⟨x4_30, x5_31, f3_32, f6_33, f7_34, f8_35, (Or.inl ⟨i_4, i_12, by assumption, by assumption, by assumption, by assumption, ⟨by assumption, by assumption⟩, hf_36⟩), rfl⟩ hP hD
      · skip
        refine xs_neF (tgt := 33) hx hb dX10_set_27 (by decide) (by decide) ?_
        refine lv_bipush (v := (-101)) hx hb dX10_set_30 (by decide) ?_
        exact xr_i (v := (-101)) hx hb hr hlocks hK hS dX10_set_32 ((va_up (va_up I 4 (I 4)) 5 (I 5)), L, (va_up (va_up (va_up (va_up A 3 (A 3)) 6 (A 6)) 7 (A 7)) 8 (A 8)), Q) ⟨(I 4), (I 5), (A 3), (A 6), (A 7), (A 8), (Or.inr ⟨rfl, fun i j a b c d e => hn_22 e, rfl, rfl, rfl, rfl, rfl, rfl⟩), rfl⟩ hP hD
    · skip
      refine xs_eqT (tgt := 30) hx hb dX10_set_13 (by decide) (by decide) ?_
      refine lv_bipush (v := (-101)) hx hb dX10_set_30 (by decide) ?_
      exact xr_i (v := (-101)) hx hb hr hlocks hK hS dX10_set_32 ((va_up (va_up I 4 (I 4)) 5 (I 5)), L, (va_up (va_up (va_up (va_up A 3 (A 3)) 6 (A 6)) 7 (A 7)) 8 (A 8)), Q) ⟨(I 4), (I 5), (A 3), (A 6), (A 7), (A 8), (Or.inr ⟨rfl, fun i j a b c d e => hn_15 j b d, rfl, rfl, rfl, rfl, rfl, rfl⟩), rfl⟩ hP hD
  · skip
    refine xs_eqT (tgt := 30) hx hb dX10_set_5 (by decide) (by decide) ?_
    refine lv_bipush (v := (-101)) hx hb dX10_set_30 (by decide) ?_
    exact xr_i (v := (-101)) hx hb hr hlocks hK hS dX10_set_32 ((va_up (va_up I 4 (I 4)) 5 (I 5)), L, (va_up (va_up (va_up (va_up A 3 (A 3)) 6 (A 6)) 7 (A 7)) 8 (A 8)), Q) ⟨(I 4), (I 5), (A 3), (A 6), (A 7), (A 8), (Or.inr ⟨rfl, fun i j a b c d e => hn_7 i a c, rfl, rfl, rfl, rfl, rfl, rfl⟩), rfl⟩ hP hD
set_option maxRecDepth 20000 in
theorem ggX10_hear_X10_isRow : GoodIn wsX10_hear wsX10_isRow := goodIn_r _ [8, 9, 10, 11, 7, 12, 27, 28, 29, 30, 31, 32, 33, 34, 35, 36, 37, 38, 39, 40, 41, 42, 43, 44, 45, 46, 47, 48, 49, 50, 51, 52, 53, 54] rfl (by decide +kernel)
set_option maxRecDepth 20000 in
theorem gX10_hear_X10_isRow : GoodIn wsX10_hear (wsV RX10 86 RX10 yX10_isRow wsX10_isRow) := goodIn_app (goodIn_of _ (by decide +kernel)) ggX10_hear_X10_isRow
set_option maxRecDepth 20000 in
theorem ggX10_hear_X10_in : GoodIn wsX10_hear wsX10_in := goodIn_r _ [12] rfl (by decide +kernel)
set_option maxRecDepth 20000 in
theorem gX10_hear_X10_in : GoodIn wsX10_hear (va_wsS RX10 77 yX10_in wsX10_in) := goodIn_app (goodIn_of _ (by decide +kernel)) ggX10_hear_X10_in
set_option maxRecDepth 20000 in
theorem ggX10_hear_X10_place : GoodIn wsX10_hear wsX10_place := goodIn_r _ [16, 3, 27, 28, 29, 30, 31, 32, 33, 34, 35, 36, 37, 38, 39, 40, 41, 42, 43, 44, 45, 46, 47, 48, 49, 50, 51, 52, 53, 54] rfl (by decide +kernel)
set_option maxRecDepth 20000 in
theorem gX10_hear_X10_place : GoodIn wsX10_hear (wsV RX10 97 RX10 yX10_place wsX10_place) := goodIn_app (goodIn_of _ (by decide +kernel)) ggX10_hear_X10_place
set_option maxRecDepth 20000 in
theorem ggX10_hear_X10_act : GoodIn wsX10_hear wsX10_act := goodIn_r _ [20, 21, 22, 23, 24, 25, 26, 27, 28, 29, 30, 31, 32, 33, 34, 35, 36, 37, 38, 39, 40, 41, 42, 43, 44, 45, 46, 47, 48, 49, 50, 51, 52, 53, 54] rfl (by decide +kernel)
set_option maxRecDepth 20000 in
theorem gX10_hear_X10_act : GoodIn wsX10_hear (wsV RX10 101 RX10 yX10_act wsX10_act) := goodIn_app (goodIn_of _ (by decide +kernel)) ggX10_hear_X10_act
theorem bdX10_hear_0 : (decode cX10_hear 0 = .ok (.aload_n 0, 1)) ∧ (decode cX10_hear 1 = .ok (.iload_n 1, 1)) ∧ (decode cX10_hear 2 = .ok (.invokevirtual 86, 3)) ∧ (decode cX10_hear 5 = .ok (.ifCond .eq 17, 3)) ∧ (decode cX10_hear 8 = .ok (.iload_n 2, 1)) ∧ (decode cX10_hear 9 = .ok (.i2l, 1)) ∧ (decode cX10_hear 10 = .ok (.ldc2_w 104, 3)) ∧ (decode cX10_hear 13 = .ok (.ldc2_w 106, 3)) ∧ (decode cX10_hear 16 = .ok (.invokestatic 77, 3)) ∧ (decode cX10_hear 19 = .ok (.ifCond .ne 7, 3)) ∧ (decode cX10_hear 22 = .ok (.sipush (-10001), 3)) ∧ (decode cX10_hear 25 = .ok (.ireturn, 1)) ∧ (decode cX10_hear 26 = .ok (.aload_n 0, 1)) ∧ (decode cX10_hear 27 = .ok (.aload_n 0, 1)) ∧ (decode cX10_hear 28 = .ok (.iload_n 1, 1)) ∧ (decode cX10_hear 29 = .ok (.aload_n 0, 1)) := by decide +kernel
theorem dX10_hear_0 : decode cX10_hear 0 = .ok (.aload_n 0, 1) := bdX10_hear_0.1
theorem dX10_hear_1 : decode cX10_hear 1 = .ok (.iload_n 1, 1) := bdX10_hear_0.2.1
theorem dX10_hear_2 : decode cX10_hear 2 = .ok (.invokevirtual 86, 3) := bdX10_hear_0.2.2.1
theorem dX10_hear_5 : decode cX10_hear 5 = .ok (.ifCond .eq 17, 3) := bdX10_hear_0.2.2.2.1
theorem dX10_hear_8 : decode cX10_hear 8 = .ok (.iload_n 2, 1) := bdX10_hear_0.2.2.2.2.1
theorem dX10_hear_9 : decode cX10_hear 9 = .ok (.i2l, 1) := bdX10_hear_0.2.2.2.2.2.1
theorem dX10_hear_10 : decode cX10_hear 10 = .ok (.ldc2_w 104, 3) := bdX10_hear_0.2.2.2.2.2.2.1
theorem dX10_hear_13 : decode cX10_hear 13 = .ok (.ldc2_w 106, 3) := bdX10_hear_0.2.2.2.2.2.2.2.1
theorem dX10_hear_16 : decode cX10_hear 16 = .ok (.invokestatic 77, 3) := bdX10_hear_0.2.2.2.2.2.2.2.2.1
theorem dX10_hear_19 : decode cX10_hear 19 = .ok (.ifCond .ne 7, 3) := bdX10_hear_0.2.2.2.2.2.2.2.2.2.1
theorem dX10_hear_22 : decode cX10_hear 22 = .ok (.sipush (-10001), 3) := bdX10_hear_0.2.2.2.2.2.2.2.2.2.2.1
theorem dX10_hear_25 : decode cX10_hear 25 = .ok (.ireturn, 1) := bdX10_hear_0.2.2.2.2.2.2.2.2.2.2.2.1
theorem dX10_hear_26 : decode cX10_hear 26 = .ok (.aload_n 0, 1) := bdX10_hear_0.2.2.2.2.2.2.2.2.2.2.2.2.1
theorem dX10_hear_27 : decode cX10_hear 27 = .ok (.aload_n 0, 1) := bdX10_hear_0.2.2.2.2.2.2.2.2.2.2.2.2.2.1
theorem dX10_hear_28 : decode cX10_hear 28 = .ok (.iload_n 1, 1) := bdX10_hear_0.2.2.2.2.2.2.2.2.2.2.2.2.2.2.1
theorem dX10_hear_29 : decode cX10_hear 29 = .ok (.aload_n 0, 1) := bdX10_hear_0.2.2.2.2.2.2.2.2.2.2.2.2.2.2.2
theorem bdX10_hear_30 : (decode cX10_hear 30 = .ok (.getfield 13, 3)) ∧ (decode cX10_hear 33 = .ok (.invokevirtual 97, 3)) ∧ (decode cX10_hear 36 = .ok (.iload_n 2, 1)) ∧ (decode cX10_hear 37 = .ok (.invokevirtual 101, 3)) ∧ (decode cX10_hear 40 = .ok (.ireturn, 1)) := by decide +kernel
theorem dX10_hear_30 : decode cX10_hear 30 = .ok (.getfield 13, 3) := bdX10_hear_30.1
theorem dX10_hear_33 : decode cX10_hear 33 = .ok (.invokevirtual 97, 3) := bdX10_hear_30.2.1
theorem dX10_hear_36 : decode cX10_hear 36 = .ok (.iload_n 2, 1) := bdX10_hear_30.2.2.1
theorem dX10_hear_37 : decode cX10_hear 37 = .ok (.invokevirtual 101, 3) := bdX10_hear_30.2.2.2.1
theorem dX10_hear_40 : decode cX10_hear 40 = .ok (.ireturn, 1) := bdX10_hear_30.2.2.2.2
set_option maxHeartbeats 4000000 in
set_option maxRecDepth 100000 in
theorem k_X10_hear (l : Launch) (dC : Nat → ClassId) (dI : Nat → Nat → Nat) (h : Nat → Nat) (cs : Nat → ClassId) (sz : Nat) (I : Nat → Int32) (L : Nat → Int64) (A : Nat → Nat → Int32) (Q : Nat → Nat → Int64) (x v : Int32) (R M d : Nat) (hR : I 0 = nI R) (hR1 : 1 ≤ R) (hR5 : R ≤ 5) (hM : I 1 = nI M) (hM1 : 1 ≤ M) (hM4 : M ≤ 4) (hd : I 4 = nI d) (hd4 : d ≤ 40) : Met l yX10_hear wsX10_hear ({ frames := 2, cells := 0, slots := 0, locals := 46 }) (va_Pc [.ref (h 0), .int x, .int v] (xPre (dC, dI) (rW h cs I L A Q) (tysA cs) sz)) (va_Qi (fun (r : Int32) (u : RS) => ∃ x4 : Int32, ∃ x5 : Int32, ∃ f3 : Nat → Int32, ∃ f6 : Nat → Int32, ∃ f7 : Nat → Int32, ∃ f8 : Nat → Int32, ((∃ i : Nat, i < R ∧ x = nI i ∧ (-999 ≤ v.toInt ∧ v.toInt ≤ 999) ∧ r = A 3 (plc M i M) ∧ ∃ dd : Nat, dd ≤ 39 ∧ (dd = d ∨ (d = 40 ∧ dd = 39)) ∧ x4 = nI (dd + 1) ∧ x5 = nI 0 ∧ f3 = upd (A 3) (plc M i M) v ∧ actRows d (plc M i M) v (A 3 (plc M i M)) (A 6) (A 7) (A 8) f6 f7 f8 dd) ∨ (r = -10001 ∧ (∀ i : Nat, i < R → x = nI i → (-999 ≤ v.toInt ∧ v.toInt ≤ 999) → False) ∧ x4 = I 4 ∧ x5 = I 5 ∧ f3 = A 3 ∧ f6 = A 6 ∧ f7 = A 7 ∧ f8 = A 8)) ∧ u = ((va_up (va_up I 4 x4) 5 x5), L, (va_up (va_up (va_up (va_up A 3 f3) 6 f6) 7 f7) 8 f8), Q)) (xB (dC, dI) (tysA cs) (va_A (rW h cs I L A Q) sz) (fun u : RS => rW h cs u.1 u.2.1 u.2.2.1 u.2.2.2)) (va_A (rW h cs I L A Q) sz)) 0 0 (va_A (rW h cs I L A Q) sz) := by
  refine Met.ofW (cc := cX10_hear) (maxL := 3) (ret := (some .int)) (by decide) rfl ?_
  intro p e s m args below meth c s₁ B hml hv
  obtain ⟨rfl, hsz, hP, hK, hD0, hN⟩ := hv
  have hx := B.exec
  have hb := B.bytes
  have hr := B.returns
  have hts := atoms_spec (ws := wsX10_hear) B.pre
  have hown : s.vm.findClass RX10 = some m.cls := findClass_of_methodNamed B.named
  have hlocks := B.notSynchronized
  subst hsz
  have hD := hD0.self (sz := s.heap.size)
  generalize hAe : va_A (rW h cs I L A Q) s.heap.size = A0 at hD ⊢
  have hA : ∀ q : Nat, s.heap.size ≤ q → A0 q := fun q h => by rw [← hAe]; exact Or.inr h
  have hl := lv_entry ([.ref (h 0), .int x, .int v]) (n := 3) (Nat.le_of_ble_eq_true rfl)
  rw [lg_entry_eq]
  generalize (lg_sl ([.ref (h 0), .int x, .int v]) ++ List.replicate (3 - (lg_sl ([.ref (h 0), .int x, .int v])).length) Slot.unset).toArray = ls at hl ⊢
  have hl : lv_has ls 3 [(0, .ref (h 0)), (1, .int x), (2, .int v)] := hl
  generalize hH : s.heap = H at hP ⊢
  have hS : va_S A0 s.heap H [] := by rw [← hH]; exact va_S.rf
  have hinX10 : ∀ w ∈ wsX100, w ∈ wsX10_hear := by decide +kernel
  refine lv_aload_n hx hb dX10_hear_0 rfl (lv_at hl 0 rfl) ?_
  refine lv_iload_n hx hb dX10_hear_1 rfl (lv_at hl 1 rfl) ?_
  refine xj_i (wc := (rW h cs I L A Q)) (wr := ([] : va_W)) hP hD hS hA [0, 1, 2, 3, 4, 5, 6, 7, 8, 9, 10, 11, 12, 13, 14, 15, 16] [] rfl rfl (by decide +kernel) (by decide +kernel) (va_runV (As := [.int x]) (rest := []) ⟨hx, hb, hml, hown, hts⟩ (k_X10_isRow l dC dI h cs H.size I L A Q x R hR (by first | assumption | omega | exact hR1) (by first | assumption | omega | exact hR5)) (cwV 1 hts gX10_hear_X10_isRow rfl rfl rfl (by decide +kernel) ⟨Nat.le_of_ble_eq_true rfl, Nat.le_of_ble_eq_true rfl⟩) (xpV (wc := (rW h cs I L A Q)) hP hD hK hN [0, 1, 2, 3, 4, 5, 6, 7, 8, 9, 10, 11, 12, 13, 14, 15, 16] rfl (by decide) 0 (ci := 10) rfl rfl _) rfl rfl hl.1 rfl (lv_room (Nat.le_of_ble_eq_true rfl)) dX10_hear_2 ⟨Nat.zero_le _, Nat.zero_le _⟩) (fun r_2 u_1 H locs hw hP hD hS => ?_)
  obtain ⟨hf_3, rfl⟩ := hw
  have hP : va_P (dC, dI) vwCl (rW h cs I L A Q) H := hP
  have hD : va_D A0 (rW h cs I L A Q) := hD
  rcases hf_3 with ⟨rfl, i_4, hi_5, hx_6⟩ | ⟨rfl, hn_7⟩
  · skip
    rw [hx_6] at hl
    refine xs_eqF (tgt := 22) hx hb dX10_hear_5 (by decide) (by decide) ?_
    refine lv_iload_n hx hb dX10_hear_8 rfl (lv_at hl 2 rfl) ?_
    refine lv_i2l (v := v.toInt64) hx hb dX10_hear_9 rfl ?_
    refine lv_ldc2 (v := (-999)) hx hb hown (hts (.constantLong RX10 104 (-999)) (by decide +kernel)) dX10_hear_10 ?_
    refine lv_ldc2 (v := 999) hx hb hown (hts (.constantLong RX10 106 (999)) (by decide +kernel)) dX10_hear_13 ?_
    refine xj_i (wc := ([] : va_W)) (wr := (rW h cs I L A Q)) hP hD hS hA [] [0, 1, 2, 3, 4, 5, 6, 7, 8, 9, 10, 11, 12, 13, 14, 15, 16] rfl rfl (by decide +kernel) (by decide +kernel) (va_runS (As := [.long v.toInt64, .long (-999 : Int64), .long (999 : Int64)]) (rest := []) ⟨hx, hb, hml, hown, hts⟩ (k_X10_in l dC dI h cs H.size I L A Q v.toInt64 (-999 : Int64) (999 : Int64)) (va_cwS 3 hts gX10_hear_X10_in rfl rfl rfl (by decide +kernel) ⟨Nat.le_of_ble_eq_true rfl, Nat.le_of_ble_eq_true rfl⟩) (xpS (wc := ([] : va_W)) hP hD hK hN [] rfl (by decide) _) rfl rfl hl.1 rfl (lv_room (Nat.le_of_ble_eq_true rfl)) dX10_hear_16 ⟨Nat.zero_le _, Nat.zero_le _⟩) (fun r_10 u_9 H locs hw hP hD hS => ?_)
    obtain ⟨hf_11, rfl⟩ := hw
    have hP : va_P (dC, dI) vwCl (rW h cs I L A Q) H := hP
    have hD : va_D A0 (rW h cs I L A Q) := hD
    rcases in_Z (a := (-999)) (b := 999) (rfl) (rfl) hf_11 with ⟨rfl, ha_12, hb_13⟩ | ⟨rfl, hn_14⟩
    · skip
      refine xs_neT (tgt := 26) hx hb dX10_hear_19 (by decide) (by decide) ?_
      refine lv_aload_n hx hb dX10_hear_26 rfl (lv_at hl 0 rfl) ?_
      refine lv_aload_n hx hb dX10_hear_27 rfl (lv_at hl 0 rfl) ?_
      refine lv_iload_n hx hb dX10_hear_28 rfl (lv_at hl 1 rfl) ?_
      refine lv_aload_n hx hb dX10_hear_29 rfl (lv_at hl 0 rfl) ?_
      refine va_get (D := (dC, dI)) (ci := 10) (v := .int (I 1)) (C := RX10) (T := TX10) (N := 28) hx hb hts hinX10 hown hK hP 0 rfl rfl 1 (by decide) (hts (.fieldLink RX10 13 "MixedWordsModel" "columns" "I") (by decide +kernel)) (fun _ h9 => h9) rfl dX10_hear_30 ?_
      refine xt_i (y := nI M) (hM) ?_
      refine xj_i (wc := (rW h cs I L A Q)) (wr := ([] : va_W)) hP hD hS hA [0, 1, 2, 3, 4, 5, 6, 7, 8, 9, 10, 11, 12, 13, 14, 15, 16] [] rfl rfl (by decide +kernel) (by decide +kernel) (va_runV (As := [.int (nI i_4), .int (nI M)]) (rest := [.ref (h 0)]) ⟨hx, hb, hml, hown, hts⟩ (k_X10_place l dC dI h cs H.size I L A Q i_4 M M (by first | assumption | omega) (by first | assumption | omega) hM (by first | assumption | omega | exact hM1) (by first | assumption | omega | exact hM4)) (cwV 2 hts gX10_hear_X10_place rfl rfl rfl (by decide +kernel) ⟨Nat.le_of_ble_eq_true rfl, Nat.le_of_ble_eq_true rfl⟩) (xpV (wc := (rW h cs I L A Q)) hP hD hK hN [0, 1, 2, 3, 4, 5, 6, 7, 8, 9, 10, 11, 12, 13, 14, 15, 16] rfl (by decide) 0 (ci := 10) rfl rfl _) rfl rfl hl.1 rfl (lv_room (Nat.le_of_ble_eq_true rfl)) dX10_hear_33 ⟨Nat.zero_le _, Nat.zero_le _⟩) (fun r_17 u_16 H locs hw hP hD hS => ?_)
      obtain ⟨hf_18, rfl⟩ := hw
      have hP : va_P (dC, dI) vwCl (rW h cs I L A Q) H := hP
      have hD : va_D A0 (rW h cs I L A Q) := hD
      obtain rfl := hf_18
      have hpl_19 : plc M i_4 M < 25 := plc_lt (by omega) (by omega) (by omega)
      refine lv_iload_n hx hb dX10_hear_36 rfl (lv_at hl 2 rfl) ?_
      refine xj_i (wc := (rW h cs I L A Q)) (wr := ([] : va_W)) hP hD hS hA [0, 1, 2, 3, 4, 5, 6, 7, 8, 9, 10, 11, 12, 13, 14, 15, 16] [] rfl rfl (by decide +kernel) (by decide +kernel) (va_runV (As := [.int (nI (plc M i_4 M)), .int v]) (rest := []) ⟨hx, hb, hml, hown, hts⟩ (k_X10_act l dC dI h cs H.size I L A Q (plc M i_4 M) v d (by first | assumption | omega) hd (by first | assumption | omega | exact hd4)) (cwV 2 hts gX10_hear_X10_act rfl rfl rfl (by decide +kernel) ⟨Nat.le_of_ble_eq_true rfl, Nat.le_of_ble_eq_true rfl⟩) (xpV (wc := (rW h cs I L A Q)) hP hD hK hN [0, 1, 2, 3, 4, 5, 6, 7, 8, 9, 10, 11, 12, 13, 14, 15, 16] rfl (by decide) 0 (ci := 10) rfl rfl _) rfl rfl hl.1 rfl (lv_room (Nat.le_of_ble_eq_true rfl)) dX10_hear_37 ⟨Nat.zero_le _, Nat.zero_le _⟩) (fun r_21 u_20 H locs hw hP hD hS => ?_)
      obtain ⟨x4_22, x5_23, f3_24, f6_25, f7_26, f8_27, hf_28, rfl⟩ := hw
      have hP : va_P (dC, dI) vwCl (rW h cs (va_up (va_up I 4 x4_22) 5 x5_23) L (va_up (va_up (va_up (va_up A 3 f3_24) 6 f6_25) 7 f7_26) 8 f8_27) Q) H := hP
      have hD : va_D A0 (rW h cs (va_up (va_up I 4 x4_22) 5 x5_23) L (va_up (va_up (va_up (va_up A 3 f3_24) 6 f6_25) 7 f7_26) 8 f8_27) Q) := hD
      exact xr_i (v := r_21) hx hb hr hlocks hK hS dX10_hear_40 ((va_up (va_up I 4 x4_22) 5 x5_23), L, (va_up (va_up (va_up (va_up A 3 f3_24) 6 f6_25) 7 f7_26) 8 f8_27), Q) ⟨x4_22, x5_23, f3_24, f6_25, f7_26, f8_27, (Or.inl ⟨i_4, by assumption, by assumption, ⟨by assumption, by assumption⟩, hf_28⟩), rfl⟩ hP hD
    · skip
      refine xs_neF (tgt := 26) hx hb dX10_hear_19 (by decide) (by decide) ?_
      refine lv_sipush (v := (-10001)) hx hb dX10_hear_22 (by decide) ?_
      exact xr_i (v := (-10001)) hx hb hr hlocks hK hS dX10_hear_25 ((va_up (va_up I 4 (I 4)) 5 (I 5)), L, (va_up (va_up (va_up (va_up A 3 (A 3)) 6 (A 6)) 7 (A 7)) 8 (A 8)), Q) ⟨(I 4), (I 5), (A 3), (A 6), (A 7), (A 8), (Or.inr ⟨rfl, fun i a c e => hn_14 e, rfl, rfl, rfl, rfl, rfl, rfl⟩), rfl⟩ hP hD
  · skip
    refine xs_eqT (tgt := 22) hx hb dX10_hear_5 (by decide) (by decide) ?_
    refine lv_sipush (v := (-10001)) hx hb dX10_hear_22 (by decide) ?_
    exact xr_i (v := (-10001)) hx hb hr hlocks hK hS dX10_hear_25 ((va_up (va_up I 4 (I 4)) 5 (I 5)), L, (va_up (va_up (va_up (va_up A 3 (A 3)) 6 (A 6)) 7 (A 7)) 8 (A 8)), Q) ⟨(I 4), (I 5), (A 3), (A 6), (A 7), (A 8), (Or.inr ⟨rfl, fun i a c e => hn_7 i a c, rfl, rfl, rfl, rfl, rfl, rfl⟩), rfl⟩ hP hD
theorem bdX10_undo_0 : (decode cX10_undo 0 = .ok (.aload_n 0, 1)) ∧ (decode cX10_undo 1 = .ok (.getfield 69, 3)) ∧ (decode cX10_undo 4 = .ok (.ifCond .ne 6, 3)) ∧ (decode cX10_undo 7 = .ok (.bipush (-2), 2)) ∧ (decode cX10_undo 9 = .ok (.ireturn, 1)) ∧ (decode cX10_undo 10 = .ok (.aload_n 0, 1)) ∧ (decode cX10_undo 11 = .ok (.dup, 1)) ∧ (decode cX10_undo 12 = .ok (.getfield 69, 3)) ∧ (decode cX10_undo 15 = .ok (.iconst 1, 1)) ∧ (decode cX10_undo 16 = .ok (.isub, 1)) ∧ (decode cX10_undo 17 = .ok (.putfield 69, 3)) ∧ (decode cX10_undo 20 = .ok (.aload_n 0, 1)) ∧ (decode cX10_undo 21 = .ok (.dup, 1)) ∧ (decode cX10_undo 22 = .ok (.getfield 72, 3)) ∧ (decode cX10_undo 25 = .ok (.iconst 1, 1)) ∧ (decode cX10_undo 26 = .ok (.iadd, 1)) := by decide +kernel
theorem dX10_undo_0 : decode cX10_undo 0 = .ok (.aload_n 0, 1) := bdX10_undo_0.1
theorem dX10_undo_1 : decode cX10_undo 1 = .ok (.getfield 69, 3) := bdX10_undo_0.2.1
theorem dX10_undo_4 : decode cX10_undo 4 = .ok (.ifCond .ne 6, 3) := bdX10_undo_0.2.2.1
theorem dX10_undo_7 : decode cX10_undo 7 = .ok (.bipush (-2), 2) := bdX10_undo_0.2.2.2.1
theorem dX10_undo_9 : decode cX10_undo 9 = .ok (.ireturn, 1) := bdX10_undo_0.2.2.2.2.1
theorem dX10_undo_10 : decode cX10_undo 10 = .ok (.aload_n 0, 1) := bdX10_undo_0.2.2.2.2.2.1
theorem dX10_undo_11 : decode cX10_undo 11 = .ok (.dup, 1) := bdX10_undo_0.2.2.2.2.2.2.1
theorem dX10_undo_12 : decode cX10_undo 12 = .ok (.getfield 69, 3) := bdX10_undo_0.2.2.2.2.2.2.2.1
theorem dX10_undo_15 : decode cX10_undo 15 = .ok (.iconst 1, 1) := bdX10_undo_0.2.2.2.2.2.2.2.2.1
theorem dX10_undo_16 : decode cX10_undo 16 = .ok (.isub, 1) := bdX10_undo_0.2.2.2.2.2.2.2.2.2.1
theorem dX10_undo_17 : decode cX10_undo 17 = .ok (.putfield 69, 3) := bdX10_undo_0.2.2.2.2.2.2.2.2.2.2.1
theorem dX10_undo_20 : decode cX10_undo 20 = .ok (.aload_n 0, 1) := bdX10_undo_0.2.2.2.2.2.2.2.2.2.2.2.1
theorem dX10_undo_21 : decode cX10_undo 21 = .ok (.dup, 1) := bdX10_undo_0.2.2.2.2.2.2.2.2.2.2.2.2.1
theorem dX10_undo_22 : decode cX10_undo 22 = .ok (.getfield 72, 3) := bdX10_undo_0.2.2.2.2.2.2.2.2.2.2.2.2.2.1
theorem dX10_undo_25 : decode cX10_undo 25 = .ok (.iconst 1, 1) := bdX10_undo_0.2.2.2.2.2.2.2.2.2.2.2.2.2.2.1
theorem dX10_undo_26 : decode cX10_undo 26 = .ok (.iadd, 1) := bdX10_undo_0.2.2.2.2.2.2.2.2.2.2.2.2.2.2.2
theorem bdX10_undo_27 : (decode cX10_undo 27 = .ok (.putfield 72, 3)) ∧ (decode cX10_undo 30 = .ok (.aload_n 0, 1)) ∧ (decode cX10_undo 31 = .ok (.getfield 19, 3)) ∧ (decode cX10_undo 34 = .ok (.aload_n 0, 1)) ∧ (decode cX10_undo 35 = .ok (.getfield 23, 3)) ∧ (decode cX10_undo 38 = .ok (.aload_n 0, 1)) ∧ (decode cX10_undo 39 = .ok (.getfield 69, 3)) ∧ (decode cX10_undo 42 = .ok (.iaload, 1)) ∧ (decode cX10_undo 43 = .ok (.aload_n 0, 1)) ∧ (decode cX10_undo 44 = .ok (.getfield 26, 3)) ∧ (decode cX10_undo 47 = .ok (.aload_n 0, 1)) ∧ (decode cX10_undo 48 = .ok (.getfield 69, 3)) ∧ (decode cX10_undo 51 = .ok (.iaload, 1)) ∧ (decode cX10_undo 52 = .ok (.iastore, 1)) ∧ (decode cX10_undo 53 = .ok (.aload_n 0, 1)) ∧ (decode cX10_undo 54 = .ok (.getfield 69, 3)) := by decide +kernel
theorem dX10_undo_27 : decode cX10_undo 27 = .ok (.putfield 72, 3) := bdX10_undo_27.1
theorem dX10_undo_30 : decode cX10_undo 30 = .ok (.aload_n 0, 1) := bdX10_undo_27.2.1
theorem dX10_undo_31 : decode cX10_undo 31 = .ok (.getfield 19, 3) := bdX10_undo_27.2.2.1
theorem dX10_undo_34 : decode cX10_undo 34 = .ok (.aload_n 0, 1) := bdX10_undo_27.2.2.2.1
theorem dX10_undo_35 : decode cX10_undo 35 = .ok (.getfield 23, 3) := bdX10_undo_27.2.2.2.2.1
theorem dX10_undo_38 : decode cX10_undo 38 = .ok (.aload_n 0, 1) := bdX10_undo_27.2.2.2.2.2.1
theorem dX10_undo_39 : decode cX10_undo 39 = .ok (.getfield 69, 3) := bdX10_undo_27.2.2.2.2.2.2.1
theorem dX10_undo_42 : decode cX10_undo 42 = .ok (.iaload, 1) := bdX10_undo_27.2.2.2.2.2.2.2.1
theorem dX10_undo_43 : decode cX10_undo 43 = .ok (.aload_n 0, 1) := bdX10_undo_27.2.2.2.2.2.2.2.2.1
theorem dX10_undo_44 : decode cX10_undo 44 = .ok (.getfield 26, 3) := bdX10_undo_27.2.2.2.2.2.2.2.2.2.1
theorem dX10_undo_47 : decode cX10_undo 47 = .ok (.aload_n 0, 1) := bdX10_undo_27.2.2.2.2.2.2.2.2.2.2.1
theorem dX10_undo_48 : decode cX10_undo 48 = .ok (.getfield 69, 3) := bdX10_undo_27.2.2.2.2.2.2.2.2.2.2.2.1
theorem dX10_undo_51 : decode cX10_undo 51 = .ok (.iaload, 1) := bdX10_undo_27.2.2.2.2.2.2.2.2.2.2.2.2.1
theorem dX10_undo_52 : decode cX10_undo 52 = .ok (.iastore, 1) := bdX10_undo_27.2.2.2.2.2.2.2.2.2.2.2.2.2.1
theorem dX10_undo_53 : decode cX10_undo 53 = .ok (.aload_n 0, 1) := bdX10_undo_27.2.2.2.2.2.2.2.2.2.2.2.2.2.2.1
theorem dX10_undo_54 : decode cX10_undo 54 = .ok (.getfield 69, 3) := bdX10_undo_27.2.2.2.2.2.2.2.2.2.2.2.2.2.2.2
theorem dX10_undo_57 : decode cX10_undo 57 = .ok (.ireturn, 1) := by decide +kernel
set_option maxHeartbeats 4000000 in
set_option maxRecDepth 100000 in
theorem k_X10_undo (l : Launch) (dC : Nat → ClassId) (dI : Nat → Nat → Nat) (h : Nat → Nat) (cs : Nat → ClassId) (sz : Nat) (I : Nat → Int32) (L : Nat → Int64) (A : Nat → Nat → Int32) (Q : Nat → Nat → Int64) (d e5 : Nat) (hd : I 4 = nI d) (hd4 : d ≤ 40) (he : I 5 = nI e5) (hpl : ∀ k : Nat, k < d + e5 → ∃ q : Nat, q < 25 ∧ A 6 k = nI q) (hde : d + e5 ≤ 40) : Met l yX10_undo wsX10_undo ({ frames := 0, cells := 0, slots := 0, locals := 0 }) (va_Pc [.ref (h 0)] (xPre (dC, dI) (rW h cs I L A Q) (tysA cs) sz)) (va_Qi (fun (r : Int32) (u : RS) => ∃ x4 : Int32, ∃ x5 : Int32, ∃ f3 : Nat → Int32, ((d = 0 ∧ r = -2 ∧ x4 = I 4 ∧ x5 = I 5 ∧ f3 = A 3) ∨ (0 < d ∧ r = nI (d - 1) ∧ x4 = nI (d - 1) ∧ x5 = nI (e5 + 1) ∧ ∃ q : Nat, q < 25 ∧ A 6 (d - 1) = nI q ∧ f3 = upd (A 3) q (A 7 (d - 1)))) ∧ u = ((va_up (va_up I 4 x4) 5 x5), L, (va_up A 3 f3), Q)) (xB (dC, dI) (tysA cs) (va_A (rW h cs I L A Q) sz) (fun u : RS => rW h cs u.1 u.2.1 u.2.2.1 u.2.2.2)) (va_A (rW h cs I L A Q) sz)) 0 0 (va_A (rW h cs I L A Q) sz) := by
  refine Met.ofW (cc := cX10_undo) (maxL := 1) (ret := (some .int)) (by decide) rfl ?_
  intro p e s m args below meth c s₁ B hml hv
  obtain ⟨rfl, hsz, hP, hK, hD0, hN⟩ := hv
  have hx := B.exec
  have hb := B.bytes
  have hr := B.returns
  have hts := atoms_spec (ws := wsX10_undo) B.pre
  have hown : s.vm.findClass RX10 = some m.cls := findClass_of_methodNamed B.named
  have hlocks := B.notSynchronized
  subst hsz
  have hD := hD0.self (sz := s.heap.size)
  generalize hAe : va_A (rW h cs I L A Q) s.heap.size = A0 at hD ⊢
  have hA : ∀ q : Nat, s.heap.size ≤ q → A0 q := fun q h => by rw [← hAe]; exact Or.inr h
  have hl := lv_entry ([.ref (h 0)]) (n := 1) (Nat.le_of_ble_eq_true rfl)
  rw [lg_entry_eq]
  generalize (lg_sl ([.ref (h 0)]) ++ List.replicate (1 - (lg_sl ([.ref (h 0)])).length) Slot.unset).toArray = ls at hl ⊢
  have hl : lv_has ls 1 [(0, .ref (h 0))] := hl
  generalize hH : s.heap = H at hP ⊢
  have hS : va_S A0 s.heap H [] := by rw [← hH]; exact va_S.rf
  have hinX10 : ∀ w ∈ wsX100, w ∈ wsX10_undo := by decide +kernel
  refine lv_aload_n hx hb dX10_undo_0 rfl (lv_at hl 0 rfl) ?_
  refine va_get (D := (dC, dI)) (ci := 10) (v := .int (I 4)) (C := RX10) (T := TX10) (N := 28) hx hb hts hinX10 hown hK hP 0 rfl rfl 4 (by decide) (hts (.fieldLink RX10 69 "MixedWordsModel" "done" "I") (by decide +kernel)) (fun _ h9 => h9) rfl dX10_undo_1 ?_
  refine xt_i (y := nI d) (hd) ?_
  refine xz_ne (tgt := 10) hx hb dX10_undo_4 (by decide) (by omega) (fun c_4_0 => ?_) (fun c_4_0 => ?_)
  · skip
    refine lv_aload_n hx hb dX10_undo_10 rfl (lv_at hl 0 rfl) ?_
    refine lv_dup hx hb dX10_undo_11 rfl ?_
    refine va_get (D := (dC, dI)) (ci := 10) (v := .int (I 4)) (C := RX10) (T := TX10) (N := 28) hx hb hts hinX10 hown hK hP 0 rfl rfl 4 (by decide) (hts (.fieldLink RX10 69 "MixedWordsModel" "done" "I") (by decide +kernel)) (fun _ h9 => h9) rfl dX10_undo_12 ?_
    refine xt_i (y := nI d) (hd) ?_
    refine lv_iconst (v := nI 1) hx hb dX10_undo_15 (by decide) ?_
    refine lv_isub hx hb dX10_undo_16 ?_
    refine xt_i (y := nI (d - 1)) (pk_sub (by omega)) ?_
    refine va_put (D := (dC, dI)) (ci := 10) (v := .int (nI (d - 1))) (ty := .int) (C := RX10) (T := TX10) (N := 28) hx hb hts hinX10 tyX10 tyX10_ok nmX10 hown hK hP hD hS 0 rfl rfl 4 (by decide) (hts (.fieldLink RX10 69 "MixedWordsModel" "done" "I") (by decide +kernel)) (fun _ h9 => h9) rfl (by decide +kernel) rfl rfl (Nat.le_of_ble_eq_true rfl) dX10_undo_17 (fun H locs hP hD hS => ?_)
    have hP : va_P (dC, dI) vwCl (rW h cs (va_up I 4 (nI (d - 1))) L A Q) H := hP
    have hD : va_D A0 (rW h cs (va_up I 4 (nI (d - 1))) L A Q) := hD
    refine lv_aload_n hx hb dX10_undo_20 rfl (lv_at hl 0 rfl) ?_
    refine lv_dup hx hb dX10_undo_21 rfl ?_
    refine va_get (D := (dC, dI)) (ci := 10) (v := .int (I 5)) (C := RX10) (T := TX10) (N := 28) hx hb hts hinX10 hown hK hP 0 rfl rfl 5 (by decide) (hts (.fieldLink RX10 72 "MixedWordsModel" "undone" "I") (by decide +kernel)) (fun _ h9 => h9) rfl dX10_undo_22 ?_
    refine xt_i (y := nI e5) (he) ?_
    refine lv_iconst (v := nI 1) hx hb dX10_undo_25 (by decide) ?_
    refine lv_iadd hx hb dX10_undo_26 ?_
    refine xt_i (y := nI (e5 + 1)) (nI_add _ _) ?_
    refine va_put (D := (dC, dI)) (ci := 10) (v := .int (nI (e5 + 1))) (ty := .int) (C := RX10) (T := TX10) (N := 28) hx hb hts hinX10 tyX10 tyX10_ok nmX10 hown hK hP hD hS 0 rfl rfl 5 (by decide) (hts (.fieldLink RX10 72 "MixedWordsModel" "undone" "I") (by decide +kernel)) (fun _ h9 => h9) rfl (by decide +kernel) rfl rfl (Nat.le_of_ble_eq_true rfl) dX10_undo_27 (fun H locs hP hD hS => ?_)
    have hP : va_P (dC, dI) vwCl (rW h cs (va_up (va_up I 4 (nI (d - 1))) 5 (nI (e5 + 1))) L A Q) H := hP
    have hD : va_D A0 (rW h cs (va_up (va_up I 4 (nI (d - 1))) 5 (nI (e5 + 1))) L A Q) := hD
    refine lv_aload_n hx hb dX10_undo_30 rfl (lv_at hl 0 rfl) ?_
    refine va_get (D := (dC, dI)) (ci := 10) (v := .ref (h 3)) (C := RX10) (T := TX10) (N := 28) hx hb hts hinX10 hown hK hP 0 rfl rfl 3 (by decide) (hts (.fieldLink RX10 19 "MixedWordsModel" "told" "[I") (by decide +kernel)) (fun _ h9 => h9) rfl dX10_undo_31 ?_
    refine lv_aload_n hx hb dX10_undo_34 rfl (lv_at hl 0 rfl) ?_
    refine va_get (D := (dC, dI)) (ci := 10) (v := .ref (h 6)) (C := RX10) (T := TX10) (N := 28) hx hb hts hinX10 hown hK hP 0 rfl rfl 6 (by decide) (hts (.fieldLink RX10 23 "MixedWordsModel" "actPlace" "[I") (by decide +kernel)) (fun _ h9 => h9) rfl dX10_undo_35 ?_
    refine lv_aload_n hx hb dX10_undo_38 rfl (lv_at hl 0 rfl) ?_
    refine va_get (D := (dC, dI)) (ci := 10) (v := .int (nI (d - 1))) (C := RX10) (T := TX10) (N := 28) hx hb hts hinX10 hown hK hP 0 rfl rfl 4 (by decide) (hts (.fieldLink RX10 69 "MixedWordsModel" "done" "I") (by decide +kernel)) (fun _ h9 => h9) rfl dX10_undo_39 ?_
    refine xa_iald hx hb hK hP 2 0 rfl rfl (by omega) (by decide) dX10_undo_42 ?_
    obtain ⟨q, hq, hqe⟩ := hpl (d - 1) (by omega)
    refine xt_i (y := nI q) (hqe) ?_
    refine lv_aload_n hx hb dX10_undo_43 rfl (lv_at hl 0 rfl) ?_
    refine va_get (D := (dC, dI)) (ci := 10) (v := .ref (h 7)) (C := RX10) (T := TX10) (N := 28) hx hb hts hinX10 hown hK hP 0 rfl rfl 7 (by decide) (hts (.fieldLink RX10 26 "MixedWordsModel" "actWas" "[I") (by decide +kernel)) (fun _ h9 => h9) rfl dX10_undo_44 ?_
    refine lv_aload_n hx hb dX10_undo_47 rfl (lv_at hl 0 rfl) ?_
    refine va_get (D := (dC, dI)) (ci := 10) (v := .int (nI (d - 1))) (C := RX10) (T := TX10) (N := 28) hx hb hts hinX10 hown hK hP 0 rfl rfl 4 (by decide) (hts (.fieldLink RX10 69 "MixedWordsModel" "done" "I") (by decide +kernel)) (fun _ h9 => h9) rfl dX10_undo_48 ?_
    refine xa_iald hx hb hK hP 3 0 rfl rfl (by omega) (by decide) dX10_undo_51 ?_
    refine xa_iast hx hb hK hP hD hS 1 0 rfl rfl (by omega) (by decide) dX10_undo_52 (fun H locs hP hD hS => ?_)
    have hP : va_P (dC, dI) vwCl (rW h cs (va_up (va_up I 4 (nI (d - 1))) 5 (nI (e5 + 1))) L (va_up A 3 (upd (A 3) q (A 7 (d - 1)))) Q) H := hP
    have hD : va_D A0 (rW h cs (va_up (va_up I 4 (nI (d - 1))) 5 (nI (e5 + 1))) L (va_up A 3 (upd (A 3) q (A 7 (d - 1)))) Q) := hD
    refine lv_aload_n hx hb dX10_undo_53 rfl (lv_at hl 0 rfl) ?_
    refine va_get (D := (dC, dI)) (ci := 10) (v := .int (nI (d - 1))) (C := RX10) (T := TX10) (N := 28) hx hb hts hinX10 hown hK hP 0 rfl rfl 4 (by decide) (hts (.fieldLink RX10 69 "MixedWordsModel" "done" "I") (by decide +kernel)) (fun _ h9 => h9) rfl dX10_undo_54 ?_
    exact xr_i (v := (nI (d - 1))) hx hb hr hlocks hK hS dX10_undo_57 ((va_up (va_up I 4 (nI (d - 1))) 5 (nI (e5 + 1))), L, (va_up A 3 (upd (A 3) q (A 7 (d - 1)))), Q) ⟨(nI (d - 1)), (nI (e5 + 1)), (upd (A 3) q (A 7 (d - 1))), (Or.inr ⟨by omega, rfl, rfl, rfl, q, hq, hqe, rfl⟩), rfl⟩ hP hD
  · skip
    refine lv_bipush (v := (-2)) hx hb dX10_undo_7 (by decide) ?_
    exact xr_i (v := (-2)) hx hb hr hlocks hK hS dX10_undo_9 ((va_up (va_up I 4 (I 4)) 5 (I 5)), L, (va_up A 3 (A 3)), Q) ⟨(I 4), (I 5), (A 3), (Or.inl ⟨by omega, rfl, rfl, rfl, rfl⟩), rfl⟩ hP hD
theorem bdX10_redo_0 : (decode cX10_redo 0 = .ok (.aload_n 0, 1)) ∧ (decode cX10_redo 1 = .ok (.getfield 72, 3)) ∧ (decode cX10_redo 4 = .ok (.ifCond .ne 6, 3)) ∧ (decode cX10_redo 7 = .ok (.bipush (-2), 2)) ∧ (decode cX10_redo 9 = .ok (.ireturn, 1)) ∧ (decode cX10_redo 10 = .ok (.aload_n 0, 1)) ∧ (decode cX10_redo 11 = .ok (.getfield 19, 3)) ∧ (decode cX10_redo 14 = .ok (.aload_n 0, 1)) ∧ (decode cX10_redo 15 = .ok (.getfield 23, 3)) ∧ (decode cX10_redo 18 = .ok (.aload_n 0, 1)) ∧ (decode cX10_redo 19 = .ok (.getfield 69, 3)) ∧ (decode cX10_redo 22 = .ok (.iaload, 1)) ∧ (decode cX10_redo 23 = .ok (.aload_n 0, 1)) ∧ (decode cX10_redo 24 = .ok (.getfield 29, 3)) ∧ (decode cX10_redo 27 = .ok (.aload_n 0, 1)) ∧ (decode cX10_redo 28 = .ok (.getfield 69, 3)) := by decide +kernel
theorem dX10_redo_0 : decode cX10_redo 0 = .ok (.aload_n 0, 1) := bdX10_redo_0.1
theorem dX10_redo_1 : decode cX10_redo 1 = .ok (.getfield 72, 3) := bdX10_redo_0.2.1
theorem dX10_redo_4 : decode cX10_redo 4 = .ok (.ifCond .ne 6, 3) := bdX10_redo_0.2.2.1
theorem dX10_redo_7 : decode cX10_redo 7 = .ok (.bipush (-2), 2) := bdX10_redo_0.2.2.2.1
theorem dX10_redo_9 : decode cX10_redo 9 = .ok (.ireturn, 1) := bdX10_redo_0.2.2.2.2.1
theorem dX10_redo_10 : decode cX10_redo 10 = .ok (.aload_n 0, 1) := bdX10_redo_0.2.2.2.2.2.1
theorem dX10_redo_11 : decode cX10_redo 11 = .ok (.getfield 19, 3) := bdX10_redo_0.2.2.2.2.2.2.1
theorem dX10_redo_14 : decode cX10_redo 14 = .ok (.aload_n 0, 1) := bdX10_redo_0.2.2.2.2.2.2.2.1
theorem dX10_redo_15 : decode cX10_redo 15 = .ok (.getfield 23, 3) := bdX10_redo_0.2.2.2.2.2.2.2.2.1
theorem dX10_redo_18 : decode cX10_redo 18 = .ok (.aload_n 0, 1) := bdX10_redo_0.2.2.2.2.2.2.2.2.2.1
theorem dX10_redo_19 : decode cX10_redo 19 = .ok (.getfield 69, 3) := bdX10_redo_0.2.2.2.2.2.2.2.2.2.2.1
theorem dX10_redo_22 : decode cX10_redo 22 = .ok (.iaload, 1) := bdX10_redo_0.2.2.2.2.2.2.2.2.2.2.2.1
theorem dX10_redo_23 : decode cX10_redo 23 = .ok (.aload_n 0, 1) := bdX10_redo_0.2.2.2.2.2.2.2.2.2.2.2.2.1
theorem dX10_redo_24 : decode cX10_redo 24 = .ok (.getfield 29, 3) := bdX10_redo_0.2.2.2.2.2.2.2.2.2.2.2.2.2.1
theorem dX10_redo_27 : decode cX10_redo 27 = .ok (.aload_n 0, 1) := bdX10_redo_0.2.2.2.2.2.2.2.2.2.2.2.2.2.2.1
theorem dX10_redo_28 : decode cX10_redo 28 = .ok (.getfield 69, 3) := bdX10_redo_0.2.2.2.2.2.2.2.2.2.2.2.2.2.2.2
theorem bdX10_redo_31 : (decode cX10_redo 31 = .ok (.iaload, 1)) ∧ (decode cX10_redo 32 = .ok (.iastore, 1)) ∧ (decode cX10_redo 33 = .ok (.aload_n 0, 1)) ∧ (decode cX10_redo 34 = .ok (.dup, 1)) ∧ (decode cX10_redo 35 = .ok (.getfield 69, 3)) ∧ (decode cX10_redo 38 = .ok (.iconst 1, 1)) ∧ (decode cX10_redo 39 = .ok (.iadd, 1)) ∧ (decode cX10_redo 40 = .ok (.putfield 69, 3)) ∧ (decode cX10_redo 43 = .ok (.aload_n 0, 1)) ∧ (decode cX10_redo 44 = .ok (.dup, 1)) ∧ (decode cX10_redo 45 = .ok (.getfield 72, 3)) ∧ (decode cX10_redo 48 = .ok (.iconst 1, 1)) ∧ (decode cX10_redo 49 = .ok (.isub, 1)) ∧ (decode cX10_redo 50 = .ok (.putfield 72, 3)) ∧ (decode cX10_redo 53 = .ok (.aload_n 0, 1)) ∧ (decode cX10_redo 54 = .ok (.getfield 72, 3)) := by decide +kernel
theorem dX10_redo_31 : decode cX10_redo 31 = .ok (.iaload, 1) := bdX10_redo_31.1
theorem dX10_redo_32 : decode cX10_redo 32 = .ok (.iastore, 1) := bdX10_redo_31.2.1
theorem dX10_redo_33 : decode cX10_redo 33 = .ok (.aload_n 0, 1) := bdX10_redo_31.2.2.1
theorem dX10_redo_34 : decode cX10_redo 34 = .ok (.dup, 1) := bdX10_redo_31.2.2.2.1
theorem dX10_redo_35 : decode cX10_redo 35 = .ok (.getfield 69, 3) := bdX10_redo_31.2.2.2.2.1
theorem dX10_redo_38 : decode cX10_redo 38 = .ok (.iconst 1, 1) := bdX10_redo_31.2.2.2.2.2.1
theorem dX10_redo_39 : decode cX10_redo 39 = .ok (.iadd, 1) := bdX10_redo_31.2.2.2.2.2.2.1
theorem dX10_redo_40 : decode cX10_redo 40 = .ok (.putfield 69, 3) := bdX10_redo_31.2.2.2.2.2.2.2.1
theorem dX10_redo_43 : decode cX10_redo 43 = .ok (.aload_n 0, 1) := bdX10_redo_31.2.2.2.2.2.2.2.2.1
theorem dX10_redo_44 : decode cX10_redo 44 = .ok (.dup, 1) := bdX10_redo_31.2.2.2.2.2.2.2.2.2.1
theorem dX10_redo_45 : decode cX10_redo 45 = .ok (.getfield 72, 3) := bdX10_redo_31.2.2.2.2.2.2.2.2.2.2.1
theorem dX10_redo_48 : decode cX10_redo 48 = .ok (.iconst 1, 1) := bdX10_redo_31.2.2.2.2.2.2.2.2.2.2.2.1
theorem dX10_redo_49 : decode cX10_redo 49 = .ok (.isub, 1) := bdX10_redo_31.2.2.2.2.2.2.2.2.2.2.2.2.1
theorem dX10_redo_50 : decode cX10_redo 50 = .ok (.putfield 72, 3) := bdX10_redo_31.2.2.2.2.2.2.2.2.2.2.2.2.2.1
theorem dX10_redo_53 : decode cX10_redo 53 = .ok (.aload_n 0, 1) := bdX10_redo_31.2.2.2.2.2.2.2.2.2.2.2.2.2.2.1
theorem dX10_redo_54 : decode cX10_redo 54 = .ok (.getfield 72, 3) := bdX10_redo_31.2.2.2.2.2.2.2.2.2.2.2.2.2.2.2
theorem dX10_redo_57 : decode cX10_redo 57 = .ok (.ireturn, 1) := by decide +kernel
set_option maxHeartbeats 4000000 in
set_option maxRecDepth 100000 in
theorem k_X10_redo (l : Launch) (dC : Nat → ClassId) (dI : Nat → Nat → Nat) (h : Nat → Nat) (cs : Nat → ClassId) (sz : Nat) (I : Nat → Int32) (L : Nat → Int64) (A : Nat → Nat → Int32) (Q : Nat → Nat → Int64) (d e5 : Nat) (hd : I 4 = nI d) (hd4 : d ≤ 40) (he : I 5 = nI e5) (hpl : ∀ k : Nat, k < d + e5 → ∃ q : Nat, q < 25 ∧ A 6 k = nI q) (hde : d + e5 ≤ 40) : Met l yX10_redo wsX10_redo ({ frames := 0, cells := 0, slots := 0, locals := 0 }) (va_Pc [.ref (h 0)] (xPre (dC, dI) (rW h cs I L A Q) (tysA cs) sz)) (va_Qi (fun (r : Int32) (u : RS) => ∃ x4 : Int32, ∃ x5 : Int32, ∃ f3 : Nat → Int32, ((e5 = 0 ∧ r = -2 ∧ x4 = I 4 ∧ x5 = I 5 ∧ f3 = A 3) ∨ (0 < e5 ∧ r = nI (e5 - 1) ∧ x4 = nI (d + 1) ∧ x5 = nI (e5 - 1) ∧ ∃ q : Nat, q < 25 ∧ A 6 d = nI q ∧ f3 = upd (A 3) q (A 8 d))) ∧ u = ((va_up (va_up I 4 x4) 5 x5), L, (va_up A 3 f3), Q)) (xB (dC, dI) (tysA cs) (va_A (rW h cs I L A Q) sz) (fun u : RS => rW h cs u.1 u.2.1 u.2.2.1 u.2.2.2)) (va_A (rW h cs I L A Q) sz)) 0 0 (va_A (rW h cs I L A Q) sz) := by
  refine Met.ofW (cc := cX10_redo) (maxL := 1) (ret := (some .int)) (by decide) rfl ?_
  intro p e s m args below meth c s₁ B hml hv
  obtain ⟨rfl, hsz, hP, hK, hD0, hN⟩ := hv
  have hx := B.exec
  have hb := B.bytes
  have hr := B.returns
  have hts := atoms_spec (ws := wsX10_redo) B.pre
  have hown : s.vm.findClass RX10 = some m.cls := findClass_of_methodNamed B.named
  have hlocks := B.notSynchronized
  subst hsz
  have hD := hD0.self (sz := s.heap.size)
  generalize hAe : va_A (rW h cs I L A Q) s.heap.size = A0 at hD ⊢
  have hA : ∀ q : Nat, s.heap.size ≤ q → A0 q := fun q h => by rw [← hAe]; exact Or.inr h
  have hl := lv_entry ([.ref (h 0)]) (n := 1) (Nat.le_of_ble_eq_true rfl)
  rw [lg_entry_eq]
  generalize (lg_sl ([.ref (h 0)]) ++ List.replicate (1 - (lg_sl ([.ref (h 0)])).length) Slot.unset).toArray = ls at hl ⊢
  have hl : lv_has ls 1 [(0, .ref (h 0))] := hl
  generalize hH : s.heap = H at hP ⊢
  have hS : va_S A0 s.heap H [] := by rw [← hH]; exact va_S.rf
  have hinX10 : ∀ w ∈ wsX100, w ∈ wsX10_redo := by decide +kernel
  refine lv_aload_n hx hb dX10_redo_0 rfl (lv_at hl 0 rfl) ?_
  refine va_get (D := (dC, dI)) (ci := 10) (v := .int (I 5)) (C := RX10) (T := TX10) (N := 28) hx hb hts hinX10 hown hK hP 0 rfl rfl 5 (by decide) (hts (.fieldLink RX10 72 "MixedWordsModel" "undone" "I") (by decide +kernel)) (fun _ h9 => h9) rfl dX10_redo_1 ?_
  refine xt_i (y := nI e5) (he) ?_
  refine xz_ne (tgt := 10) hx hb dX10_redo_4 (by decide) (by omega) (fun c_4_0 => ?_) (fun c_4_0 => ?_)
  · skip
    refine lv_aload_n hx hb dX10_redo_10 rfl (lv_at hl 0 rfl) ?_
    refine va_get (D := (dC, dI)) (ci := 10) (v := .ref (h 3)) (C := RX10) (T := TX10) (N := 28) hx hb hts hinX10 hown hK hP 0 rfl rfl 3 (by decide) (hts (.fieldLink RX10 19 "MixedWordsModel" "told" "[I") (by decide +kernel)) (fun _ h9 => h9) rfl dX10_redo_11 ?_
    refine lv_aload_n hx hb dX10_redo_14 rfl (lv_at hl 0 rfl) ?_
    refine va_get (D := (dC, dI)) (ci := 10) (v := .ref (h 6)) (C := RX10) (T := TX10) (N := 28) hx hb hts hinX10 hown hK hP 0 rfl rfl 6 (by decide) (hts (.fieldLink RX10 23 "MixedWordsModel" "actPlace" "[I") (by decide +kernel)) (fun _ h9 => h9) rfl dX10_redo_15 ?_
    refine lv_aload_n hx hb dX10_redo_18 rfl (lv_at hl 0 rfl) ?_
    refine va_get (D := (dC, dI)) (ci := 10) (v := .int (I 4)) (C := RX10) (T := TX10) (N := 28) hx hb hts hinX10 hown hK hP 0 rfl rfl 4 (by decide) (hts (.fieldLink RX10 69 "MixedWordsModel" "done" "I") (by decide +kernel)) (fun _ h9 => h9) rfl dX10_redo_19 ?_
    refine xt_i (y := nI d) (hd) ?_
    refine xa_iald hx hb hK hP 2 0 rfl rfl (by omega) (by decide) dX10_redo_22 ?_
    obtain ⟨q, hq, hqe⟩ := hpl d (by omega)
    refine xt_i (y := nI q) (hqe) ?_
    refine lv_aload_n hx hb dX10_redo_23 rfl (lv_at hl 0 rfl) ?_
    refine va_get (D := (dC, dI)) (ci := 10) (v := .ref (h 8)) (C := RX10) (T := TX10) (N := 28) hx hb hts hinX10 hown hK hP 0 rfl rfl 8 (by decide) (hts (.fieldLink RX10 29 "MixedWordsModel" "actIs" "[I") (by decide +kernel)) (fun _ h9 => h9) rfl dX10_redo_24 ?_
    refine lv_aload_n hx hb dX10_redo_27 rfl (lv_at hl 0 rfl) ?_
    refine va_get (D := (dC, dI)) (ci := 10) (v := .int (I 4)) (C := RX10) (T := TX10) (N := 28) hx hb hts hinX10 hown hK hP 0 rfl rfl 4 (by decide) (hts (.fieldLink RX10 69 "MixedWordsModel" "done" "I") (by decide +kernel)) (fun _ h9 => h9) rfl dX10_redo_28 ?_
    refine xt_i (y := nI d) (hd) ?_
    refine xa_iald hx hb hK hP 4 0 rfl rfl (by omega) (by decide) dX10_redo_31 ?_
    refine xa_iast hx hb hK hP hD hS 1 0 rfl rfl (by omega) (by decide) dX10_redo_32 (fun H locs hP hD hS => ?_)
    have hP : va_P (dC, dI) vwCl (rW h cs I L (va_up A 3 (upd (A 3) q (A 8 d))) Q) H := hP
    have hD : va_D A0 (rW h cs I L (va_up A 3 (upd (A 3) q (A 8 d))) Q) := hD
    refine lv_aload_n hx hb dX10_redo_33 rfl (lv_at hl 0 rfl) ?_
    refine lv_dup hx hb dX10_redo_34 rfl ?_
    refine va_get (D := (dC, dI)) (ci := 10) (v := .int (I 4)) (C := RX10) (T := TX10) (N := 28) hx hb hts hinX10 hown hK hP 0 rfl rfl 4 (by decide) (hts (.fieldLink RX10 69 "MixedWordsModel" "done" "I") (by decide +kernel)) (fun _ h9 => h9) rfl dX10_redo_35 ?_
    refine xt_i (y := nI d) (hd) ?_
    refine lv_iconst (v := nI 1) hx hb dX10_redo_38 (by decide) ?_
    refine lv_iadd hx hb dX10_redo_39 ?_
    refine xt_i (y := nI (d + 1)) (nI_add _ _) ?_
    refine va_put (D := (dC, dI)) (ci := 10) (v := .int (nI (d + 1))) (ty := .int) (C := RX10) (T := TX10) (N := 28) hx hb hts hinX10 tyX10 tyX10_ok nmX10 hown hK hP hD hS 0 rfl rfl 4 (by decide) (hts (.fieldLink RX10 69 "MixedWordsModel" "done" "I") (by decide +kernel)) (fun _ h9 => h9) rfl (by decide +kernel) rfl rfl (Nat.le_of_ble_eq_true rfl) dX10_redo_40 (fun H locs hP hD hS => ?_)
    have hP : va_P (dC, dI) vwCl (rW h cs (va_up I 4 (nI (d + 1))) L (va_up A 3 (upd (A 3) q (A 8 d))) Q) H := hP
    have hD : va_D A0 (rW h cs (va_up I 4 (nI (d + 1))) L (va_up A 3 (upd (A 3) q (A 8 d))) Q) := hD
    refine lv_aload_n hx hb dX10_redo_43 rfl (lv_at hl 0 rfl) ?_
    refine lv_dup hx hb dX10_redo_44 rfl ?_
    refine va_get (D := (dC, dI)) (ci := 10) (v := .int (I 5)) (C := RX10) (T := TX10) (N := 28) hx hb hts hinX10 hown hK hP 0 rfl rfl 5 (by decide) (hts (.fieldLink RX10 72 "MixedWordsModel" "undone" "I") (by decide +kernel)) (fun _ h9 => h9) rfl dX10_redo_45 ?_
    refine xt_i (y := nI e5) (he) ?_
    refine lv_iconst (v := nI 1) hx hb dX10_redo_48 (by decide) ?_
    refine lv_isub hx hb dX10_redo_49 ?_
    refine xt_i (y := nI (e5 - 1)) (pk_sub (by omega)) ?_
    refine va_put (D := (dC, dI)) (ci := 10) (v := .int (nI (e5 - 1))) (ty := .int) (C := RX10) (T := TX10) (N := 28) hx hb hts hinX10 tyX10 tyX10_ok nmX10 hown hK hP hD hS 0 rfl rfl 5 (by decide) (hts (.fieldLink RX10 72 "MixedWordsModel" "undone" "I") (by decide +kernel)) (fun _ h9 => h9) rfl (by decide +kernel) rfl rfl (Nat.le_of_ble_eq_true rfl) dX10_redo_50 (fun H locs hP hD hS => ?_)
    have hP : va_P (dC, dI) vwCl (rW h cs (va_up (va_up I 4 (nI (d + 1))) 5 (nI (e5 - 1))) L (va_up A 3 (upd (A 3) q (A 8 d))) Q) H := hP
    have hD : va_D A0 (rW h cs (va_up (va_up I 4 (nI (d + 1))) 5 (nI (e5 - 1))) L (va_up A 3 (upd (A 3) q (A 8 d))) Q) := hD
    refine lv_aload_n hx hb dX10_redo_53 rfl (lv_at hl 0 rfl) ?_
    refine va_get (D := (dC, dI)) (ci := 10) (v := .int (nI (e5 - 1))) (C := RX10) (T := TX10) (N := 28) hx hb hts hinX10 hown hK hP 0 rfl rfl 5 (by decide) (hts (.fieldLink RX10 72 "MixedWordsModel" "undone" "I") (by decide +kernel)) (fun _ h9 => h9) rfl dX10_redo_54 ?_
    exact xr_i (v := (nI (e5 - 1))) hx hb hr hlocks hK hS dX10_redo_57 ((va_up (va_up I 4 (nI (d + 1))) 5 (nI (e5 - 1))), L, (va_up A 3 (upd (A 3) q (A 8 d))), Q) ⟨(nI (d + 1)), (nI (e5 - 1)), (upd (A 3) q (A 8 d)), (Or.inr ⟨by omega, rfl, rfl, rfl, q, hq, hqe, rfl⟩), rfl⟩ hP hD
  · skip
    refine lv_bipush (v := (-2)) hx hb dX10_redo_7 (by decide) ?_
    exact xr_i (v := (-2)) hx hb hr hlocks hK hS dX10_redo_9 ((va_up (va_up I 4 (I 4)) 5 (I 5)), L, (va_up A 3 (A 3)), Q) ⟨(I 4), (I 5), (A 3), (Or.inl ⟨by omega, rfl, rfl, rfl, rfl⟩), rfl⟩ hP hD
set_option maxRecDepth 20000 in
theorem ggX10_told_X10_isRow : GoodIn wsX10_told wsX10_isRow := goodIn_r _ [7, 8, 9, 10, 6, 11, 16, 17, 18, 19, 20, 21, 22, 23, 24, 25, 26, 27, 28, 29, 30, 31, 32, 33, 34, 35, 36, 37, 38, 39, 40, 41, 42, 43] rfl (by decide +kernel)
set_option maxRecDepth 20000 in
theorem gX10_told_X10_isRow : GoodIn wsX10_told (wsV RX10 86 RX10 yX10_isRow wsX10_isRow) := goodIn_app (goodIn_of _ (by decide +kernel)) ggX10_told_X10_isRow
set_option maxRecDepth 20000 in
theorem ggX10_told_X10_in : GoodIn wsX10_told wsX10_in := goodIn_r _ [11] rfl (by decide +kernel)
set_option maxRecDepth 20000 in
theorem gX10_told_X10_in : GoodIn wsX10_told (va_wsS RX10 77 yX10_in wsX10_in) := goodIn_app (goodIn_of _ (by decide +kernel)) ggX10_told_X10_in
set_option maxRecDepth 20000 in
theorem ggX10_told_X10_place : GoodIn wsX10_told wsX10_place := goodIn_r _ [15, 1, 16, 17, 18, 19, 20, 21, 22, 23, 24, 25, 26, 27, 28, 29, 30, 31, 32, 33, 34, 35, 36, 37, 38, 39, 40, 41, 42, 43] rfl (by decide +kernel)
set_option maxRecDepth 20000 in
theorem gX10_told_X10_place : GoodIn wsX10_told (wsV RX10 97 RX10 yX10_place wsX10_place) := goodIn_app (goodIn_of _ (by decide +kernel)) ggX10_told_X10_place
theorem bdX10_told_0 : (decode cX10_told 0 = .ok (.aload_n 0, 1)) ∧ (decode cX10_told 1 = .ok (.iload_n 1, 1)) ∧ (decode cX10_told 2 = .ok (.invokevirtual 86, 3)) ∧ (decode cX10_told 5 = .ok (.ifCond .eq 31, 3)) ∧ (decode cX10_told 8 = .ok (.iload_n 2, 1)) ∧ (decode cX10_told 9 = .ok (.i2l, 1)) ∧ (decode cX10_told 10 = .ok (.lconst 0, 1)) ∧ (decode cX10_told 11 = .ok (.aload_n 0, 1)) ∧ (decode cX10_told 12 = .ok (.getfield 13, 3)) ∧ (decode cX10_told 15 = .ok (.i2l, 1)) ∧ (decode cX10_told 16 = .ok (.invokestatic 77, 3)) ∧ (decode cX10_told 19 = .ok (.ifCond .eq 17, 3)) ∧ (decode cX10_told 22 = .ok (.aload_n 0, 1)) ∧ (decode cX10_told 23 = .ok (.getfield 19, 3)) ∧ (decode cX10_told 26 = .ok (.aload_n 0, 1)) ∧ (decode cX10_told 27 = .ok (.iload_n 1, 1)) := by decide +kernel
theorem dX10_told_0 : decode cX10_told 0 = .ok (.aload_n 0, 1) := bdX10_told_0.1
theorem dX10_told_1 : decode cX10_told 1 = .ok (.iload_n 1, 1) := bdX10_told_0.2.1
theorem dX10_told_2 : decode cX10_told 2 = .ok (.invokevirtual 86, 3) := bdX10_told_0.2.2.1
theorem dX10_told_5 : decode cX10_told 5 = .ok (.ifCond .eq 31, 3) := bdX10_told_0.2.2.2.1
theorem dX10_told_8 : decode cX10_told 8 = .ok (.iload_n 2, 1) := bdX10_told_0.2.2.2.2.1
theorem dX10_told_9 : decode cX10_told 9 = .ok (.i2l, 1) := bdX10_told_0.2.2.2.2.2.1
theorem dX10_told_10 : decode cX10_told 10 = .ok (.lconst 0, 1) := bdX10_told_0.2.2.2.2.2.2.1
theorem dX10_told_11 : decode cX10_told 11 = .ok (.aload_n 0, 1) := bdX10_told_0.2.2.2.2.2.2.2.1
theorem dX10_told_12 : decode cX10_told 12 = .ok (.getfield 13, 3) := bdX10_told_0.2.2.2.2.2.2.2.2.1
theorem dX10_told_15 : decode cX10_told 15 = .ok (.i2l, 1) := bdX10_told_0.2.2.2.2.2.2.2.2.2.1
theorem dX10_told_16 : decode cX10_told 16 = .ok (.invokestatic 77, 3) := bdX10_told_0.2.2.2.2.2.2.2.2.2.2.1
theorem dX10_told_19 : decode cX10_told 19 = .ok (.ifCond .eq 17, 3) := bdX10_told_0.2.2.2.2.2.2.2.2.2.2.2.1
theorem dX10_told_22 : decode cX10_told 22 = .ok (.aload_n 0, 1) := bdX10_told_0.2.2.2.2.2.2.2.2.2.2.2.2.1
theorem dX10_told_23 : decode cX10_told 23 = .ok (.getfield 19, 3) := bdX10_told_0.2.2.2.2.2.2.2.2.2.2.2.2.2.1
theorem dX10_told_26 : decode cX10_told 26 = .ok (.aload_n 0, 1) := bdX10_told_0.2.2.2.2.2.2.2.2.2.2.2.2.2.2.1
theorem dX10_told_27 : decode cX10_told 27 = .ok (.iload_n 1, 1) := bdX10_told_0.2.2.2.2.2.2.2.2.2.2.2.2.2.2.2
theorem bdX10_told_28 : (decode cX10_told 28 = .ok (.iload_n 2, 1)) ∧ (decode cX10_told 29 = .ok (.invokevirtual 97, 3)) ∧ (decode cX10_told 32 = .ok (.iaload, 1)) ∧ (decode cX10_told 33 = .ok (.goto 6, 3)) ∧ (decode cX10_told 36 = .ok (.sipush (-10001), 3)) ∧ (decode cX10_told 39 = .ok (.ireturn, 1)) := by decide +kernel
theorem dX10_told_28 : decode cX10_told 28 = .ok (.iload_n 2, 1) := bdX10_told_28.1
theorem dX10_told_29 : decode cX10_told 29 = .ok (.invokevirtual 97, 3) := bdX10_told_28.2.1
theorem dX10_told_32 : decode cX10_told 32 = .ok (.iaload, 1) := bdX10_told_28.2.2.1
theorem dX10_told_33 : decode cX10_told 33 = .ok (.goto 6, 3) := bdX10_told_28.2.2.2.1
theorem dX10_told_36 : decode cX10_told 36 = .ok (.sipush (-10001), 3) := bdX10_told_28.2.2.2.2.1
theorem dX10_told_39 : decode cX10_told 39 = .ok (.ireturn, 1) := bdX10_told_28.2.2.2.2.2
set_option maxHeartbeats 4000000 in
set_option maxRecDepth 100000 in
theorem k_X10_told (l : Launch) (dC : Nat → ClassId) (dI : Nat → Nat → Nat) (h : Nat → Nat) (cs : Nat → ClassId) (sz : Nat) (I : Nat → Int32) (L : Nat → Int64) (A : Nat → Nat → Int32) (Q : Nat → Nat → Int64) (x y : Int32) (R M : Nat) (hR : I 0 = nI R) (hR1 : 1 ≤ R) (hR5 : R ≤ 5) (hM : I 1 = nI M) (hM1 : 1 ≤ M) (hM4 : M ≤ 4) : Met l yX10_told wsX10_told ({ frames := 2, cells := 0, slots := 0, locals := 46 }) (va_Pc [.ref (h 0), .int x, .int y] (xPre (dC, dI) (rW h cs I L A Q) (tysA cs) sz)) (va_Qi (fun (r : Int32) (u : RS) => ((∃ i j : Nat, i < R ∧ j ≤ M ∧ x = nI i ∧ y = nI j ∧ r = A 3 (plc M i j)) ∨ (r = -10001 ∧ ∀ i j : Nat, i < R → j ≤ M → x = nI i → y = nI j → False)) ∧ u = (I, L, A, Q)) (xB (dC, dI) (tysA cs) (va_A (rW h cs I L A Q) sz) (fun u : RS => rW h cs u.1 u.2.1 u.2.2.1 u.2.2.2)) (va_A (rW h cs I L A Q) sz)) 0 0 (va_A (rW h cs I L A Q) sz) := by
  refine Met.ofW (cc := cX10_told) (maxL := 3) (ret := (some .int)) (by decide) rfl ?_
  intro p e s m args below meth c s₁ B hml hv
  obtain ⟨rfl, hsz, hP, hK, hD0, hN⟩ := hv
  have hx := B.exec
  have hb := B.bytes
  have hr := B.returns
  have hts := atoms_spec (ws := wsX10_told) B.pre
  have hown : s.vm.findClass RX10 = some m.cls := findClass_of_methodNamed B.named
  have hlocks := B.notSynchronized
  subst hsz
  have hD := hD0.self (sz := s.heap.size)
  generalize hAe : va_A (rW h cs I L A Q) s.heap.size = A0 at hD ⊢
  have hA : ∀ q : Nat, s.heap.size ≤ q → A0 q := fun q h => by rw [← hAe]; exact Or.inr h
  have hl := lv_entry ([.ref (h 0), .int x, .int y]) (n := 3) (Nat.le_of_ble_eq_true rfl)
  rw [lg_entry_eq]
  generalize (lg_sl ([.ref (h 0), .int x, .int y]) ++ List.replicate (3 - (lg_sl ([.ref (h 0), .int x, .int y])).length) Slot.unset).toArray = ls at hl ⊢
  have hl : lv_has ls 3 [(0, .ref (h 0)), (1, .int x), (2, .int y)] := hl
  generalize hH : s.heap = H at hP ⊢
  have hS : va_S A0 s.heap H [] := by rw [← hH]; exact va_S.rf
  have hinX10 : ∀ w ∈ wsX100, w ∈ wsX10_told := by decide +kernel
  refine lv_aload_n hx hb dX10_told_0 rfl (lv_at hl 0 rfl) ?_
  refine lv_iload_n hx hb dX10_told_1 rfl (lv_at hl 1 rfl) ?_
  refine xj_i (wc := (rW h cs I L A Q)) (wr := ([] : va_W)) hP hD hS hA [0, 1, 2, 3, 4, 5, 6, 7, 8, 9, 10, 11, 12, 13, 14, 15, 16] [] rfl rfl (by decide +kernel) (by decide +kernel) (va_runV (As := [.int x]) (rest := []) ⟨hx, hb, hml, hown, hts⟩ (k_X10_isRow l dC dI h cs H.size I L A Q x R hR (by first | assumption | omega | exact hR1) (by first | assumption | omega | exact hR5)) (cwV 1 hts gX10_told_X10_isRow rfl rfl rfl (by decide +kernel) ⟨Nat.le_of_ble_eq_true rfl, Nat.le_of_ble_eq_true rfl⟩) (xpV (wc := (rW h cs I L A Q)) hP hD hK hN [0, 1, 2, 3, 4, 5, 6, 7, 8, 9, 10, 11, 12, 13, 14, 15, 16] rfl (by decide) 0 (ci := 10) rfl rfl _) rfl rfl hl.1 rfl (lv_room (Nat.le_of_ble_eq_true rfl)) dX10_told_2 ⟨Nat.zero_le _, Nat.zero_le _⟩) (fun r_2 u_1 H locs hw hP hD hS => ?_)
  obtain ⟨hf_3, rfl⟩ := hw
  have hP : va_P (dC, dI) vwCl (rW h cs I L A Q) H := hP
  have hD : va_D A0 (rW h cs I L A Q) := hD
  rcases hf_3 with ⟨rfl, i_4, hi_5, hx_6⟩ | ⟨rfl, hn_7⟩
  · skip
    rw [hx_6] at hl
    refine xs_eqF (tgt := 36) hx hb dX10_told_5 (by decide) (by decide) ?_
    refine lv_iload_n hx hb dX10_told_8 rfl (lv_at hl 2 rfl) ?_
    refine lv_i2l (v := y.toInt64) hx hb dX10_told_9 rfl ?_
    refine lv_lconst (v := 0) hx hb dX10_told_10 rfl ?_
    refine lv_aload_n hx hb dX10_told_11 rfl (lv_at hl 0 rfl) ?_
    refine va_get (D := (dC, dI)) (ci := 10) (v := .int (I 1)) (C := RX10) (T := TX10) (N := 28) hx hb hts hinX10 hown hK hP 0 rfl rfl 1 (by decide) (hts (.fieldLink RX10 13 "MixedWordsModel" "columns" "I") (by decide +kernel)) (fun _ h9 => h9) rfl dX10_told_12 ?_
    refine xt_i (y := nI M) (hM) ?_
    refine lv_i2l (v := (nI M).toInt64) hx hb dX10_told_15 rfl ?_
    refine xj_i (wc := ([] : va_W)) (wr := (rW h cs I L A Q)) hP hD hS hA [] [0, 1, 2, 3, 4, 5, 6, 7, 8, 9, 10, 11, 12, 13, 14, 15, 16] rfl rfl (by decide +kernel) (by decide +kernel) (va_runS (As := [.long y.toInt64, .long (0 : Int64), .long ((nI M).toInt64)]) (rest := []) ⟨hx, hb, hml, hown, hts⟩ (k_X10_in l dC dI h cs H.size I L A Q y.toInt64 (0 : Int64) ((nI M).toInt64)) (va_cwS 3 hts gX10_told_X10_in rfl rfl rfl (by decide +kernel) ⟨Nat.le_of_ble_eq_true rfl, Nat.le_of_ble_eq_true rfl⟩) (xpS (wc := ([] : va_W)) hP hD hK hN [] rfl (by decide) _) rfl rfl hl.1 rfl (lv_room (Nat.le_of_ble_eq_true rfl)) dX10_told_16 ⟨Nat.zero_le _, Nat.zero_le _⟩) (fun r_10 u_9 H locs hw hP hD hS => ?_)
    obtain ⟨hf_11, rfl⟩ := hw
    have hP : va_P (dC, dI) vwCl (rW h cs I L A Q) H := hP
    have hD : va_D A0 (rW h cs I L A Q) := hD
    rcases in_N (a := 0) (b := M) (rfl) (nI_L (by omega)) hf_11 with ⟨rfl, i_12, ha_13, hb_14, hx_15⟩ | ⟨rfl, hn_16⟩
    · skip
      rw [hx_15] at hl
      refine xs_eqF (tgt := 36) hx hb dX10_told_19 (by decide) (by decide) ?_
      refine lv_aload_n hx hb dX10_told_22 rfl (lv_at hl 0 rfl) ?_
      refine va_get (D := (dC, dI)) (ci := 10) (v := .ref (h 3)) (C := RX10) (T := TX10) (N := 28) hx hb hts hinX10 hown hK hP 0 rfl rfl 3 (by decide) (hts (.fieldLink RX10 19 "MixedWordsModel" "told" "[I") (by decide +kernel)) (fun _ h9 => h9) rfl dX10_told_23 ?_
      refine lv_aload_n hx hb dX10_told_26 rfl (lv_at hl 0 rfl) ?_
      refine lv_iload_n hx hb dX10_told_27 rfl (lv_at hl 1 rfl) ?_
      refine lv_iload_n hx hb dX10_told_28 rfl (lv_at hl 2 rfl) ?_
      refine xj_i (wc := (rW h cs I L A Q)) (wr := ([] : va_W)) hP hD hS hA [0, 1, 2, 3, 4, 5, 6, 7, 8, 9, 10, 11, 12, 13, 14, 15, 16] [] rfl rfl (by decide +kernel) (by decide +kernel) (va_runV (As := [.int (nI i_4), .int (nI i_12)]) (rest := [.ref (h 3)]) ⟨hx, hb, hml, hown, hts⟩ (k_X10_place l dC dI h cs H.size I L A Q i_4 i_12 M (by first | assumption | omega) (by first | assumption | omega) hM (by first | assumption | omega | exact hM1) (by first | assumption | omega | exact hM4)) (cwV 2 hts gX10_told_X10_place rfl rfl rfl (by decide +kernel) ⟨Nat.le_of_ble_eq_true rfl, Nat.le_of_ble_eq_true rfl⟩) (xpV (wc := (rW h cs I L A Q)) hP hD hK hN [0, 1, 2, 3, 4, 5, 6, 7, 8, 9, 10, 11, 12, 13, 14, 15, 16] rfl (by decide) 0 (ci := 10) rfl rfl _) rfl rfl hl.1 rfl (lv_room (Nat.le_of_ble_eq_true rfl)) dX10_told_29 ⟨Nat.zero_le _, Nat.zero_le _⟩) (fun r_19 u_18 H locs hw hP hD hS => ?_)
      obtain ⟨hf_20, rfl⟩ := hw
      have hP : va_P (dC, dI) vwCl (rW h cs I L A Q) H := hP
      have hD : va_D A0 (rW h cs I L A Q) := hD
      obtain rfl := hf_20
      have hpl_21 : plc M i_4 i_12 < 25 := plc_lt (by omega) (by omega) (by omega)
      refine xa_iald hx hb hK hP 1 0 rfl rfl (by omega) (by decide) dX10_told_32 ?_
      refine lv_goto (tgt := 39) hx hb dX10_told_33 (by decide) ?_
      exact xr_i (v := (A 3 (plc M i_4 i_12))) hx hb hr hlocks hK hS dX10_told_39 (I, L, A, Q) ⟨(Or.inl ⟨i_4, i_12, by assumption, by assumption, by assumption, by assumption, rfl⟩), rfl⟩ hP hD
    · skip
      refine xs_eqT (tgt := 36) hx hb dX10_told_19 (by decide) (by decide) ?_
      refine lv_sipush (v := (-10001)) hx hb dX10_told_36 (by decide) ?_
      exact xr_i (v := (-10001)) hx hb hr hlocks hK hS dX10_told_39 (I, L, A, Q) ⟨(Or.inr ⟨rfl, fun i j a b c d => hn_16 j (by omega) b (by omega) d⟩), rfl⟩ hP hD
  · skip
    refine xs_eqT (tgt := 36) hx hb dX10_told_5 (by decide) (by decide) ?_
    refine lv_sipush (v := (-10001)) hx hb dX10_told_36 (by decide) ?_
    exact xr_i (v := (-10001)) hx hb hr hlocks hK hS dX10_told_39 (I, L, A, Q) ⟨(Or.inr ⟨rfl, fun i j a b c d => hn_7 i a c⟩), rfl⟩ hP hD
