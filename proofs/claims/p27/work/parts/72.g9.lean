def wTk0 (h : Nat → Nat) (cs : Nat → ClassId) (I : Nat → Int32) (L : Nat → Int64) (A : Nat → Nat → Int32) (Q : Nat → Nat → Int64) (G : Nat → Nat → Nat → Int32) (J : Nat → Nat → Nat → Int64) : va_W := [(h 101, .inr (3, [.int (I 120), .int (I 121), .int (I 122), .int (I 123), .ref (h 130), .ref (h 136)])), (h 130, .inl (cs 3, 5, .inr (.inr (.inr (.inr (fun i => if i < 5 then some (h (i + 131)) else none)))))), (h 131, .inl (cs 0, 4, .inl ((G 0) 0))), (h 132, .inl (cs 0, 4, .inl ((G 0) 1))), (h 133, .inl (cs 0, 4, .inl ((G 0) 2))), (h 134, .inl (cs 0, 4, .inl ((G 0) 3))), (h 135, .inl (cs 0, 4, .inl ((G 0) 4))), (h 136, .inl (cs 0, 5, .inl (A 136))), (h 228, .inl (cs 1, 25, .inr (.inl (Q 228))))]
theorem wTk0_atG0 {h : Nat → Nat} {cs : Nat → ClassId} {I : Nat → Int32} {L : Nat → Int64} {A : Nat → Nat → Int32} {Q : Nat → Nat → Int64} {G : Nat → Nat → Nat → Int32} {J : Nat → Nat → Nat → Int64} {k : Nat} (hk : k < 5) : (wTk0 h cs I L A Q G J)[2 + k]? = some (h (k + 131), .inl (cs 0, 4, .inl (G 0 k))) := by
  rcases (show k = 0 ∨ k = 1 ∨ k = 2 ∨ k = 3 ∨ k = 4 by omega) with rfl | rfl | rfl | rfl | rfl <;> rfl
theorem wTk0_setG0 {h : Nat → Nat} {cs : Nat → ClassId} {I : Nat → Int32} {L : Nat → Int64} {A : Nat → Nat → Int32} {Q : Nat → Nat → Int64} {G : Nat → Nat → Nat → Int32} {J : Nat → Nat → Nat → Int64} {k : Nat} {f : Nat → Int32} (hk : k < 5) : (wTk0 h cs I L A Q G J).set (2 + k) (h (k + 131), .inl (cs 0, 4, .inl (f))) = wTk0 h cs I L A Q (va_up G 0 (va_up (G 0) k f)) J := by
  rcases (show k = 0 ∨ k = 1 ∨ k = 2 ∨ k = 3 ∨ k = 4 by omega) with rfl | rfl | rfl | rfl | rfl <;> rfl
def wTk1 (h : Nat → Nat) (cs : Nat → ClassId) (I : Nat → Int32) (L : Nat → Int64) (A : Nat → Nat → Int32) (Q : Nat → Nat → Int64) (G : Nat → Nat → Nat → Int32) (J : Nat → Nat → Nat → Int64) : va_W := [(h 101, .inr (3, [.int (I 120), .int (I 121), .int (I 122), .int (I 123), .ref (h 130), .ref (h 136)])), (h 130, .inl (cs 3, 5, .inr (.inr (.inr (.inr (fun i => if i < 5 then some (h (i + 131)) else none)))))), (h 131, .inl (cs 0, 4, .inl ((G 0) 0))), (h 132, .inl (cs 0, 4, .inl ((G 0) 1))), (h 133, .inl (cs 0, 4, .inl ((G 0) 2))), (h 134, .inl (cs 0, 4, .inl ((G 0) 3))), (h 135, .inl (cs 0, 4, .inl ((G 0) 4))), (h 136, .inl (cs 0, 5, .inl (A 136))), (h 229, .inl (cs 1, 25, .inr (.inl (Q 229))))]
theorem wTk1_atG0 {h : Nat → Nat} {cs : Nat → ClassId} {I : Nat → Int32} {L : Nat → Int64} {A : Nat → Nat → Int32} {Q : Nat → Nat → Int64} {G : Nat → Nat → Nat → Int32} {J : Nat → Nat → Nat → Int64} {k : Nat} (hk : k < 5) : (wTk1 h cs I L A Q G J)[2 + k]? = some (h (k + 131), .inl (cs 0, 4, .inl (G 0 k))) := by
  rcases (show k = 0 ∨ k = 1 ∨ k = 2 ∨ k = 3 ∨ k = 4 by omega) with rfl | rfl | rfl | rfl | rfl <;> rfl
theorem wTk1_setG0 {h : Nat → Nat} {cs : Nat → ClassId} {I : Nat → Int32} {L : Nat → Int64} {A : Nat → Nat → Int32} {Q : Nat → Nat → Int64} {G : Nat → Nat → Nat → Int32} {J : Nat → Nat → Nat → Int64} {k : Nat} {f : Nat → Int32} (hk : k < 5) : (wTk1 h cs I L A Q G J).set (2 + k) (h (k + 131), .inl (cs 0, 4, .inl (f))) = wTk1 h cs I L A Q (va_up G 0 (va_up (G 0) k f)) J := by
  rcases (show k = 0 ∨ k = 1 ∨ k = 2 ∨ k = 3 ∨ k = 4 by omega) with rfl | rfl | rfl | rfl | rfl <;> rfl
def wTk2 (h : Nat → Nat) (cs : Nat → ClassId) (I : Nat → Int32) (L : Nat → Int64) (A : Nat → Nat → Int32) (Q : Nat → Nat → Int64) (G : Nat → Nat → Nat → Int32) (J : Nat → Nat → Nat → Int64) : va_W := [(h 101, .inr (3, [.int (I 120), .int (I 121), .int (I 122), .int (I 123), .ref (h 130), .ref (h 136)])), (h 130, .inl (cs 3, 5, .inr (.inr (.inr (.inr (fun i => if i < 5 then some (h (i + 131)) else none)))))), (h 131, .inl (cs 0, 4, .inl ((G 0) 0))), (h 132, .inl (cs 0, 4, .inl ((G 0) 1))), (h 133, .inl (cs 0, 4, .inl ((G 0) 2))), (h 134, .inl (cs 0, 4, .inl ((G 0) 3))), (h 135, .inl (cs 0, 4, .inl ((G 0) 4))), (h 136, .inl (cs 0, 5, .inl (A 136))), (h 230, .inl (cs 1, 25, .inr (.inl (Q 230))))]
theorem wTk2_atG0 {h : Nat → Nat} {cs : Nat → ClassId} {I : Nat → Int32} {L : Nat → Int64} {A : Nat → Nat → Int32} {Q : Nat → Nat → Int64} {G : Nat → Nat → Nat → Int32} {J : Nat → Nat → Nat → Int64} {k : Nat} (hk : k < 5) : (wTk2 h cs I L A Q G J)[2 + k]? = some (h (k + 131), .inl (cs 0, 4, .inl (G 0 k))) := by
  rcases (show k = 0 ∨ k = 1 ∨ k = 2 ∨ k = 3 ∨ k = 4 by omega) with rfl | rfl | rfl | rfl | rfl <;> rfl
theorem wTk2_setG0 {h : Nat → Nat} {cs : Nat → ClassId} {I : Nat → Int32} {L : Nat → Int64} {A : Nat → Nat → Int32} {Q : Nat → Nat → Int64} {G : Nat → Nat → Nat → Int32} {J : Nat → Nat → Nat → Int64} {k : Nat} {f : Nat → Int32} (hk : k < 5) : (wTk2 h cs I L A Q G J).set (2 + k) (h (k + 131), .inl (cs 0, 4, .inl (f))) = wTk2 h cs I L A Q (va_up G 0 (va_up (G 0) k f)) J := by
  rcases (show k = 0 ∨ k = 1 ∨ k = 2 ∨ k = 3 ∨ k = 4 by omega) with rfl | rfl | rfl | rfl | rfl <;> rfl
def wTk3 (h : Nat → Nat) (cs : Nat → ClassId) (I : Nat → Int32) (L : Nat → Int64) (A : Nat → Nat → Int32) (Q : Nat → Nat → Int64) (G : Nat → Nat → Nat → Int32) (J : Nat → Nat → Nat → Int64) : va_W := [(h 101, .inr (3, [.int (I 120), .int (I 121), .int (I 122), .int (I 123), .ref (h 130), .ref (h 136)])), (h 130, .inl (cs 3, 5, .inr (.inr (.inr (.inr (fun i => if i < 5 then some (h (i + 131)) else none)))))), (h 131, .inl (cs 0, 4, .inl ((G 0) 0))), (h 132, .inl (cs 0, 4, .inl ((G 0) 1))), (h 133, .inl (cs 0, 4, .inl ((G 0) 2))), (h 134, .inl (cs 0, 4, .inl ((G 0) 3))), (h 135, .inl (cs 0, 4, .inl ((G 0) 4))), (h 136, .inl (cs 0, 5, .inl (A 136))), (h 231, .inl (cs 1, 25, .inr (.inl (Q 231))))]
theorem wTk3_atG0 {h : Nat → Nat} {cs : Nat → ClassId} {I : Nat → Int32} {L : Nat → Int64} {A : Nat → Nat → Int32} {Q : Nat → Nat → Int64} {G : Nat → Nat → Nat → Int32} {J : Nat → Nat → Nat → Int64} {k : Nat} (hk : k < 5) : (wTk3 h cs I L A Q G J)[2 + k]? = some (h (k + 131), .inl (cs 0, 4, .inl (G 0 k))) := by
  rcases (show k = 0 ∨ k = 1 ∨ k = 2 ∨ k = 3 ∨ k = 4 by omega) with rfl | rfl | rfl | rfl | rfl <;> rfl
theorem wTk3_setG0 {h : Nat → Nat} {cs : Nat → ClassId} {I : Nat → Int32} {L : Nat → Int64} {A : Nat → Nat → Int32} {Q : Nat → Nat → Int64} {G : Nat → Nat → Nat → Int32} {J : Nat → Nat → Nat → Int64} {k : Nat} {f : Nat → Int32} (hk : k < 5) : (wTk3 h cs I L A Q G J).set (2 + k) (h (k + 131), .inl (cs 0, 4, .inl (f))) = wTk3 h cs I L A Q (va_up G 0 (va_up (G 0) k f)) J := by
  rcases (show k = 0 ∨ k = 1 ∨ k = 2 ∨ k = 3 ∨ k = 4 by omega) with rfl | rfl | rfl | rfl | rfl <;> rfl

def lim9 (M j : Nat) : Int := if j = M then 999 else 9
def okI (M j : Nat) (v : Int64) : Prop := -(lim9 M j) ≤ v.toInt ∧ v.toInt ≤ lim9 M j
def tkI (q : Nat → Int64) (f M n k : Nat) : Prop := ∀ i j : Nat, j ≤ M → (i < n ∨ (i = n ∧ j < k)) → okI M j (q (f + (i * (M + 1) + j)))
theorem wi_L {v : Int64} {n : Nat} {r : Int32} (ha : (-nI n).toInt64.toInt = -(n : Int)) (hb : (nI n).toInt64.toInt = n) (h : r = if (-nI n).toInt64 ≤ v ∧ v ≤ (nI n).toInt64 then 1 else 0) : (r = nI 1 ∧ (-(n : Int) ≤ v.toInt ∧ v.toInt ≤ n)) ∨ (r = nI 0 ∧ ¬ (-(n : Int) ≤ v.toInt ∧ v.toInt ≤ n)) := by
  have e : ((-nI n).toInt64 ≤ v ∧ v ≤ (nI n).toInt64) ↔ (-(n : Int) ≤ v.toInt ∧ v.toInt ≤ n) := by
    rw [Int64.le_iff_toInt_le, Int64.le_iff_toInt_le, ha, hb]
  by_cases q : (-nI n).toInt64 ≤ v ∧ v ≤ (nI n).toInt64
  · rw [if_pos q] at h
    exact Or.inl ⟨h, e.mp q⟩
  · rw [if_neg q] at h
    exact Or.inr ⟨h, fun g => q (e.mpr g)⟩
theorem okI_M {M j : Nat} {v : Int64} (e : j = M) : okI M j v ↔ (-((999 : Nat) : Int) ≤ v.toInt ∧ v.toInt ≤ ((999 : Nat) : Int)) := by
  unfold okI lim9
  rw [if_pos e]
  exact Iff.rfl
theorem okI_N {M j : Nat} {v : Int64} (e : ¬ j = M) : okI M j v ↔ (-((9 : Nat) : Int) ≤ v.toInt ∧ v.toInt ≤ ((9 : Nat) : Int)) := by
  unfold okI lim9
  rw [if_neg e]
  exact Iff.rfl
theorem tk_0 {q : Nat → Int64} {f M : Nat} : tkI q f M 0 0 := fun i j _ h => by omega
theorem tk_s {q : Nat → Int64} {f M n k p : Nat} (hp : p = f + (n * (M + 1) + k)) (h : tkI q f M n k) (ho : okI M k (q p)) : tkI q f M n (k + 1) := fun i j hj hi => by
  by_cases e : i = n ∧ j = k
  · rw [e.1, e.2, ← hp]
    exact ho
  · exact h i j hj (by omega)
theorem tk_r {q : Nat → Int64} {f M n k : Nat} (hk : M + 1 ≤ k) (h : tkI q f M n k) : tkI q f M (n + 1) 0 := fun i j hj hi => h i j hj (by omega)
theorem ix_lt {R M n k : Nat} (hn : n < R) (hk : k ≤ M) : n * (M + 1) + k < R * (M + 1) := by
  have h1 : (n + 1) * (M + 1) ≤ R * (M + 1) := Nat.mul_le_mul_right _ hn
  rw [Nat.succ_mul] at h1
  omega
def cpI (q : Nat → Int64) (f M n k : Nat) (he : Nat → Int32) (g : Nat → Nat → Int32) : Prop := ∀ i j : Nat, j ≤ M → (i < n ∨ (i = n ∧ j < k)) → atF he g M i j = (q (f + (i * (M + 1) + j))).toInt32
theorem put_at {M i j : Nat} {v : Int32} {he he2 : Nat → Int32} {g g2 : Nat → Nat → Int32} (h : putP M i j v he g he2 g2) : atF he2 g2 M i j = v ∧ ∀ i2 j2 : Nat, j2 ≤ M → ¬ (i2 = i ∧ j2 = j) → atF he2 g2 M i2 j2 = atF he g M i2 j2 := by
  rcases h with ⟨h1, h2, h3⟩ | ⟨h1, h2, h3⟩
  · subst h1 h2 h3
    unfold atF
    refine ⟨by rw [if_pos rfl, pk_us], fun i2 j2 hj hne => ?_⟩
    split
    · exact pk_un (by omega)
    · rfl
  · subst h2 h3
    unfold atF
    refine ⟨by rw [if_neg (by omega)]; simp only [va_up, if_true]; exact pk_us, fun i2 j2 hj hne => ?_⟩
    split
    · rfl
    · by_cases e : i2 = i
      · subst e
        simp only [va_up, if_true]
        exact pk_un (by omega)
      · simp only [va_up, if_neg e]
theorem cp_0 {q : Nat → Int64} {f M : Nat} {he : Nat → Int32} {g : Nat → Nat → Int32} : cpI q f M 0 0 he g := fun i j _ h => by omega
theorem cp_s {q : Nat → Int64} {f M n k p : Nat} {he he2 : Nat → Int32} {g g2 : Nat → Nat → Int32} (hp : p = f + (n * (M + 1) + k)) (hk : k ≤ M) (h : cpI q f M n k he g) (ho : putP M n k (q p).toInt32 he g he2 g2) : cpI q f M n (k + 1) he2 g2 := fun i j hj hi => by
  obtain ⟨h1, h2⟩ := put_at ho
  by_cases e : i = n ∧ j = k
  · rw [e.1, e.2, h1, hp]
  · rw [h2 i j hj e]
    exact h i j hj (by omega)
theorem cp_r {q : Nat → Int64} {f M n k : Nat} {he : Nat → Int32} {g : Nat → Nat → Int32} (hk : M + 1 ≤ k) (h : cpI q f M n k he g) : cpI q f M (n + 1) 0 he g := fun i j hj hi => h i j hj (by omega)
set_option maxRecDepth 20000 in
theorem ggX3_takes_X9_within : GoodIn wsX3_takes wsX9_within := goodIn_r _ [5] rfl (by decide +kernel)
set_option maxRecDepth 20000 in
theorem gX3_takes_X9_within_n43 : GoodIn wsX3_takes (wsX9_within) := ggX3_takes_X9_within
theorem bdX3_takes_0 : (decode cX3_takes 0 = .ok (.iload_n 2, 1)) ∧ (decode cX3_takes 1 = .ok (.istore_n 3, 1)) ∧ (decode cX3_takes 2 = .ok (.iconst 0, 1)) ∧ (decode cX3_takes 3 = .ok (.istore 4, 2)) ∧ (decode cX3_takes 5 = .ok (.iload 4, 2)) ∧ (decode cX3_takes 7 = .ok (.aload_n 0, 1)) ∧ (decode cX3_takes 8 = .ok (.getfield 9, 3)) ∧ (decode cX3_takes 11 = .ok (.if_icmp .ge 58, 3)) ∧ (decode cX3_takes 14 = .ok (.iconst 0, 1)) ∧ (decode cX3_takes 15 = .ok (.istore 5, 2)) ∧ (decode cX3_takes 17 = .ok (.iload 5, 2)) ∧ (decode cX3_takes 19 = .ok (.aload_n 0, 1)) ∧ (decode cX3_takes 20 = .ok (.getfield 15, 3)) ∧ (decode cX3_takes 23 = .ok (.if_icmp .gt 40, 3)) ∧ (decode cX3_takes 26 = .ok (.aload_n 1, 1)) ∧ (decode cX3_takes 27 = .ok (.iload_n 3, 1)) := by decide +kernel
theorem dX3_takes_0 : decode cX3_takes 0 = .ok (.iload_n 2, 1) := bdX3_takes_0.1
theorem dX3_takes_1 : decode cX3_takes 1 = .ok (.istore_n 3, 1) := bdX3_takes_0.2.1
theorem dX3_takes_2 : decode cX3_takes 2 = .ok (.iconst 0, 1) := bdX3_takes_0.2.2.1
theorem dX3_takes_3 : decode cX3_takes 3 = .ok (.istore 4, 2) := bdX3_takes_0.2.2.2.1
theorem dX3_takes_5 : decode cX3_takes 5 = .ok (.iload 4, 2) := bdX3_takes_0.2.2.2.2.1
theorem dX3_takes_7 : decode cX3_takes 7 = .ok (.aload_n 0, 1) := bdX3_takes_0.2.2.2.2.2.1
theorem dX3_takes_8 : decode cX3_takes 8 = .ok (.getfield 9, 3) := bdX3_takes_0.2.2.2.2.2.2.1
theorem dX3_takes_11 : decode cX3_takes 11 = .ok (.if_icmp .ge 58, 3) := bdX3_takes_0.2.2.2.2.2.2.2.1
theorem dX3_takes_14 : decode cX3_takes 14 = .ok (.iconst 0, 1) := bdX3_takes_0.2.2.2.2.2.2.2.2.1
theorem dX3_takes_15 : decode cX3_takes 15 = .ok (.istore 5, 2) := bdX3_takes_0.2.2.2.2.2.2.2.2.2.1
theorem dX3_takes_17 : decode cX3_takes 17 = .ok (.iload 5, 2) := bdX3_takes_0.2.2.2.2.2.2.2.2.2.2.1
theorem dX3_takes_19 : decode cX3_takes 19 = .ok (.aload_n 0, 1) := bdX3_takes_0.2.2.2.2.2.2.2.2.2.2.2.1
theorem dX3_takes_20 : decode cX3_takes 20 = .ok (.getfield 15, 3) := bdX3_takes_0.2.2.2.2.2.2.2.2.2.2.2.2.1
theorem dX3_takes_23 : decode cX3_takes 23 = .ok (.if_icmp .gt 40, 3) := bdX3_takes_0.2.2.2.2.2.2.2.2.2.2.2.2.2.1
theorem dX3_takes_26 : decode cX3_takes 26 = .ok (.aload_n 1, 1) := bdX3_takes_0.2.2.2.2.2.2.2.2.2.2.2.2.2.2.1
theorem dX3_takes_27 : decode cX3_takes 27 = .ok (.iload_n 3, 1) := bdX3_takes_0.2.2.2.2.2.2.2.2.2.2.2.2.2.2.2
theorem bdX3_takes_28 : (decode cX3_takes 28 = .ok (.laload, 1)) ∧ (decode cX3_takes 29 = .ok (.iload 5, 2)) ∧ (decode cX3_takes 31 = .ok (.aload_n 0, 1)) ∧ (decode cX3_takes 32 = .ok (.getfield 15, 3)) ∧ (decode cX3_takes 35 = .ok (.if_icmp .ne 9, 3)) ∧ (decode cX3_takes 38 = .ok (.sipush 999, 3)) ∧ (decode cX3_takes 41 = .ok (.goto 5, 3)) ∧ (decode cX3_takes 44 = .ok (.bipush 9, 2)) ∧ (decode cX3_takes 46 = .ok (.invokestatic 43, 3)) ∧ (decode cX3_takes 49 = .ok (.ifCond .ne 5, 3)) ∧ (decode cX3_takes 52 = .ok (.iconst 0, 1)) ∧ (decode cX3_takes 53 = .ok (.ireturn, 1)) ∧ (decode cX3_takes 54 = .ok (.iinc 3 1, 3)) ∧ (decode cX3_takes 57 = .ok (.iinc 5 1, 3)) ∧ (decode cX3_takes 60 = .ok (.goto (-43), 3)) ∧ (decode cX3_takes 63 = .ok (.iinc 4 1, 3)) := by decide +kernel
theorem dX3_takes_28 : decode cX3_takes 28 = .ok (.laload, 1) := bdX3_takes_28.1
theorem dX3_takes_29 : decode cX3_takes 29 = .ok (.iload 5, 2) := bdX3_takes_28.2.1
theorem dX3_takes_31 : decode cX3_takes 31 = .ok (.aload_n 0, 1) := bdX3_takes_28.2.2.1
theorem dX3_takes_32 : decode cX3_takes 32 = .ok (.getfield 15, 3) := bdX3_takes_28.2.2.2.1
theorem dX3_takes_35 : decode cX3_takes 35 = .ok (.if_icmp .ne 9, 3) := bdX3_takes_28.2.2.2.2.1
theorem dX3_takes_38 : decode cX3_takes 38 = .ok (.sipush 999, 3) := bdX3_takes_28.2.2.2.2.2.1
theorem dX3_takes_41 : decode cX3_takes 41 = .ok (.goto 5, 3) := bdX3_takes_28.2.2.2.2.2.2.1
theorem dX3_takes_44 : decode cX3_takes 44 = .ok (.bipush 9, 2) := bdX3_takes_28.2.2.2.2.2.2.2.1
theorem dX3_takes_46 : decode cX3_takes 46 = .ok (.invokestatic 43, 3) := bdX3_takes_28.2.2.2.2.2.2.2.2.1
theorem dX3_takes_49 : decode cX3_takes 49 = .ok (.ifCond .ne 5, 3) := bdX3_takes_28.2.2.2.2.2.2.2.2.2.1
theorem dX3_takes_52 : decode cX3_takes 52 = .ok (.iconst 0, 1) := bdX3_takes_28.2.2.2.2.2.2.2.2.2.2.1
theorem dX3_takes_53 : decode cX3_takes 53 = .ok (.ireturn, 1) := bdX3_takes_28.2.2.2.2.2.2.2.2.2.2.2.1
theorem dX3_takes_54 : decode cX3_takes 54 = .ok (.iinc 3 1, 3) := bdX3_takes_28.2.2.2.2.2.2.2.2.2.2.2.2.1
theorem dX3_takes_57 : decode cX3_takes 57 = .ok (.iinc 5 1, 3) := bdX3_takes_28.2.2.2.2.2.2.2.2.2.2.2.2.2.1
theorem dX3_takes_60 : decode cX3_takes 60 = .ok (.goto (-43), 3) := bdX3_takes_28.2.2.2.2.2.2.2.2.2.2.2.2.2.2.1
theorem dX3_takes_63 : decode cX3_takes 63 = .ok (.iinc 4 1, 3) := bdX3_takes_28.2.2.2.2.2.2.2.2.2.2.2.2.2.2.2
theorem bdX3_takes_66 : (decode cX3_takes 66 = .ok (.goto (-61), 3)) ∧ (decode cX3_takes 69 = .ok (.iconst 1, 1)) ∧ (decode cX3_takes 70 = .ok (.ireturn, 1)) := by decide +kernel
theorem dX3_takes_66 : decode cX3_takes 66 = .ok (.goto (-61), 3) := bdX3_takes_66.1
theorem dX3_takes_69 : decode cX3_takes 69 = .ok (.iconst 1, 1) := bdX3_takes_66.2.1
theorem dX3_takes_70 : decode cX3_takes 70 = .ok (.ireturn, 1) := bdX3_takes_66.2.2
set_option maxHeartbeats 4000000 in
set_option maxRecDepth 100000 in
theorem k_X3_takes0 (l : Launch) (dC : Nat → ClassId) (dI : Nat → Nat → Nat) (h : Nat → Nat) (cs : Nat → ClassId) (sz : Nat) (I : Nat → Int32) (L : Nat → Int64) (A : Nat → Nat → Int32) (Q : Nat → Nat → Int64) (G : Nat → Nat → Nat → Int32) (J : Nat → Nat → Nat → Int64) (f9 R M : Nat) (hf9 : f9 + R * (M + 1) ≤ 25) (hR : I 120 = nI R) (hR1 : 1 ≤ R) (hR5 : R ≤ 5) (hM : I 121 = nI M) (hM1 : 1 ≤ M) (hM4 : M ≤ 4) : Met l yX3_takes wsX3_takes ({ frames := 1, cells := 0, slots := 0, locals := 22 }) (va_Pc [.ref (h 101), .ref (h 228), .int (nI f9)] (xPre (dC, dI) (wTk0 h cs I L A Q G J) (tysA cs) sz)) (va_Qi (fun (r : Int32) (u : CS) => ((r = nI 1 ∧ tkI (Q 228) f9 M R 0) ∨ (r = nI 0 ∧ ¬ tkI (Q 228) f9 M R 0)) ∧ u = (I, L, A, Q, G, J)) (xB (dC, dI) (tysA cs) (va_A (wTk0 h cs I L A Q G J) sz) (fun u : CS => wTk0 h cs u.1 u.2.1 u.2.2.1 u.2.2.2.1 u.2.2.2.2.1 u.2.2.2.2.2)) (va_A (wTk0 h cs I L A Q G J) sz)) 0 0 (va_A (wTk0 h cs I L A Q G J) sz) := by
  refine Met.ofW (cc := cX3_takes) (maxL := 6) (ret := (some .boolean)) (by decide) rfl ?_
  intro p e s m args below meth c s₁ B hml hv
  obtain ⟨rfl, hsz, hP, hK, hD0, hN⟩ := hv
  have hx := B.exec
  have hb := B.bytes
  have hr := B.returns
  have hts := atoms_spec (ws := wsX3_takes) B.pre
  have hown : s.vm.findClass RX3 = some m.cls := findClass_of_methodNamed B.named
  have hlocks := B.notSynchronized
  subst hsz
  have hD := hD0.self (sz := s.heap.size)
  generalize hAe : va_A (wTk0 h cs I L A Q G J) s.heap.size = A0 at hD ⊢
  have hA : ∀ q : Nat, s.heap.size ≤ q → A0 q := fun q h => by rw [← hAe]; exact Or.inr h
  have hl := lv_entry ([.ref (h 101), .ref (h 228), .int (nI f9)]) (n := 6) (Nat.le_of_ble_eq_true rfl)
  rw [lg_entry_eq]
  generalize (lg_sl ([.ref (h 101), .ref (h 228), .int (nI f9)]) ++ List.replicate (6 - (lg_sl ([.ref (h 101), .ref (h 228), .int (nI f9)])).length) Slot.unset).toArray = ls at hl ⊢
  have hl : lv_has ls 6 [(0, .ref (h 101)), (1, .ref (h 228)), (2, .int (nI f9))] := hl
  generalize hH : s.heap = H at hP ⊢
  have hS : va_S A0 s.heap H [] := by rw [← hH]; exact va_S.rf
  have hinX3 : ∀ w ∈ wsX30, w ∈ wsX3_takes := by decide +kernel
  refine lv_iload_n hx hb dX3_takes_0 rfl (lv_at hl 2 rfl) ?_
  refine lv_istore_n (lv' := [(3, .int (nI f9)), (0, .ref (h 101)), (1, .ref (h 228)), (2, .int (nI f9))]) hx hb dX3_takes_1 rfl hl (by decide) rfl (fun ls hl => ?_)
  refine lv_iconst (v := nI 0) hx hb dX3_takes_2 (by decide) ?_
  refine lv_istore (lv' := [(4, .int (nI 0)), (3, .int (nI f9)), (0, .ref (h 101)), (1, .ref (h 228)), (2, .int (nI f9))]) hx hb dX3_takes_3 hl (by decide) rfl (fun ls hl => ?_)
  have cut_5 : ∀ (nf : Nat) (n : Nat) (p5 : Nat), (R - n) < nf → (n ≤ R) → (p5 = f9 + n * (M + 1)) → (p5 ≤ 25) → (tkI (Q 228) f9 M n 0) → ∀ (H : Heap) (locs : List Loc) (ls : Array Slot), va_P (dC, dI) vwCl (wTk0 h cs I L A Q G J) H → va_D A0 (wTk0 h cs I L A Q G J) → va_S A0 s.heap H locs → lv_has ls 6 [(0, .ref (h 101)), (1, .ref (h 228)), (2, .int (nI f9)), (3, .int (nI p5)), (4, .int (nI n))] → W p l e (headSpec wsX3_takes ({ frames := 1, cells := 0, slots := 0, locals := 22 })).room s m ([.ref (h 101), .ref (h 228), .int (nI f9)] : List Value).toArray below meth c H locs 0 0 (MQ below (va_Qi (fun (r : Int32) (u : CS) => ((r = nI 1 ∧ tkI (Q 228) f9 M R 0) ∨ (r = nI 0 ∧ ¬ tkI (Q 228) f9 M R 0)) ∧ u = (I, L, A, Q, G, J)) (xB (dC, dI) (tysA cs) A0 (fun u : CS => wTk0 h cs u.1 u.2.1 u.2.2.1 u.2.2.2.1 u.2.2.2.2.1 u.2.2.2.2.2)) A0) ([.ref (h 101), .ref (h 228), .int (nI f9)] : List Value).toArray s 0 0 A0) (F0 m 5 ls []) := by
    intro nf
    induction nf with
    | zero => intro n p5 hm; exact absurd hm (Nat.not_lt_zero _)
    | succ nf ih_5 =>
      intro n p5 hm_5 hn5 hp5 hp5b ht5 H locs ls hP hD hS hl
      refine lv_iload hx hb dX3_takes_5 (lv_at hl 4 rfl) ?_
      refine lv_aload_n hx hb dX3_takes_7 rfl (lv_at hl 0 rfl) ?_
      refine va_get (D := (dC, dI)) (ci := 3) (v := .int (I 120)) (C := RX3) (T := TX3) (N := 6) hx hb hts hinX3 hown hK hP 0 rfl rfl 0 (by decide) (hts (.fieldLink RX3 9 "MixedWords$Mix" "height" "I") (by decide +kernel)) (fun _ h9 => h9) rfl dX3_takes_8 ?_
      refine xt_i (y := nI R) (hR) ?_
      refine xn_ge (tgt := 69) hx hb dX3_takes_11 (by decide) (by omega) (by omega) (fun c_11_0 => ?_) (fun c_11_0 => ?_)
      · skip
        refine lv_iconst (v := nI 1) hx hb dX3_takes_69 (by decide) ?_
        exact xr_z (v := (nI 1)) hx hb hr hlocks hK hS dX3_takes_70 (rfl) (I, L, A, Q, G, J) ⟨(Or.inl ⟨rfl, by rw [show R = n by omega]; exact ht5⟩), rfl⟩ hP hD
      · skip
        have hnR := ix_lt (R := R) (M := M) (n := n) (k := 0) (by omega) (by omega)
        refine lv_iconst (v := nI 0) hx hb dX3_takes_14 (by decide) ?_
        refine lv_istore (lv' := [(5, .int (nI 0)), (0, .ref (h 101)), (1, .ref (h 228)), (2, .int (nI f9)), (3, .int (nI p5)), (4, .int (nI n))]) hx hb dX3_takes_15 hl (by decide) rfl (fun ls hl => ?_)
        have cut_17 : ∀ (nf : Nat) (k : Nat) (pp : Nat), (M + 1 - k) < nf → (k ≤ M + 1) → (pp = f9 + (n * (M + 1) + k)) → (pp ≤ 25) → (tkI (Q 228) f9 M n k) → ∀ (H : Heap) (locs : List Loc) (ls : Array Slot), va_P (dC, dI) vwCl (wTk0 h cs I L A Q G J) H → va_D A0 (wTk0 h cs I L A Q G J) → va_S A0 s.heap H locs → lv_has ls 6 [(0, .ref (h 101)), (1, .ref (h 228)), (2, .int (nI f9)), (3, .int (nI pp)), (4, .int (nI n)), (5, .int (nI k))] → W p l e (headSpec wsX3_takes ({ frames := 1, cells := 0, slots := 0, locals := 22 })).room s m ([.ref (h 101), .ref (h 228), .int (nI f9)] : List Value).toArray below meth c H locs 0 0 (MQ below (va_Qi (fun (r : Int32) (u : CS) => ((r = nI 1 ∧ tkI (Q 228) f9 M R 0) ∨ (r = nI 0 ∧ ¬ tkI (Q 228) f9 M R 0)) ∧ u = (I, L, A, Q, G, J)) (xB (dC, dI) (tysA cs) A0 (fun u : CS => wTk0 h cs u.1 u.2.1 u.2.2.1 u.2.2.2.1 u.2.2.2.2.1 u.2.2.2.2.2)) A0) ([.ref (h 101), .ref (h 228), .int (nI f9)] : List Value).toArray s 0 0 A0) (F0 m 17 ls []) := by
          intro nf
          induction nf with
          | zero => intro k pp hm; exact absurd hm (Nat.not_lt_zero _)
          | succ nf ih_17 =>
            intro k pp hm_17 hk17 hp17 hp17b ht17 H locs ls hP hD hS hl
            refine lv_iload hx hb dX3_takes_17 (lv_at hl 5 rfl) ?_
            refine lv_aload_n hx hb dX3_takes_19 rfl (lv_at hl 0 rfl) ?_
            refine va_get (D := (dC, dI)) (ci := 3) (v := .int (I 121)) (C := RX3) (T := TX3) (N := 6) hx hb hts hinX3 hown hK hP 0 rfl rfl 1 (by decide) (hts (.fieldLink RX3 15 "MixedWords$Mix" "width" "I") (by decide +kernel)) (fun _ h9 => h9) rfl dX3_takes_20 ?_
            refine xt_i (y := nI M) (hM) ?_
            refine xn_gt (tgt := 63) hx hb dX3_takes_23 (by decide) (by omega) (by omega) (fun c_23_1 => ?_) (fun c_23_1 => ?_)
            · skip
              refine lv_iinc (v := nI (n + 1)) (lv' := [(4, .int (nI (n + 1))), (0, .ref (h 101)), (1, .ref (h 228)), (2, .int (nI f9)), (3, .int (nI pp)), (5, .int (nI k))]) hx hb dX3_takes_63 hl (k := 4) rfl (nI_1 _) (by decide) rfl (fun ls hl => ?_)
              refine lv_goto (tgt := 5) hx hb dX3_takes_66 (by decide) ?_
              exact ih_5 (n + 1) pp (by omega) (by first | assumption | omega) (by first | (rw [Nat.zero_mul]; omega) | (rw [Nat.succ_mul]; omega) | omega) (by omega) (by first | exact tk_0 | exact tk_r (by omega) ht17) _ _ _ hP hD hS (lv_sub hl [1, 2, 3, 4, 0] rfl)
            · skip
              have hix := ix_lt (R := R) (M := M) (n := n) (k := k) (by omega) (by omega)
              refine lv_aload_n hx hb dX3_takes_26 rfl (lv_at hl 1 rfl) ?_
              refine lv_iload_n hx hb dX3_takes_27 rfl (lv_at hl 3 rfl) ?_
              refine xa_lald hx hb hK hP 8 1 rfl rfl (by omega) (by decide) dX3_takes_28 ?_
              refine lv_iload hx hb dX3_takes_29 (lv_at hl 5 rfl) ?_
              refine lv_aload_n hx hb dX3_takes_31 rfl (lv_at hl 0 rfl) ?_
              refine va_get (D := (dC, dI)) (ci := 3) (v := .int (I 121)) (C := RX3) (T := TX3) (N := 6) hx hb hts hinX3 hown hK hP 0 rfl rfl 1 (by decide) (hts (.fieldLink RX3 15 "MixedWords$Mix" "width" "I") (by decide +kernel)) (fun _ h9 => h9) rfl dX3_takes_32 ?_
              refine xt_i (y := nI M) (hM) ?_
              refine xn_ne (tgt := 44) hx hb dX3_takes_35 (by decide) (by omega) (by omega) (fun c_35_2 => ?_) (fun c_35_2 => ?_)
              · skip
                refine lv_bipush (v := nI 9) hx hb dX3_takes_44 (by decide) ?_
                refine xj_i (wc := ([] : va_W)) (wr := (wTk0 h cs I L A Q G J)) hP hD hS hA [] [0, 1, 2, 3, 4, 5, 6, 7, 8] rfl rfl (by decide +kernel) (by decide +kernel) (va_runSN (As := [.long (Q 228 pp), .int (nI 9)]) (rest := []) ⟨hx, hb, hml, hown, hts⟩ (k_X9_within l dC dI h cs H.size I L A Q G J (Q 228 pp) (nI 9)) ⟨va_cnB (host := "MixedWords") 2 hts gX3_takes_X9_within_n43 rfl rfl rfl hN.2.2.2.2.2.2.1 (hts (.initialized RX9) (by decide +kernel)) (by decide +kernel) ⟨Nat.le_of_ble_eq_true rfl, Nat.le_of_ble_eq_true rfl⟩, hts (.static yX9_within) (by decide +kernel), trivial⟩ (xpS (wc := ([] : va_W)) hP hD hK hN [] rfl (by decide) _) rfl rfl hl.1 rfl (lv_room (Nat.le_of_ble_eq_true rfl)) dX3_takes_46 ⟨Nat.zero_le _, Nat.zero_le _⟩) (fun r_5 u_4 H locs hw hP hD hS => ?_)
                obtain ⟨hf_6, rfl⟩ := hw
                have hP : va_P (dC, dI) vwCl (wTk0 h cs I L A Q G J) H := hP
                have hD : va_D A0 (wTk0 h cs I L A Q G J) := hD
                rcases wi_L (n := 9) (by decide) (by decide) hf_6 with ⟨rfl, hok_7⟩ | ⟨rfl, hok_7⟩
                · skip
                  have hok9 : okI M k (Q 228 pp) := (okI_N (by assumption)).mpr hok_7
                  refine lv_if_ne (tgt := 54) hx hb dX3_takes_49 (by decide) (fun _ => ?_) (fun c9 => False.elim (by revert c9; decide +kernel))
                  refine lv_iinc (v := nI (pp + 1)) (lv' := [(3, .int (nI (pp + 1))), (0, .ref (h 101)), (1, .ref (h 228)), (2, .int (nI f9)), (4, .int (nI n)), (5, .int (nI k))]) hx hb dX3_takes_54 hl (k := 3) rfl (nI_1 _) (by decide) rfl (fun ls hl => ?_)
                  refine lv_iinc (v := nI (k + 1)) (lv' := [(5, .int (nI (k + 1))), (3, .int (nI (pp + 1))), (0, .ref (h 101)), (1, .ref (h 228)), (2, .int (nI f9)), (4, .int (nI n))]) hx hb dX3_takes_57 hl (k := 5) rfl (nI_1 _) (by decide) rfl (fun ls hl => ?_)
                  refine lv_goto (tgt := 17) hx hb dX3_takes_60 (by decide) ?_
                  exact ih_17 (k + 1) (pp + 1) (by omega) (by first | assumption | omega) (by first | assumption | omega) (by first | assumption | omega) (by first | exact ht5 | exact tk_s hp17 ht17 hok9) _ _ _ hP hD hS (lv_sub hl [2, 3, 4, 1, 5, 0] rfl)
                · skip
                  have hok9 : ¬ okI M k (Q 228 pp) := fun q9 => hok_7 ((okI_N (by assumption)).mp q9)
                  refine lv_if_ne (tgt := 54) hx hb dX3_takes_49 (by decide) (fun c9 => False.elim (by revert c9; decide +kernel)) (fun _ => ?_)
                  refine lv_iconst (v := nI 0) hx hb dX3_takes_52 (by decide) ?_
                  exact xr_z (v := (nI 0)) hx hb hr hlocks hK hS dX3_takes_53 (rfl) (I, L, A, Q, G, J) ⟨(Or.inr ⟨rfl, fun q9 => hok9 (by rw [hp17]; exact q9 n k (by omega) (Or.inl (by omega)))⟩), rfl⟩ hP hD
              · skip
                refine lv_sipush (v := nI 999) hx hb dX3_takes_38 (by decide) ?_
                refine lv_goto (tgt := 46) hx hb dX3_takes_41 (by decide) ?_
                refine xj_i (wc := ([] : va_W)) (wr := (wTk0 h cs I L A Q G J)) hP hD hS hA [] [0, 1, 2, 3, 4, 5, 6, 7, 8] rfl rfl (by decide +kernel) (by decide +kernel) (va_runSN (As := [.long (Q 228 pp), .int (nI 999)]) (rest := []) ⟨hx, hb, hml, hown, hts⟩ (k_X9_within l dC dI h cs H.size I L A Q G J (Q 228 pp) (nI 999)) ⟨va_cnB (host := "MixedWords") 2 hts gX3_takes_X9_within_n43 rfl rfl rfl hN.2.2.2.2.2.2.1 (hts (.initialized RX9) (by decide +kernel)) (by decide +kernel) ⟨Nat.le_of_ble_eq_true rfl, Nat.le_of_ble_eq_true rfl⟩, hts (.static yX9_within) (by decide +kernel), trivial⟩ (xpS (wc := ([] : va_W)) hP hD hK hN [] rfl (by decide) _) rfl rfl hl.1 rfl (lv_room (Nat.le_of_ble_eq_true rfl)) dX3_takes_46 ⟨Nat.zero_le _, Nat.zero_le _⟩) (fun r_9 u_8 H locs hw hP hD hS => ?_)
                obtain ⟨hf_10, rfl⟩ := hw
                have hP : va_P (dC, dI) vwCl (wTk0 h cs I L A Q G J) H := hP
                have hD : va_D A0 (wTk0 h cs I L A Q G J) := hD
                rcases wi_L (n := 999) (by decide) (by decide) hf_10 with ⟨rfl, hok_11⟩ | ⟨rfl, hok_11⟩
                · skip
                  have hok9 : okI M k (Q 228 pp) := (okI_M (by assumption)).mpr hok_11
                  refine lv_if_ne (tgt := 54) hx hb dX3_takes_49 (by decide) (fun _ => ?_) (fun c9 => False.elim (by revert c9; decide +kernel))
                  refine lv_iinc (v := nI (pp + 1)) (lv' := [(3, .int (nI (pp + 1))), (0, .ref (h 101)), (1, .ref (h 228)), (2, .int (nI f9)), (4, .int (nI n)), (5, .int (nI k))]) hx hb dX3_takes_54 hl (k := 3) rfl (nI_1 _) (by decide) rfl (fun ls hl => ?_)
                  refine lv_iinc (v := nI (k + 1)) (lv' := [(5, .int (nI (k + 1))), (3, .int (nI (pp + 1))), (0, .ref (h 101)), (1, .ref (h 228)), (2, .int (nI f9)), (4, .int (nI n))]) hx hb dX3_takes_57 hl (k := 5) rfl (nI_1 _) (by decide) rfl (fun ls hl => ?_)
                  refine lv_goto (tgt := 17) hx hb dX3_takes_60 (by decide) ?_
                  exact ih_17 (k + 1) (pp + 1) (by omega) (by first | assumption | omega) (by first | assumption | omega) (by first | assumption | omega) (by first | exact ht5 | exact tk_s hp17 ht17 hok9) _ _ _ hP hD hS (lv_sub hl [2, 3, 4, 1, 5, 0] rfl)
                · skip
                  have hok9 : ¬ okI M k (Q 228 pp) := fun q9 => hok_11 ((okI_M (by assumption)).mp q9)
                  refine lv_if_ne (tgt := 54) hx hb dX3_takes_49 (by decide) (fun c9 => False.elim (by revert c9; decide +kernel)) (fun _ => ?_)
                  refine lv_iconst (v := nI 0) hx hb dX3_takes_52 (by decide) ?_
                  exact xr_z (v := (nI 0)) hx hb hr hlocks hK hS dX3_takes_53 (rfl) (I, L, A, Q, G, J) ⟨(Or.inr ⟨rfl, fun q9 => hok9 (by rw [hp17]; exact q9 n k (by omega) (Or.inl (by omega)))⟩), rfl⟩ hP hD
        exact cut_17 _ 0 p5 (Nat.lt_succ_self _) (by first | assumption | omega) (by first | assumption | omega) (by first | assumption | omega) (by first | exact ht5 | exact tk_s hp17 ht17 hok9) _ _ _ hP hD hS (lv_sub hl [1, 2, 3, 4, 5, 0] rfl)
  exact cut_5 _ 0 f9 (Nat.lt_succ_self _) (by first | assumption | omega) (by first | (rw [Nat.zero_mul]; omega) | (rw [Nat.succ_mul]; omega) | omega) (by omega) (by first | exact tk_0 | exact tk_r (by omega) ht17) _ _ _ hP hD hS (lv_sub hl [2, 3, 4, 1, 0] rfl)
set_option maxHeartbeats 4000000 in
set_option maxRecDepth 100000 in
theorem k_X3_takes1 (l : Launch) (dC : Nat → ClassId) (dI : Nat → Nat → Nat) (h : Nat → Nat) (cs : Nat → ClassId) (sz : Nat) (I : Nat → Int32) (L : Nat → Int64) (A : Nat → Nat → Int32) (Q : Nat → Nat → Int64) (G : Nat → Nat → Nat → Int32) (J : Nat → Nat → Nat → Int64) (f9 R M : Nat) (hf9 : f9 + R * (M + 1) ≤ 25) (hR : I 120 = nI R) (hR1 : 1 ≤ R) (hR5 : R ≤ 5) (hM : I 121 = nI M) (hM1 : 1 ≤ M) (hM4 : M ≤ 4) : Met l yX3_takes wsX3_takes ({ frames := 1, cells := 0, slots := 0, locals := 22 }) (va_Pc [.ref (h 101), .ref (h 229), .int (nI f9)] (xPre (dC, dI) (wTk1 h cs I L A Q G J) (tysA cs) sz)) (va_Qi (fun (r : Int32) (u : CS) => ((r = nI 1 ∧ tkI (Q 229) f9 M R 0) ∨ (r = nI 0 ∧ ¬ tkI (Q 229) f9 M R 0)) ∧ u = (I, L, A, Q, G, J)) (xB (dC, dI) (tysA cs) (va_A (wTk1 h cs I L A Q G J) sz) (fun u : CS => wTk1 h cs u.1 u.2.1 u.2.2.1 u.2.2.2.1 u.2.2.2.2.1 u.2.2.2.2.2)) (va_A (wTk1 h cs I L A Q G J) sz)) 0 0 (va_A (wTk1 h cs I L A Q G J) sz) := by
  refine Met.ofW (cc := cX3_takes) (maxL := 6) (ret := (some .boolean)) (by decide) rfl ?_
  intro p e s m args below meth c s₁ B hml hv
  obtain ⟨rfl, hsz, hP, hK, hD0, hN⟩ := hv
  have hx := B.exec
  have hb := B.bytes
  have hr := B.returns
  have hts := atoms_spec (ws := wsX3_takes) B.pre
  have hown : s.vm.findClass RX3 = some m.cls := findClass_of_methodNamed B.named
  have hlocks := B.notSynchronized
  subst hsz
  have hD := hD0.self (sz := s.heap.size)
  generalize hAe : va_A (wTk1 h cs I L A Q G J) s.heap.size = A0 at hD ⊢
  have hA : ∀ q : Nat, s.heap.size ≤ q → A0 q := fun q h => by rw [← hAe]; exact Or.inr h
  have hl := lv_entry ([.ref (h 101), .ref (h 229), .int (nI f9)]) (n := 6) (Nat.le_of_ble_eq_true rfl)
  rw [lg_entry_eq]
  generalize (lg_sl ([.ref (h 101), .ref (h 229), .int (nI f9)]) ++ List.replicate (6 - (lg_sl ([.ref (h 101), .ref (h 229), .int (nI f9)])).length) Slot.unset).toArray = ls at hl ⊢
  have hl : lv_has ls 6 [(0, .ref (h 101)), (1, .ref (h 229)), (2, .int (nI f9))] := hl
  generalize hH : s.heap = H at hP ⊢
  have hS : va_S A0 s.heap H [] := by rw [← hH]; exact va_S.rf
  have hinX3 : ∀ w ∈ wsX30, w ∈ wsX3_takes := by decide +kernel
  refine lv_iload_n hx hb dX3_takes_0 rfl (lv_at hl 2 rfl) ?_
  refine lv_istore_n (lv' := [(3, .int (nI f9)), (0, .ref (h 101)), (1, .ref (h 229)), (2, .int (nI f9))]) hx hb dX3_takes_1 rfl hl (by decide) rfl (fun ls hl => ?_)
  refine lv_iconst (v := nI 0) hx hb dX3_takes_2 (by decide) ?_
  refine lv_istore (lv' := [(4, .int (nI 0)), (3, .int (nI f9)), (0, .ref (h 101)), (1, .ref (h 229)), (2, .int (nI f9))]) hx hb dX3_takes_3 hl (by decide) rfl (fun ls hl => ?_)
  have cut_5 : ∀ (nf : Nat) (n : Nat) (p5 : Nat), (R - n) < nf → (n ≤ R) → (p5 = f9 + n * (M + 1)) → (p5 ≤ 25) → (tkI (Q 229) f9 M n 0) → ∀ (H : Heap) (locs : List Loc) (ls : Array Slot), va_P (dC, dI) vwCl (wTk1 h cs I L A Q G J) H → va_D A0 (wTk1 h cs I L A Q G J) → va_S A0 s.heap H locs → lv_has ls 6 [(0, .ref (h 101)), (1, .ref (h 229)), (2, .int (nI f9)), (3, .int (nI p5)), (4, .int (nI n))] → W p l e (headSpec wsX3_takes ({ frames := 1, cells := 0, slots := 0, locals := 22 })).room s m ([.ref (h 101), .ref (h 229), .int (nI f9)] : List Value).toArray below meth c H locs 0 0 (MQ below (va_Qi (fun (r : Int32) (u : CS) => ((r = nI 1 ∧ tkI (Q 229) f9 M R 0) ∨ (r = nI 0 ∧ ¬ tkI (Q 229) f9 M R 0)) ∧ u = (I, L, A, Q, G, J)) (xB (dC, dI) (tysA cs) A0 (fun u : CS => wTk1 h cs u.1 u.2.1 u.2.2.1 u.2.2.2.1 u.2.2.2.2.1 u.2.2.2.2.2)) A0) ([.ref (h 101), .ref (h 229), .int (nI f9)] : List Value).toArray s 0 0 A0) (F0 m 5 ls []) := by
    intro nf
    induction nf with
    | zero => intro n p5 hm; exact absurd hm (Nat.not_lt_zero _)
    | succ nf ih_5 =>
      intro n p5 hm_5 hn5 hp5 hp5b ht5 H locs ls hP hD hS hl
      refine lv_iload hx hb dX3_takes_5 (lv_at hl 4 rfl) ?_
      refine lv_aload_n hx hb dX3_takes_7 rfl (lv_at hl 0 rfl) ?_
      refine va_get (D := (dC, dI)) (ci := 3) (v := .int (I 120)) (C := RX3) (T := TX3) (N := 6) hx hb hts hinX3 hown hK hP 0 rfl rfl 0 (by decide) (hts (.fieldLink RX3 9 "MixedWords$Mix" "height" "I") (by decide +kernel)) (fun _ h9 => h9) rfl dX3_takes_8 ?_
      refine xt_i (y := nI R) (hR) ?_
      refine xn_ge (tgt := 69) hx hb dX3_takes_11 (by decide) (by omega) (by omega) (fun c_11_0 => ?_) (fun c_11_0 => ?_)
      · skip
        refine lv_iconst (v := nI 1) hx hb dX3_takes_69 (by decide) ?_
        exact xr_z (v := (nI 1)) hx hb hr hlocks hK hS dX3_takes_70 (rfl) (I, L, A, Q, G, J) ⟨(Or.inl ⟨rfl, by rw [show R = n by omega]; exact ht5⟩), rfl⟩ hP hD
      · skip
        have hnR := ix_lt (R := R) (M := M) (n := n) (k := 0) (by omega) (by omega)
        refine lv_iconst (v := nI 0) hx hb dX3_takes_14 (by decide) ?_
        refine lv_istore (lv' := [(5, .int (nI 0)), (0, .ref (h 101)), (1, .ref (h 229)), (2, .int (nI f9)), (3, .int (nI p5)), (4, .int (nI n))]) hx hb dX3_takes_15 hl (by decide) rfl (fun ls hl => ?_)
        have cut_17 : ∀ (nf : Nat) (k : Nat) (pp : Nat), (M + 1 - k) < nf → (k ≤ M + 1) → (pp = f9 + (n * (M + 1) + k)) → (pp ≤ 25) → (tkI (Q 229) f9 M n k) → ∀ (H : Heap) (locs : List Loc) (ls : Array Slot), va_P (dC, dI) vwCl (wTk1 h cs I L A Q G J) H → va_D A0 (wTk1 h cs I L A Q G J) → va_S A0 s.heap H locs → lv_has ls 6 [(0, .ref (h 101)), (1, .ref (h 229)), (2, .int (nI f9)), (3, .int (nI pp)), (4, .int (nI n)), (5, .int (nI k))] → W p l e (headSpec wsX3_takes ({ frames := 1, cells := 0, slots := 0, locals := 22 })).room s m ([.ref (h 101), .ref (h 229), .int (nI f9)] : List Value).toArray below meth c H locs 0 0 (MQ below (va_Qi (fun (r : Int32) (u : CS) => ((r = nI 1 ∧ tkI (Q 229) f9 M R 0) ∨ (r = nI 0 ∧ ¬ tkI (Q 229) f9 M R 0)) ∧ u = (I, L, A, Q, G, J)) (xB (dC, dI) (tysA cs) A0 (fun u : CS => wTk1 h cs u.1 u.2.1 u.2.2.1 u.2.2.2.1 u.2.2.2.2.1 u.2.2.2.2.2)) A0) ([.ref (h 101), .ref (h 229), .int (nI f9)] : List Value).toArray s 0 0 A0) (F0 m 17 ls []) := by
          intro nf
          induction nf with
          | zero => intro k pp hm; exact absurd hm (Nat.not_lt_zero _)
          | succ nf ih_17 =>
            intro k pp hm_17 hk17 hp17 hp17b ht17 H locs ls hP hD hS hl
            refine lv_iload hx hb dX3_takes_17 (lv_at hl 5 rfl) ?_
            refine lv_aload_n hx hb dX3_takes_19 rfl (lv_at hl 0 rfl) ?_
            refine va_get (D := (dC, dI)) (ci := 3) (v := .int (I 121)) (C := RX3) (T := TX3) (N := 6) hx hb hts hinX3 hown hK hP 0 rfl rfl 1 (by decide) (hts (.fieldLink RX3 15 "MixedWords$Mix" "width" "I") (by decide +kernel)) (fun _ h9 => h9) rfl dX3_takes_20 ?_
            refine xt_i (y := nI M) (hM) ?_
            refine xn_gt (tgt := 63) hx hb dX3_takes_23 (by decide) (by omega) (by omega) (fun c_23_1 => ?_) (fun c_23_1 => ?_)
            · skip
              refine lv_iinc (v := nI (n + 1)) (lv' := [(4, .int (nI (n + 1))), (0, .ref (h 101)), (1, .ref (h 229)), (2, .int (nI f9)), (3, .int (nI pp)), (5, .int (nI k))]) hx hb dX3_takes_63 hl (k := 4) rfl (nI_1 _) (by decide) rfl (fun ls hl => ?_)
              refine lv_goto (tgt := 5) hx hb dX3_takes_66 (by decide) ?_
              exact ih_5 (n + 1) pp (by omega) (by first | assumption | omega) (by first | (rw [Nat.zero_mul]; omega) | (rw [Nat.succ_mul]; omega) | omega) (by omega) (by first | exact tk_0 | exact tk_r (by omega) ht17) _ _ _ hP hD hS (lv_sub hl [1, 2, 3, 4, 0] rfl)
            · skip
              have hix := ix_lt (R := R) (M := M) (n := n) (k := k) (by omega) (by omega)
              refine lv_aload_n hx hb dX3_takes_26 rfl (lv_at hl 1 rfl) ?_
              refine lv_iload_n hx hb dX3_takes_27 rfl (lv_at hl 3 rfl) ?_
              refine xa_lald hx hb hK hP 8 1 rfl rfl (by omega) (by decide) dX3_takes_28 ?_
              refine lv_iload hx hb dX3_takes_29 (lv_at hl 5 rfl) ?_
              refine lv_aload_n hx hb dX3_takes_31 rfl (lv_at hl 0 rfl) ?_
              refine va_get (D := (dC, dI)) (ci := 3) (v := .int (I 121)) (C := RX3) (T := TX3) (N := 6) hx hb hts hinX3 hown hK hP 0 rfl rfl 1 (by decide) (hts (.fieldLink RX3 15 "MixedWords$Mix" "width" "I") (by decide +kernel)) (fun _ h9 => h9) rfl dX3_takes_32 ?_
              refine xt_i (y := nI M) (hM) ?_
              refine xn_ne (tgt := 44) hx hb dX3_takes_35 (by decide) (by omega) (by omega) (fun c_35_2 => ?_) (fun c_35_2 => ?_)
              · skip
                refine lv_bipush (v := nI 9) hx hb dX3_takes_44 (by decide) ?_
                refine xj_i (wc := ([] : va_W)) (wr := (wTk1 h cs I L A Q G J)) hP hD hS hA [] [0, 1, 2, 3, 4, 5, 6, 7, 8] rfl rfl (by decide +kernel) (by decide +kernel) (va_runSN (As := [.long (Q 229 pp), .int (nI 9)]) (rest := []) ⟨hx, hb, hml, hown, hts⟩ (k_X9_within l dC dI h cs H.size I L A Q G J (Q 229 pp) (nI 9)) ⟨va_cnB (host := "MixedWords") 2 hts gX3_takes_X9_within_n43 rfl rfl rfl hN.2.2.2.2.2.2.1 (hts (.initialized RX9) (by decide +kernel)) (by decide +kernel) ⟨Nat.le_of_ble_eq_true rfl, Nat.le_of_ble_eq_true rfl⟩, hts (.static yX9_within) (by decide +kernel), trivial⟩ (xpS (wc := ([] : va_W)) hP hD hK hN [] rfl (by decide) _) rfl rfl hl.1 rfl (lv_room (Nat.le_of_ble_eq_true rfl)) dX3_takes_46 ⟨Nat.zero_le _, Nat.zero_le _⟩) (fun r_5 u_4 H locs hw hP hD hS => ?_)
                obtain ⟨hf_6, rfl⟩ := hw
                have hP : va_P (dC, dI) vwCl (wTk1 h cs I L A Q G J) H := hP
                have hD : va_D A0 (wTk1 h cs I L A Q G J) := hD
                rcases wi_L (n := 9) (by decide) (by decide) hf_6 with ⟨rfl, hok_7⟩ | ⟨rfl, hok_7⟩
                · skip
                  have hok9 : okI M k (Q 229 pp) := (okI_N (by assumption)).mpr hok_7
                  refine lv_if_ne (tgt := 54) hx hb dX3_takes_49 (by decide) (fun _ => ?_) (fun c9 => False.elim (by revert c9; decide +kernel))
                  refine lv_iinc (v := nI (pp + 1)) (lv' := [(3, .int (nI (pp + 1))), (0, .ref (h 101)), (1, .ref (h 229)), (2, .int (nI f9)), (4, .int (nI n)), (5, .int (nI k))]) hx hb dX3_takes_54 hl (k := 3) rfl (nI_1 _) (by decide) rfl (fun ls hl => ?_)
                  refine lv_iinc (v := nI (k + 1)) (lv' := [(5, .int (nI (k + 1))), (3, .int (nI (pp + 1))), (0, .ref (h 101)), (1, .ref (h 229)), (2, .int (nI f9)), (4, .int (nI n))]) hx hb dX3_takes_57 hl (k := 5) rfl (nI_1 _) (by decide) rfl (fun ls hl => ?_)
                  refine lv_goto (tgt := 17) hx hb dX3_takes_60 (by decide) ?_
                  exact ih_17 (k + 1) (pp + 1) (by omega) (by first | assumption | omega) (by first | assumption | omega) (by first | assumption | omega) (by first | exact ht5 | exact tk_s hp17 ht17 hok9) _ _ _ hP hD hS (lv_sub hl [2, 3, 4, 1, 5, 0] rfl)
                · skip
                  have hok9 : ¬ okI M k (Q 229 pp) := fun q9 => hok_7 ((okI_N (by assumption)).mp q9)
                  refine lv_if_ne (tgt := 54) hx hb dX3_takes_49 (by decide) (fun c9 => False.elim (by revert c9; decide +kernel)) (fun _ => ?_)
                  refine lv_iconst (v := nI 0) hx hb dX3_takes_52 (by decide) ?_
                  exact xr_z (v := (nI 0)) hx hb hr hlocks hK hS dX3_takes_53 (rfl) (I, L, A, Q, G, J) ⟨(Or.inr ⟨rfl, fun q9 => hok9 (by rw [hp17]; exact q9 n k (by omega) (Or.inl (by omega)))⟩), rfl⟩ hP hD
              · skip
                refine lv_sipush (v := nI 999) hx hb dX3_takes_38 (by decide) ?_
                refine lv_goto (tgt := 46) hx hb dX3_takes_41 (by decide) ?_
                refine xj_i (wc := ([] : va_W)) (wr := (wTk1 h cs I L A Q G J)) hP hD hS hA [] [0, 1, 2, 3, 4, 5, 6, 7, 8] rfl rfl (by decide +kernel) (by decide +kernel) (va_runSN (As := [.long (Q 229 pp), .int (nI 999)]) (rest := []) ⟨hx, hb, hml, hown, hts⟩ (k_X9_within l dC dI h cs H.size I L A Q G J (Q 229 pp) (nI 999)) ⟨va_cnB (host := "MixedWords") 2 hts gX3_takes_X9_within_n43 rfl rfl rfl hN.2.2.2.2.2.2.1 (hts (.initialized RX9) (by decide +kernel)) (by decide +kernel) ⟨Nat.le_of_ble_eq_true rfl, Nat.le_of_ble_eq_true rfl⟩, hts (.static yX9_within) (by decide +kernel), trivial⟩ (xpS (wc := ([] : va_W)) hP hD hK hN [] rfl (by decide) _) rfl rfl hl.1 rfl (lv_room (Nat.le_of_ble_eq_true rfl)) dX3_takes_46 ⟨Nat.zero_le _, Nat.zero_le _⟩) (fun r_9 u_8 H locs hw hP hD hS => ?_)
                obtain ⟨hf_10, rfl⟩ := hw
                have hP : va_P (dC, dI) vwCl (wTk1 h cs I L A Q G J) H := hP
                have hD : va_D A0 (wTk1 h cs I L A Q G J) := hD
                rcases wi_L (n := 999) (by decide) (by decide) hf_10 with ⟨rfl, hok_11⟩ | ⟨rfl, hok_11⟩
                · skip
                  have hok9 : okI M k (Q 229 pp) := (okI_M (by assumption)).mpr hok_11
                  refine lv_if_ne (tgt := 54) hx hb dX3_takes_49 (by decide) (fun _ => ?_) (fun c9 => False.elim (by revert c9; decide +kernel))
                  refine lv_iinc (v := nI (pp + 1)) (lv' := [(3, .int (nI (pp + 1))), (0, .ref (h 101)), (1, .ref (h 229)), (2, .int (nI f9)), (4, .int (nI n)), (5, .int (nI k))]) hx hb dX3_takes_54 hl (k := 3) rfl (nI_1 _) (by decide) rfl (fun ls hl => ?_)
                  refine lv_iinc (v := nI (k + 1)) (lv' := [(5, .int (nI (k + 1))), (3, .int (nI (pp + 1))), (0, .ref (h 101)), (1, .ref (h 229)), (2, .int (nI f9)), (4, .int (nI n))]) hx hb dX3_takes_57 hl (k := 5) rfl (nI_1 _) (by decide) rfl (fun ls hl => ?_)
                  refine lv_goto (tgt := 17) hx hb dX3_takes_60 (by decide) ?_
                  exact ih_17 (k + 1) (pp + 1) (by omega) (by first | assumption | omega) (by first | assumption | omega) (by first | assumption | omega) (by first | exact ht5 | exact tk_s hp17 ht17 hok9) _ _ _ hP hD hS (lv_sub hl [2, 3, 4, 1, 5, 0] rfl)
                · skip
                  have hok9 : ¬ okI M k (Q 229 pp) := fun q9 => hok_11 ((okI_M (by assumption)).mp q9)
                  refine lv_if_ne (tgt := 54) hx hb dX3_takes_49 (by decide) (fun c9 => False.elim (by revert c9; decide +kernel)) (fun _ => ?_)
                  refine lv_iconst (v := nI 0) hx hb dX3_takes_52 (by decide) ?_
                  exact xr_z (v := (nI 0)) hx hb hr hlocks hK hS dX3_takes_53 (rfl) (I, L, A, Q, G, J) ⟨(Or.inr ⟨rfl, fun q9 => hok9 (by rw [hp17]; exact q9 n k (by omega) (Or.inl (by omega)))⟩), rfl⟩ hP hD
        exact cut_17 _ 0 p5 (Nat.lt_succ_self _) (by first | assumption | omega) (by first | assumption | omega) (by first | assumption | omega) (by first | exact ht5 | exact tk_s hp17 ht17 hok9) _ _ _ hP hD hS (lv_sub hl [1, 2, 3, 4, 5, 0] rfl)
  exact cut_5 _ 0 f9 (Nat.lt_succ_self _) (by first | assumption | omega) (by first | (rw [Nat.zero_mul]; omega) | (rw [Nat.succ_mul]; omega) | omega) (by omega) (by first | exact tk_0 | exact tk_r (by omega) ht17) _ _ _ hP hD hS (lv_sub hl [2, 3, 4, 1, 0] rfl)
set_option maxHeartbeats 4000000 in
set_option maxRecDepth 100000 in
theorem k_X3_takes2 (l : Launch) (dC : Nat → ClassId) (dI : Nat → Nat → Nat) (h : Nat → Nat) (cs : Nat → ClassId) (sz : Nat) (I : Nat → Int32) (L : Nat → Int64) (A : Nat → Nat → Int32) (Q : Nat → Nat → Int64) (G : Nat → Nat → Nat → Int32) (J : Nat → Nat → Nat → Int64) (f9 R M : Nat) (hf9 : f9 + R * (M + 1) ≤ 25) (hR : I 120 = nI R) (hR1 : 1 ≤ R) (hR5 : R ≤ 5) (hM : I 121 = nI M) (hM1 : 1 ≤ M) (hM4 : M ≤ 4) : Met l yX3_takes wsX3_takes ({ frames := 1, cells := 0, slots := 0, locals := 22 }) (va_Pc [.ref (h 101), .ref (h 230), .int (nI f9)] (xPre (dC, dI) (wTk2 h cs I L A Q G J) (tysA cs) sz)) (va_Qi (fun (r : Int32) (u : CS) => ((r = nI 1 ∧ tkI (Q 230) f9 M R 0) ∨ (r = nI 0 ∧ ¬ tkI (Q 230) f9 M R 0)) ∧ u = (I, L, A, Q, G, J)) (xB (dC, dI) (tysA cs) (va_A (wTk2 h cs I L A Q G J) sz) (fun u : CS => wTk2 h cs u.1 u.2.1 u.2.2.1 u.2.2.2.1 u.2.2.2.2.1 u.2.2.2.2.2)) (va_A (wTk2 h cs I L A Q G J) sz)) 0 0 (va_A (wTk2 h cs I L A Q G J) sz) := by
  refine Met.ofW (cc := cX3_takes) (maxL := 6) (ret := (some .boolean)) (by decide) rfl ?_
  intro p e s m args below meth c s₁ B hml hv
  obtain ⟨rfl, hsz, hP, hK, hD0, hN⟩ := hv
  have hx := B.exec
  have hb := B.bytes
  have hr := B.returns
  have hts := atoms_spec (ws := wsX3_takes) B.pre
  have hown : s.vm.findClass RX3 = some m.cls := findClass_of_methodNamed B.named
  have hlocks := B.notSynchronized
  subst hsz
  have hD := hD0.self (sz := s.heap.size)
  generalize hAe : va_A (wTk2 h cs I L A Q G J) s.heap.size = A0 at hD ⊢
  have hA : ∀ q : Nat, s.heap.size ≤ q → A0 q := fun q h => by rw [← hAe]; exact Or.inr h
  have hl := lv_entry ([.ref (h 101), .ref (h 230), .int (nI f9)]) (n := 6) (Nat.le_of_ble_eq_true rfl)
  rw [lg_entry_eq]
  generalize (lg_sl ([.ref (h 101), .ref (h 230), .int (nI f9)]) ++ List.replicate (6 - (lg_sl ([.ref (h 101), .ref (h 230), .int (nI f9)])).length) Slot.unset).toArray = ls at hl ⊢
  have hl : lv_has ls 6 [(0, .ref (h 101)), (1, .ref (h 230)), (2, .int (nI f9))] := hl
  generalize hH : s.heap = H at hP ⊢
  have hS : va_S A0 s.heap H [] := by rw [← hH]; exact va_S.rf
  have hinX3 : ∀ w ∈ wsX30, w ∈ wsX3_takes := by decide +kernel
  refine lv_iload_n hx hb dX3_takes_0 rfl (lv_at hl 2 rfl) ?_
  refine lv_istore_n (lv' := [(3, .int (nI f9)), (0, .ref (h 101)), (1, .ref (h 230)), (2, .int (nI f9))]) hx hb dX3_takes_1 rfl hl (by decide) rfl (fun ls hl => ?_)
  refine lv_iconst (v := nI 0) hx hb dX3_takes_2 (by decide) ?_
  refine lv_istore (lv' := [(4, .int (nI 0)), (3, .int (nI f9)), (0, .ref (h 101)), (1, .ref (h 230)), (2, .int (nI f9))]) hx hb dX3_takes_3 hl (by decide) rfl (fun ls hl => ?_)
  have cut_5 : ∀ (nf : Nat) (n : Nat) (p5 : Nat), (R - n) < nf → (n ≤ R) → (p5 = f9 + n * (M + 1)) → (p5 ≤ 25) → (tkI (Q 230) f9 M n 0) → ∀ (H : Heap) (locs : List Loc) (ls : Array Slot), va_P (dC, dI) vwCl (wTk2 h cs I L A Q G J) H → va_D A0 (wTk2 h cs I L A Q G J) → va_S A0 s.heap H locs → lv_has ls 6 [(0, .ref (h 101)), (1, .ref (h 230)), (2, .int (nI f9)), (3, .int (nI p5)), (4, .int (nI n))] → W p l e (headSpec wsX3_takes ({ frames := 1, cells := 0, slots := 0, locals := 22 })).room s m ([.ref (h 101), .ref (h 230), .int (nI f9)] : List Value).toArray below meth c H locs 0 0 (MQ below (va_Qi (fun (r : Int32) (u : CS) => ((r = nI 1 ∧ tkI (Q 230) f9 M R 0) ∨ (r = nI 0 ∧ ¬ tkI (Q 230) f9 M R 0)) ∧ u = (I, L, A, Q, G, J)) (xB (dC, dI) (tysA cs) A0 (fun u : CS => wTk2 h cs u.1 u.2.1 u.2.2.1 u.2.2.2.1 u.2.2.2.2.1 u.2.2.2.2.2)) A0) ([.ref (h 101), .ref (h 230), .int (nI f9)] : List Value).toArray s 0 0 A0) (F0 m 5 ls []) := by
    intro nf
    induction nf with
    | zero => intro n p5 hm; exact absurd hm (Nat.not_lt_zero _)
    | succ nf ih_5 =>
      intro n p5 hm_5 hn5 hp5 hp5b ht5 H locs ls hP hD hS hl
      refine lv_iload hx hb dX3_takes_5 (lv_at hl 4 rfl) ?_
      refine lv_aload_n hx hb dX3_takes_7 rfl (lv_at hl 0 rfl) ?_
      refine va_get (D := (dC, dI)) (ci := 3) (v := .int (I 120)) (C := RX3) (T := TX3) (N := 6) hx hb hts hinX3 hown hK hP 0 rfl rfl 0 (by decide) (hts (.fieldLink RX3 9 "MixedWords$Mix" "height" "I") (by decide +kernel)) (fun _ h9 => h9) rfl dX3_takes_8 ?_
      refine xt_i (y := nI R) (hR) ?_
      refine xn_ge (tgt := 69) hx hb dX3_takes_11 (by decide) (by omega) (by omega) (fun c_11_0 => ?_) (fun c_11_0 => ?_)
      · skip
        refine lv_iconst (v := nI 1) hx hb dX3_takes_69 (by decide) ?_
        exact xr_z (v := (nI 1)) hx hb hr hlocks hK hS dX3_takes_70 (rfl) (I, L, A, Q, G, J) ⟨(Or.inl ⟨rfl, by rw [show R = n by omega]; exact ht5⟩), rfl⟩ hP hD
      · skip
        have hnR := ix_lt (R := R) (M := M) (n := n) (k := 0) (by omega) (by omega)
        refine lv_iconst (v := nI 0) hx hb dX3_takes_14 (by decide) ?_
        refine lv_istore (lv' := [(5, .int (nI 0)), (0, .ref (h 101)), (1, .ref (h 230)), (2, .int (nI f9)), (3, .int (nI p5)), (4, .int (nI n))]) hx hb dX3_takes_15 hl (by decide) rfl (fun ls hl => ?_)
        have cut_17 : ∀ (nf : Nat) (k : Nat) (pp : Nat), (M + 1 - k) < nf → (k ≤ M + 1) → (pp = f9 + (n * (M + 1) + k)) → (pp ≤ 25) → (tkI (Q 230) f9 M n k) → ∀ (H : Heap) (locs : List Loc) (ls : Array Slot), va_P (dC, dI) vwCl (wTk2 h cs I L A Q G J) H → va_D A0 (wTk2 h cs I L A Q G J) → va_S A0 s.heap H locs → lv_has ls 6 [(0, .ref (h 101)), (1, .ref (h 230)), (2, .int (nI f9)), (3, .int (nI pp)), (4, .int (nI n)), (5, .int (nI k))] → W p l e (headSpec wsX3_takes ({ frames := 1, cells := 0, slots := 0, locals := 22 })).room s m ([.ref (h 101), .ref (h 230), .int (nI f9)] : List Value).toArray below meth c H locs 0 0 (MQ below (va_Qi (fun (r : Int32) (u : CS) => ((r = nI 1 ∧ tkI (Q 230) f9 M R 0) ∨ (r = nI 0 ∧ ¬ tkI (Q 230) f9 M R 0)) ∧ u = (I, L, A, Q, G, J)) (xB (dC, dI) (tysA cs) A0 (fun u : CS => wTk2 h cs u.1 u.2.1 u.2.2.1 u.2.2.2.1 u.2.2.2.2.1 u.2.2.2.2.2)) A0) ([.ref (h 101), .ref (h 230), .int (nI f9)] : List Value).toArray s 0 0 A0) (F0 m 17 ls []) := by
          intro nf
          induction nf with
          | zero => intro k pp hm; exact absurd hm (Nat.not_lt_zero _)
          | succ nf ih_17 =>
            intro k pp hm_17 hk17 hp17 hp17b ht17 H locs ls hP hD hS hl
            refine lv_iload hx hb dX3_takes_17 (lv_at hl 5 rfl) ?_
            refine lv_aload_n hx hb dX3_takes_19 rfl (lv_at hl 0 rfl) ?_
            refine va_get (D := (dC, dI)) (ci := 3) (v := .int (I 121)) (C := RX3) (T := TX3) (N := 6) hx hb hts hinX3 hown hK hP 0 rfl rfl 1 (by decide) (hts (.fieldLink RX3 15 "MixedWords$Mix" "width" "I") (by decide +kernel)) (fun _ h9 => h9) rfl dX3_takes_20 ?_
            refine xt_i (y := nI M) (hM) ?_
            refine xn_gt (tgt := 63) hx hb dX3_takes_23 (by decide) (by omega) (by omega) (fun c_23_1 => ?_) (fun c_23_1 => ?_)
            · skip
              refine lv_iinc (v := nI (n + 1)) (lv' := [(4, .int (nI (n + 1))), (0, .ref (h 101)), (1, .ref (h 230)), (2, .int (nI f9)), (3, .int (nI pp)), (5, .int (nI k))]) hx hb dX3_takes_63 hl (k := 4) rfl (nI_1 _) (by decide) rfl (fun ls hl => ?_)
              refine lv_goto (tgt := 5) hx hb dX3_takes_66 (by decide) ?_
              exact ih_5 (n + 1) pp (by omega) (by first | assumption | omega) (by first | (rw [Nat.zero_mul]; omega) | (rw [Nat.succ_mul]; omega) | omega) (by omega) (by first | exact tk_0 | exact tk_r (by omega) ht17) _ _ _ hP hD hS (lv_sub hl [1, 2, 3, 4, 0] rfl)
            · skip
              have hix := ix_lt (R := R) (M := M) (n := n) (k := k) (by omega) (by omega)
              refine lv_aload_n hx hb dX3_takes_26 rfl (lv_at hl 1 rfl) ?_
              refine lv_iload_n hx hb dX3_takes_27 rfl (lv_at hl 3 rfl) ?_
              refine xa_lald hx hb hK hP 8 1 rfl rfl (by omega) (by decide) dX3_takes_28 ?_
              refine lv_iload hx hb dX3_takes_29 (lv_at hl 5 rfl) ?_
              refine lv_aload_n hx hb dX3_takes_31 rfl (lv_at hl 0 rfl) ?_
              refine va_get (D := (dC, dI)) (ci := 3) (v := .int (I 121)) (C := RX3) (T := TX3) (N := 6) hx hb hts hinX3 hown hK hP 0 rfl rfl 1 (by decide) (hts (.fieldLink RX3 15 "MixedWords$Mix" "width" "I") (by decide +kernel)) (fun _ h9 => h9) rfl dX3_takes_32 ?_
              refine xt_i (y := nI M) (hM) ?_
              refine xn_ne (tgt := 44) hx hb dX3_takes_35 (by decide) (by omega) (by omega) (fun c_35_2 => ?_) (fun c_35_2 => ?_)
              · skip
                refine lv_bipush (v := nI 9) hx hb dX3_takes_44 (by decide) ?_
                refine xj_i (wc := ([] : va_W)) (wr := (wTk2 h cs I L A Q G J)) hP hD hS hA [] [0, 1, 2, 3, 4, 5, 6, 7, 8] rfl rfl (by decide +kernel) (by decide +kernel) (va_runSN (As := [.long (Q 230 pp), .int (nI 9)]) (rest := []) ⟨hx, hb, hml, hown, hts⟩ (k_X9_within l dC dI h cs H.size I L A Q G J (Q 230 pp) (nI 9)) ⟨va_cnB (host := "MixedWords") 2 hts gX3_takes_X9_within_n43 rfl rfl rfl hN.2.2.2.2.2.2.1 (hts (.initialized RX9) (by decide +kernel)) (by decide +kernel) ⟨Nat.le_of_ble_eq_true rfl, Nat.le_of_ble_eq_true rfl⟩, hts (.static yX9_within) (by decide +kernel), trivial⟩ (xpS (wc := ([] : va_W)) hP hD hK hN [] rfl (by decide) _) rfl rfl hl.1 rfl (lv_room (Nat.le_of_ble_eq_true rfl)) dX3_takes_46 ⟨Nat.zero_le _, Nat.zero_le _⟩) (fun r_5 u_4 H locs hw hP hD hS => ?_)
                obtain ⟨hf_6, rfl⟩ := hw
                have hP : va_P (dC, dI) vwCl (wTk2 h cs I L A Q G J) H := hP
                have hD : va_D A0 (wTk2 h cs I L A Q G J) := hD
                rcases wi_L (n := 9) (by decide) (by decide) hf_6 with ⟨rfl, hok_7⟩ | ⟨rfl, hok_7⟩
                · skip
                  have hok9 : okI M k (Q 230 pp) := (okI_N (by assumption)).mpr hok_7
                  refine lv_if_ne (tgt := 54) hx hb dX3_takes_49 (by decide) (fun _ => ?_) (fun c9 => False.elim (by revert c9; decide +kernel))
                  refine lv_iinc (v := nI (pp + 1)) (lv' := [(3, .int (nI (pp + 1))), (0, .ref (h 101)), (1, .ref (h 230)), (2, .int (nI f9)), (4, .int (nI n)), (5, .int (nI k))]) hx hb dX3_takes_54 hl (k := 3) rfl (nI_1 _) (by decide) rfl (fun ls hl => ?_)
                  refine lv_iinc (v := nI (k + 1)) (lv' := [(5, .int (nI (k + 1))), (3, .int (nI (pp + 1))), (0, .ref (h 101)), (1, .ref (h 230)), (2, .int (nI f9)), (4, .int (nI n))]) hx hb dX3_takes_57 hl (k := 5) rfl (nI_1 _) (by decide) rfl (fun ls hl => ?_)
                  refine lv_goto (tgt := 17) hx hb dX3_takes_60 (by decide) ?_
                  exact ih_17 (k + 1) (pp + 1) (by omega) (by first | assumption | omega) (by first | assumption | omega) (by first | assumption | omega) (by first | exact ht5 | exact tk_s hp17 ht17 hok9) _ _ _ hP hD hS (lv_sub hl [2, 3, 4, 1, 5, 0] rfl)
                · skip
                  have hok9 : ¬ okI M k (Q 230 pp) := fun q9 => hok_7 ((okI_N (by assumption)).mp q9)
                  refine lv_if_ne (tgt := 54) hx hb dX3_takes_49 (by decide) (fun c9 => False.elim (by revert c9; decide +kernel)) (fun _ => ?_)
                  refine lv_iconst (v := nI 0) hx hb dX3_takes_52 (by decide) ?_
                  exact xr_z (v := (nI 0)) hx hb hr hlocks hK hS dX3_takes_53 (rfl) (I, L, A, Q, G, J) ⟨(Or.inr ⟨rfl, fun q9 => hok9 (by rw [hp17]; exact q9 n k (by omega) (Or.inl (by omega)))⟩), rfl⟩ hP hD
              · skip
                refine lv_sipush (v := nI 999) hx hb dX3_takes_38 (by decide) ?_
                refine lv_goto (tgt := 46) hx hb dX3_takes_41 (by decide) ?_
                refine xj_i (wc := ([] : va_W)) (wr := (wTk2 h cs I L A Q G J)) hP hD hS hA [] [0, 1, 2, 3, 4, 5, 6, 7, 8] rfl rfl (by decide +kernel) (by decide +kernel) (va_runSN (As := [.long (Q 230 pp), .int (nI 999)]) (rest := []) ⟨hx, hb, hml, hown, hts⟩ (k_X9_within l dC dI h cs H.size I L A Q G J (Q 230 pp) (nI 999)) ⟨va_cnB (host := "MixedWords") 2 hts gX3_takes_X9_within_n43 rfl rfl rfl hN.2.2.2.2.2.2.1 (hts (.initialized RX9) (by decide +kernel)) (by decide +kernel) ⟨Nat.le_of_ble_eq_true rfl, Nat.le_of_ble_eq_true rfl⟩, hts (.static yX9_within) (by decide +kernel), trivial⟩ (xpS (wc := ([] : va_W)) hP hD hK hN [] rfl (by decide) _) rfl rfl hl.1 rfl (lv_room (Nat.le_of_ble_eq_true rfl)) dX3_takes_46 ⟨Nat.zero_le _, Nat.zero_le _⟩) (fun r_9 u_8 H locs hw hP hD hS => ?_)
                obtain ⟨hf_10, rfl⟩ := hw
                have hP : va_P (dC, dI) vwCl (wTk2 h cs I L A Q G J) H := hP
                have hD : va_D A0 (wTk2 h cs I L A Q G J) := hD
                rcases wi_L (n := 999) (by decide) (by decide) hf_10 with ⟨rfl, hok_11⟩ | ⟨rfl, hok_11⟩
                · skip
                  have hok9 : okI M k (Q 230 pp) := (okI_M (by assumption)).mpr hok_11
                  refine lv_if_ne (tgt := 54) hx hb dX3_takes_49 (by decide) (fun _ => ?_) (fun c9 => False.elim (by revert c9; decide +kernel))
                  refine lv_iinc (v := nI (pp + 1)) (lv' := [(3, .int (nI (pp + 1))), (0, .ref (h 101)), (1, .ref (h 230)), (2, .int (nI f9)), (4, .int (nI n)), (5, .int (nI k))]) hx hb dX3_takes_54 hl (k := 3) rfl (nI_1 _) (by decide) rfl (fun ls hl => ?_)
                  refine lv_iinc (v := nI (k + 1)) (lv' := [(5, .int (nI (k + 1))), (3, .int (nI (pp + 1))), (0, .ref (h 101)), (1, .ref (h 230)), (2, .int (nI f9)), (4, .int (nI n))]) hx hb dX3_takes_57 hl (k := 5) rfl (nI_1 _) (by decide) rfl (fun ls hl => ?_)
                  refine lv_goto (tgt := 17) hx hb dX3_takes_60 (by decide) ?_
                  exact ih_17 (k + 1) (pp + 1) (by omega) (by first | assumption | omega) (by first | assumption | omega) (by first | assumption | omega) (by first | exact ht5 | exact tk_s hp17 ht17 hok9) _ _ _ hP hD hS (lv_sub hl [2, 3, 4, 1, 5, 0] rfl)
                · skip
                  have hok9 : ¬ okI M k (Q 230 pp) := fun q9 => hok_11 ((okI_M (by assumption)).mp q9)
                  refine lv_if_ne (tgt := 54) hx hb dX3_takes_49 (by decide) (fun c9 => False.elim (by revert c9; decide +kernel)) (fun _ => ?_)
                  refine lv_iconst (v := nI 0) hx hb dX3_takes_52 (by decide) ?_
                  exact xr_z (v := (nI 0)) hx hb hr hlocks hK hS dX3_takes_53 (rfl) (I, L, A, Q, G, J) ⟨(Or.inr ⟨rfl, fun q9 => hok9 (by rw [hp17]; exact q9 n k (by omega) (Or.inl (by omega)))⟩), rfl⟩ hP hD
        exact cut_17 _ 0 p5 (Nat.lt_succ_self _) (by first | assumption | omega) (by first | assumption | omega) (by first | assumption | omega) (by first | exact ht5 | exact tk_s hp17 ht17 hok9) _ _ _ hP hD hS (lv_sub hl [1, 2, 3, 4, 5, 0] rfl)
  exact cut_5 _ 0 f9 (Nat.lt_succ_self _) (by first | assumption | omega) (by first | (rw [Nat.zero_mul]; omega) | (rw [Nat.succ_mul]; omega) | omega) (by omega) (by first | exact tk_0 | exact tk_r (by omega) ht17) _ _ _ hP hD hS (lv_sub hl [2, 3, 4, 1, 0] rfl)
set_option maxHeartbeats 4000000 in
set_option maxRecDepth 100000 in
theorem k_X3_takes3 (l : Launch) (dC : Nat → ClassId) (dI : Nat → Nat → Nat) (h : Nat → Nat) (cs : Nat → ClassId) (sz : Nat) (I : Nat → Int32) (L : Nat → Int64) (A : Nat → Nat → Int32) (Q : Nat → Nat → Int64) (G : Nat → Nat → Nat → Int32) (J : Nat → Nat → Nat → Int64) (f9 R M : Nat) (hf9 : f9 + R * (M + 1) ≤ 25) (hR : I 120 = nI R) (hR1 : 1 ≤ R) (hR5 : R ≤ 5) (hM : I 121 = nI M) (hM1 : 1 ≤ M) (hM4 : M ≤ 4) : Met l yX3_takes wsX3_takes ({ frames := 1, cells := 0, slots := 0, locals := 22 }) (va_Pc [.ref (h 101), .ref (h 231), .int (nI f9)] (xPre (dC, dI) (wTk3 h cs I L A Q G J) (tysA cs) sz)) (va_Qi (fun (r : Int32) (u : CS) => ((r = nI 1 ∧ tkI (Q 231) f9 M R 0) ∨ (r = nI 0 ∧ ¬ tkI (Q 231) f9 M R 0)) ∧ u = (I, L, A, Q, G, J)) (xB (dC, dI) (tysA cs) (va_A (wTk3 h cs I L A Q G J) sz) (fun u : CS => wTk3 h cs u.1 u.2.1 u.2.2.1 u.2.2.2.1 u.2.2.2.2.1 u.2.2.2.2.2)) (va_A (wTk3 h cs I L A Q G J) sz)) 0 0 (va_A (wTk3 h cs I L A Q G J) sz) := by
  refine Met.ofW (cc := cX3_takes) (maxL := 6) (ret := (some .boolean)) (by decide) rfl ?_
  intro p e s m args below meth c s₁ B hml hv
  obtain ⟨rfl, hsz, hP, hK, hD0, hN⟩ := hv
  have hx := B.exec
  have hb := B.bytes
  have hr := B.returns
  have hts := atoms_spec (ws := wsX3_takes) B.pre
  have hown : s.vm.findClass RX3 = some m.cls := findClass_of_methodNamed B.named
  have hlocks := B.notSynchronized
  subst hsz
  have hD := hD0.self (sz := s.heap.size)
  generalize hAe : va_A (wTk3 h cs I L A Q G J) s.heap.size = A0 at hD ⊢
  have hA : ∀ q : Nat, s.heap.size ≤ q → A0 q := fun q h => by rw [← hAe]; exact Or.inr h
  have hl := lv_entry ([.ref (h 101), .ref (h 231), .int (nI f9)]) (n := 6) (Nat.le_of_ble_eq_true rfl)
  rw [lg_entry_eq]
  generalize (lg_sl ([.ref (h 101), .ref (h 231), .int (nI f9)]) ++ List.replicate (6 - (lg_sl ([.ref (h 101), .ref (h 231), .int (nI f9)])).length) Slot.unset).toArray = ls at hl ⊢
  have hl : lv_has ls 6 [(0, .ref (h 101)), (1, .ref (h 231)), (2, .int (nI f9))] := hl
  generalize hH : s.heap = H at hP ⊢
  have hS : va_S A0 s.heap H [] := by rw [← hH]; exact va_S.rf
  have hinX3 : ∀ w ∈ wsX30, w ∈ wsX3_takes := by decide +kernel
  refine lv_iload_n hx hb dX3_takes_0 rfl (lv_at hl 2 rfl) ?_
  refine lv_istore_n (lv' := [(3, .int (nI f9)), (0, .ref (h 101)), (1, .ref (h 231)), (2, .int (nI f9))]) hx hb dX3_takes_1 rfl hl (by decide) rfl (fun ls hl => ?_)
  refine lv_iconst (v := nI 0) hx hb dX3_takes_2 (by decide) ?_
  refine lv_istore (lv' := [(4, .int (nI 0)), (3, .int (nI f9)), (0, .ref (h 101)), (1, .ref (h 231)), (2, .int (nI f9))]) hx hb dX3_takes_3 hl (by decide) rfl (fun ls hl => ?_)
  have cut_5 : ∀ (nf : Nat) (n : Nat) (p5 : Nat), (R - n) < nf → (n ≤ R) → (p5 = f9 + n * (M + 1)) → (p5 ≤ 25) → (tkI (Q 231) f9 M n 0) → ∀ (H : Heap) (locs : List Loc) (ls : Array Slot), va_P (dC, dI) vwCl (wTk3 h cs I L A Q G J) H → va_D A0 (wTk3 h cs I L A Q G J) → va_S A0 s.heap H locs → lv_has ls 6 [(0, .ref (h 101)), (1, .ref (h 231)), (2, .int (nI f9)), (3, .int (nI p5)), (4, .int (nI n))] → W p l e (headSpec wsX3_takes ({ frames := 1, cells := 0, slots := 0, locals := 22 })).room s m ([.ref (h 101), .ref (h 231), .int (nI f9)] : List Value).toArray below meth c H locs 0 0 (MQ below (va_Qi (fun (r : Int32) (u : CS) => ((r = nI 1 ∧ tkI (Q 231) f9 M R 0) ∨ (r = nI 0 ∧ ¬ tkI (Q 231) f9 M R 0)) ∧ u = (I, L, A, Q, G, J)) (xB (dC, dI) (tysA cs) A0 (fun u : CS => wTk3 h cs u.1 u.2.1 u.2.2.1 u.2.2.2.1 u.2.2.2.2.1 u.2.2.2.2.2)) A0) ([.ref (h 101), .ref (h 231), .int (nI f9)] : List Value).toArray s 0 0 A0) (F0 m 5 ls []) := by
    intro nf
    induction nf with
    | zero => intro n p5 hm; exact absurd hm (Nat.not_lt_zero _)
    | succ nf ih_5 =>
      intro n p5 hm_5 hn5 hp5 hp5b ht5 H locs ls hP hD hS hl
      refine lv_iload hx hb dX3_takes_5 (lv_at hl 4 rfl) ?_
      refine lv_aload_n hx hb dX3_takes_7 rfl (lv_at hl 0 rfl) ?_
      refine va_get (D := (dC, dI)) (ci := 3) (v := .int (I 120)) (C := RX3) (T := TX3) (N := 6) hx hb hts hinX3 hown hK hP 0 rfl rfl 0 (by decide) (hts (.fieldLink RX3 9 "MixedWords$Mix" "height" "I") (by decide +kernel)) (fun _ h9 => h9) rfl dX3_takes_8 ?_
      refine xt_i (y := nI R) (hR) ?_
      refine xn_ge (tgt := 69) hx hb dX3_takes_11 (by decide) (by omega) (by omega) (fun c_11_0 => ?_) (fun c_11_0 => ?_)
      · skip
        refine lv_iconst (v := nI 1) hx hb dX3_takes_69 (by decide) ?_
        exact xr_z (v := (nI 1)) hx hb hr hlocks hK hS dX3_takes_70 (rfl) (I, L, A, Q, G, J) ⟨(Or.inl ⟨rfl, by rw [show R = n by omega]; exact ht5⟩), rfl⟩ hP hD
      · skip
        have hnR := ix_lt (R := R) (M := M) (n := n) (k := 0) (by omega) (by omega)
        refine lv_iconst (v := nI 0) hx hb dX3_takes_14 (by decide) ?_
        refine lv_istore (lv' := [(5, .int (nI 0)), (0, .ref (h 101)), (1, .ref (h 231)), (2, .int (nI f9)), (3, .int (nI p5)), (4, .int (nI n))]) hx hb dX3_takes_15 hl (by decide) rfl (fun ls hl => ?_)
        have cut_17 : ∀ (nf : Nat) (k : Nat) (pp : Nat), (M + 1 - k) < nf → (k ≤ M + 1) → (pp = f9 + (n * (M + 1) + k)) → (pp ≤ 25) → (tkI (Q 231) f9 M n k) → ∀ (H : Heap) (locs : List Loc) (ls : Array Slot), va_P (dC, dI) vwCl (wTk3 h cs I L A Q G J) H → va_D A0 (wTk3 h cs I L A Q G J) → va_S A0 s.heap H locs → lv_has ls 6 [(0, .ref (h 101)), (1, .ref (h 231)), (2, .int (nI f9)), (3, .int (nI pp)), (4, .int (nI n)), (5, .int (nI k))] → W p l e (headSpec wsX3_takes ({ frames := 1, cells := 0, slots := 0, locals := 22 })).room s m ([.ref (h 101), .ref (h 231), .int (nI f9)] : List Value).toArray below meth c H locs 0 0 (MQ below (va_Qi (fun (r : Int32) (u : CS) => ((r = nI 1 ∧ tkI (Q 231) f9 M R 0) ∨ (r = nI 0 ∧ ¬ tkI (Q 231) f9 M R 0)) ∧ u = (I, L, A, Q, G, J)) (xB (dC, dI) (tysA cs) A0 (fun u : CS => wTk3 h cs u.1 u.2.1 u.2.2.1 u.2.2.2.1 u.2.2.2.2.1 u.2.2.2.2.2)) A0) ([.ref (h 101), .ref (h 231), .int (nI f9)] : List Value).toArray s 0 0 A0) (F0 m 17 ls []) := by
          intro nf
          induction nf with
          | zero => intro k pp hm; exact absurd hm (Nat.not_lt_zero _)
          | succ nf ih_17 =>
            intro k pp hm_17 hk17 hp17 hp17b ht17 H locs ls hP hD hS hl
            refine lv_iload hx hb dX3_takes_17 (lv_at hl 5 rfl) ?_
            refine lv_aload_n hx hb dX3_takes_19 rfl (lv_at hl 0 rfl) ?_
            refine va_get (D := (dC, dI)) (ci := 3) (v := .int (I 121)) (C := RX3) (T := TX3) (N := 6) hx hb hts hinX3 hown hK hP 0 rfl rfl 1 (by decide) (hts (.fieldLink RX3 15 "MixedWords$Mix" "width" "I") (by decide +kernel)) (fun _ h9 => h9) rfl dX3_takes_20 ?_
            refine xt_i (y := nI M) (hM) ?_
            refine xn_gt (tgt := 63) hx hb dX3_takes_23 (by decide) (by omega) (by omega) (fun c_23_1 => ?_) (fun c_23_1 => ?_)
            · skip
              refine lv_iinc (v := nI (n + 1)) (lv' := [(4, .int (nI (n + 1))), (0, .ref (h 101)), (1, .ref (h 231)), (2, .int (nI f9)), (3, .int (nI pp)), (5, .int (nI k))]) hx hb dX3_takes_63 hl (k := 4) rfl (nI_1 _) (by decide) rfl (fun ls hl => ?_)
              refine lv_goto (tgt := 5) hx hb dX3_takes_66 (by decide) ?_
              exact ih_5 (n + 1) pp (by omega) (by first | assumption | omega) (by first | (rw [Nat.zero_mul]; omega) | (rw [Nat.succ_mul]; omega) | omega) (by omega) (by first | exact tk_0 | exact tk_r (by omega) ht17) _ _ _ hP hD hS (lv_sub hl [1, 2, 3, 4, 0] rfl)
            · skip
              have hix := ix_lt (R := R) (M := M) (n := n) (k := k) (by omega) (by omega)
              refine lv_aload_n hx hb dX3_takes_26 rfl (lv_at hl 1 rfl) ?_
              refine lv_iload_n hx hb dX3_takes_27 rfl (lv_at hl 3 rfl) ?_
              refine xa_lald hx hb hK hP 8 1 rfl rfl (by omega) (by decide) dX3_takes_28 ?_
              refine lv_iload hx hb dX3_takes_29 (lv_at hl 5 rfl) ?_
              refine lv_aload_n hx hb dX3_takes_31 rfl (lv_at hl 0 rfl) ?_
              refine va_get (D := (dC, dI)) (ci := 3) (v := .int (I 121)) (C := RX3) (T := TX3) (N := 6) hx hb hts hinX3 hown hK hP 0 rfl rfl 1 (by decide) (hts (.fieldLink RX3 15 "MixedWords$Mix" "width" "I") (by decide +kernel)) (fun _ h9 => h9) rfl dX3_takes_32 ?_
              refine xt_i (y := nI M) (hM) ?_
              refine xn_ne (tgt := 44) hx hb dX3_takes_35 (by decide) (by omega) (by omega) (fun c_35_2 => ?_) (fun c_35_2 => ?_)
              · skip
                refine lv_bipush (v := nI 9) hx hb dX3_takes_44 (by decide) ?_
                refine xj_i (wc := ([] : va_W)) (wr := (wTk3 h cs I L A Q G J)) hP hD hS hA [] [0, 1, 2, 3, 4, 5, 6, 7, 8] rfl rfl (by decide +kernel) (by decide +kernel) (va_runSN (As := [.long (Q 231 pp), .int (nI 9)]) (rest := []) ⟨hx, hb, hml, hown, hts⟩ (k_X9_within l dC dI h cs H.size I L A Q G J (Q 231 pp) (nI 9)) ⟨va_cnB (host := "MixedWords") 2 hts gX3_takes_X9_within_n43 rfl rfl rfl hN.2.2.2.2.2.2.1 (hts (.initialized RX9) (by decide +kernel)) (by decide +kernel) ⟨Nat.le_of_ble_eq_true rfl, Nat.le_of_ble_eq_true rfl⟩, hts (.static yX9_within) (by decide +kernel), trivial⟩ (xpS (wc := ([] : va_W)) hP hD hK hN [] rfl (by decide) _) rfl rfl hl.1 rfl (lv_room (Nat.le_of_ble_eq_true rfl)) dX3_takes_46 ⟨Nat.zero_le _, Nat.zero_le _⟩) (fun r_5 u_4 H locs hw hP hD hS => ?_)
                obtain ⟨hf_6, rfl⟩ := hw
                have hP : va_P (dC, dI) vwCl (wTk3 h cs I L A Q G J) H := hP
                have hD : va_D A0 (wTk3 h cs I L A Q G J) := hD
                rcases wi_L (n := 9) (by decide) (by decide) hf_6 with ⟨rfl, hok_7⟩ | ⟨rfl, hok_7⟩
                · skip
                  have hok9 : okI M k (Q 231 pp) := (okI_N (by assumption)).mpr hok_7
                  refine lv_if_ne (tgt := 54) hx hb dX3_takes_49 (by decide) (fun _ => ?_) (fun c9 => False.elim (by revert c9; decide +kernel))
                  refine lv_iinc (v := nI (pp + 1)) (lv' := [(3, .int (nI (pp + 1))), (0, .ref (h 101)), (1, .ref (h 231)), (2, .int (nI f9)), (4, .int (nI n)), (5, .int (nI k))]) hx hb dX3_takes_54 hl (k := 3) rfl (nI_1 _) (by decide) rfl (fun ls hl => ?_)
                  refine lv_iinc (v := nI (k + 1)) (lv' := [(5, .int (nI (k + 1))), (3, .int (nI (pp + 1))), (0, .ref (h 101)), (1, .ref (h 231)), (2, .int (nI f9)), (4, .int (nI n))]) hx hb dX3_takes_57 hl (k := 5) rfl (nI_1 _) (by decide) rfl (fun ls hl => ?_)
                  refine lv_goto (tgt := 17) hx hb dX3_takes_60 (by decide) ?_
                  exact ih_17 (k + 1) (pp + 1) (by omega) (by first | assumption | omega) (by first | assumption | omega) (by first | assumption | omega) (by first | exact ht5 | exact tk_s hp17 ht17 hok9) _ _ _ hP hD hS (lv_sub hl [2, 3, 4, 1, 5, 0] rfl)
                · skip
                  have hok9 : ¬ okI M k (Q 231 pp) := fun q9 => hok_7 ((okI_N (by assumption)).mp q9)
                  refine lv_if_ne (tgt := 54) hx hb dX3_takes_49 (by decide) (fun c9 => False.elim (by revert c9; decide +kernel)) (fun _ => ?_)
                  refine lv_iconst (v := nI 0) hx hb dX3_takes_52 (by decide) ?_
                  exact xr_z (v := (nI 0)) hx hb hr hlocks hK hS dX3_takes_53 (rfl) (I, L, A, Q, G, J) ⟨(Or.inr ⟨rfl, fun q9 => hok9 (by rw [hp17]; exact q9 n k (by omega) (Or.inl (by omega)))⟩), rfl⟩ hP hD
              · skip
                refine lv_sipush (v := nI 999) hx hb dX3_takes_38 (by decide) ?_
                refine lv_goto (tgt := 46) hx hb dX3_takes_41 (by decide) ?_
                refine xj_i (wc := ([] : va_W)) (wr := (wTk3 h cs I L A Q G J)) hP hD hS hA [] [0, 1, 2, 3, 4, 5, 6, 7, 8] rfl rfl (by decide +kernel) (by decide +kernel) (va_runSN (As := [.long (Q 231 pp), .int (nI 999)]) (rest := []) ⟨hx, hb, hml, hown, hts⟩ (k_X9_within l dC dI h cs H.size I L A Q G J (Q 231 pp) (nI 999)) ⟨va_cnB (host := "MixedWords") 2 hts gX3_takes_X9_within_n43 rfl rfl rfl hN.2.2.2.2.2.2.1 (hts (.initialized RX9) (by decide +kernel)) (by decide +kernel) ⟨Nat.le_of_ble_eq_true rfl, Nat.le_of_ble_eq_true rfl⟩, hts (.static yX9_within) (by decide +kernel), trivial⟩ (xpS (wc := ([] : va_W)) hP hD hK hN [] rfl (by decide) _) rfl rfl hl.1 rfl (lv_room (Nat.le_of_ble_eq_true rfl)) dX3_takes_46 ⟨Nat.zero_le _, Nat.zero_le _⟩) (fun r_9 u_8 H locs hw hP hD hS => ?_)
                obtain ⟨hf_10, rfl⟩ := hw
                have hP : va_P (dC, dI) vwCl (wTk3 h cs I L A Q G J) H := hP
                have hD : va_D A0 (wTk3 h cs I L A Q G J) := hD
                rcases wi_L (n := 999) (by decide) (by decide) hf_10 with ⟨rfl, hok_11⟩ | ⟨rfl, hok_11⟩
                · skip
                  have hok9 : okI M k (Q 231 pp) := (okI_M (by assumption)).mpr hok_11
                  refine lv_if_ne (tgt := 54) hx hb dX3_takes_49 (by decide) (fun _ => ?_) (fun c9 => False.elim (by revert c9; decide +kernel))
                  refine lv_iinc (v := nI (pp + 1)) (lv' := [(3, .int (nI (pp + 1))), (0, .ref (h 101)), (1, .ref (h 231)), (2, .int (nI f9)), (4, .int (nI n)), (5, .int (nI k))]) hx hb dX3_takes_54 hl (k := 3) rfl (nI_1 _) (by decide) rfl (fun ls hl => ?_)
                  refine lv_iinc (v := nI (k + 1)) (lv' := [(5, .int (nI (k + 1))), (3, .int (nI (pp + 1))), (0, .ref (h 101)), (1, .ref (h 231)), (2, .int (nI f9)), (4, .int (nI n))]) hx hb dX3_takes_57 hl (k := 5) rfl (nI_1 _) (by decide) rfl (fun ls hl => ?_)
                  refine lv_goto (tgt := 17) hx hb dX3_takes_60 (by decide) ?_
                  exact ih_17 (k + 1) (pp + 1) (by omega) (by first | assumption | omega) (by first | assumption | omega) (by first | assumption | omega) (by first | exact ht5 | exact tk_s hp17 ht17 hok9) _ _ _ hP hD hS (lv_sub hl [2, 3, 4, 1, 5, 0] rfl)
                · skip
                  have hok9 : ¬ okI M k (Q 231 pp) := fun q9 => hok_11 ((okI_M (by assumption)).mp q9)
                  refine lv_if_ne (tgt := 54) hx hb dX3_takes_49 (by decide) (fun c9 => False.elim (by revert c9; decide +kernel)) (fun _ => ?_)
                  refine lv_iconst (v := nI 0) hx hb dX3_takes_52 (by decide) ?_
                  exact xr_z (v := (nI 0)) hx hb hr hlocks hK hS dX3_takes_53 (rfl) (I, L, A, Q, G, J) ⟨(Or.inr ⟨rfl, fun q9 => hok9 (by rw [hp17]; exact q9 n k (by omega) (Or.inl (by omega)))⟩), rfl⟩ hP hD
        exact cut_17 _ 0 p5 (Nat.lt_succ_self _) (by first | assumption | omega) (by first | assumption | omega) (by first | assumption | omega) (by first | exact ht5 | exact tk_s hp17 ht17 hok9) _ _ _ hP hD hS (lv_sub hl [1, 2, 3, 4, 5, 0] rfl)
  exact cut_5 _ 0 f9 (Nat.lt_succ_self _) (by first | assumption | omega) (by first | (rw [Nat.zero_mul]; omega) | (rw [Nat.succ_mul]; omega) | omega) (by omega) (by first | exact tk_0 | exact tk_r (by omega) ht17) _ _ _ hP hD hS (lv_sub hl [2, 3, 4, 1, 0] rfl)
set_option maxRecDepth 20000 in
theorem ggX3_copy_X3_put : GoodIn wsX3_copy wsX3_put := goodIn_r _ [7, 2, 8, 9, 10, 11, 12, 13, 14, 15, 16] rfl (by decide +kernel)
set_option maxRecDepth 20000 in
theorem gX3_copy_X3_put : GoodIn wsX3_copy (wsV RX3 47 RX3 yX3_put wsX3_put) := goodIn_app (goodIn_of _ (by decide +kernel)) ggX3_copy_X3_put
theorem bdX3_copy_0 : (decode cX3_copy 0 = .ok (.iload_n 2, 1)) ∧ (decode cX3_copy 1 = .ok (.istore_n 3, 1)) ∧ (decode cX3_copy 2 = .ok (.iconst 0, 1)) ∧ (decode cX3_copy 3 = .ok (.istore 4, 2)) ∧ (decode cX3_copy 5 = .ok (.iload 4, 2)) ∧ (decode cX3_copy 7 = .ok (.aload_n 0, 1)) ∧ (decode cX3_copy 8 = .ok (.getfield 9, 3)) ∧ (decode cX3_copy 11 = .ok (.if_icmp .ge 42, 3)) ∧ (decode cX3_copy 14 = .ok (.iconst 0, 1)) ∧ (decode cX3_copy 15 = .ok (.istore 5, 2)) ∧ (decode cX3_copy 17 = .ok (.iload 5, 2)) ∧ (decode cX3_copy 19 = .ok (.aload_n 0, 1)) ∧ (decode cX3_copy 20 = .ok (.getfield 15, 3)) ∧ (decode cX3_copy 23 = .ok (.if_icmp .gt 24, 3)) ∧ (decode cX3_copy 26 = .ok (.aload_n 0, 1)) ∧ (decode cX3_copy 27 = .ok (.iload 4, 2)) := by decide +kernel
theorem dX3_copy_0 : decode cX3_copy 0 = .ok (.iload_n 2, 1) := bdX3_copy_0.1
theorem dX3_copy_1 : decode cX3_copy 1 = .ok (.istore_n 3, 1) := bdX3_copy_0.2.1
theorem dX3_copy_2 : decode cX3_copy 2 = .ok (.iconst 0, 1) := bdX3_copy_0.2.2.1
theorem dX3_copy_3 : decode cX3_copy 3 = .ok (.istore 4, 2) := bdX3_copy_0.2.2.2.1
theorem dX3_copy_5 : decode cX3_copy 5 = .ok (.iload 4, 2) := bdX3_copy_0.2.2.2.2.1
theorem dX3_copy_7 : decode cX3_copy 7 = .ok (.aload_n 0, 1) := bdX3_copy_0.2.2.2.2.2.1
theorem dX3_copy_8 : decode cX3_copy 8 = .ok (.getfield 9, 3) := bdX3_copy_0.2.2.2.2.2.2.1
theorem dX3_copy_11 : decode cX3_copy 11 = .ok (.if_icmp .ge 42, 3) := bdX3_copy_0.2.2.2.2.2.2.2.1
theorem dX3_copy_14 : decode cX3_copy 14 = .ok (.iconst 0, 1) := bdX3_copy_0.2.2.2.2.2.2.2.2.1
theorem dX3_copy_15 : decode cX3_copy 15 = .ok (.istore 5, 2) := bdX3_copy_0.2.2.2.2.2.2.2.2.2.1
theorem dX3_copy_17 : decode cX3_copy 17 = .ok (.iload 5, 2) := bdX3_copy_0.2.2.2.2.2.2.2.2.2.2.1
theorem dX3_copy_19 : decode cX3_copy 19 = .ok (.aload_n 0, 1) := bdX3_copy_0.2.2.2.2.2.2.2.2.2.2.2.1
theorem dX3_copy_20 : decode cX3_copy 20 = .ok (.getfield 15, 3) := bdX3_copy_0.2.2.2.2.2.2.2.2.2.2.2.2.1
theorem dX3_copy_23 : decode cX3_copy 23 = .ok (.if_icmp .gt 24, 3) := bdX3_copy_0.2.2.2.2.2.2.2.2.2.2.2.2.2.1
theorem dX3_copy_26 : decode cX3_copy 26 = .ok (.aload_n 0, 1) := bdX3_copy_0.2.2.2.2.2.2.2.2.2.2.2.2.2.2.1
theorem dX3_copy_27 : decode cX3_copy 27 = .ok (.iload 4, 2) := bdX3_copy_0.2.2.2.2.2.2.2.2.2.2.2.2.2.2.2
theorem bdX3_copy_29 : (decode cX3_copy 29 = .ok (.iload 5, 2)) ∧ (decode cX3_copy 31 = .ok (.aload_n 1, 1)) ∧ (decode cX3_copy 32 = .ok (.iload_n 3, 1)) ∧ (decode cX3_copy 33 = .ok (.laload, 1)) ∧ (decode cX3_copy 34 = .ok (.l2i, 1)) ∧ (decode cX3_copy 35 = .ok (.invokevirtual 47, 3)) ∧ (decode cX3_copy 38 = .ok (.iinc 3 1, 3)) ∧ (decode cX3_copy 41 = .ok (.iinc 5 1, 3)) ∧ (decode cX3_copy 44 = .ok (.goto (-27), 3)) ∧ (decode cX3_copy 47 = .ok (.iinc 4 1, 3)) ∧ (decode cX3_copy 50 = .ok (.goto (-45), 3)) ∧ (decode cX3_copy 53 = .ok (.return_, 1)) := by decide +kernel
theorem dX3_copy_29 : decode cX3_copy 29 = .ok (.iload 5, 2) := bdX3_copy_29.1
theorem dX3_copy_31 : decode cX3_copy 31 = .ok (.aload_n 1, 1) := bdX3_copy_29.2.1
theorem dX3_copy_32 : decode cX3_copy 32 = .ok (.iload_n 3, 1) := bdX3_copy_29.2.2.1
theorem dX3_copy_33 : decode cX3_copy 33 = .ok (.laload, 1) := bdX3_copy_29.2.2.2.1
theorem dX3_copy_34 : decode cX3_copy 34 = .ok (.l2i, 1) := bdX3_copy_29.2.2.2.2.1
theorem dX3_copy_35 : decode cX3_copy 35 = .ok (.invokevirtual 47, 3) := bdX3_copy_29.2.2.2.2.2.1
theorem dX3_copy_38 : decode cX3_copy 38 = .ok (.iinc 3 1, 3) := bdX3_copy_29.2.2.2.2.2.2.1
theorem dX3_copy_41 : decode cX3_copy 41 = .ok (.iinc 5 1, 3) := bdX3_copy_29.2.2.2.2.2.2.2.1
theorem dX3_copy_44 : decode cX3_copy 44 = .ok (.goto (-27), 3) := bdX3_copy_29.2.2.2.2.2.2.2.2.1
theorem dX3_copy_47 : decode cX3_copy 47 = .ok (.iinc 4 1, 3) := bdX3_copy_29.2.2.2.2.2.2.2.2.2.1
theorem dX3_copy_50 : decode cX3_copy 50 = .ok (.goto (-45), 3) := bdX3_copy_29.2.2.2.2.2.2.2.2.2.2.1
theorem dX3_copy_53 : decode cX3_copy 53 = .ok (.return_, 1) := bdX3_copy_29.2.2.2.2.2.2.2.2.2.2.2
set_option maxHeartbeats 4000000 in
set_option maxRecDepth 100000 in
theorem k_X3_copy0 (l : Launch) (dC : Nat → ClassId) (dI : Nat → Nat → Nat) (h : Nat → Nat) (cs : Nat → ClassId) (sz : Nat) (I : Nat → Int32) (L : Nat → Int64) (A : Nat → Nat → Int32) (Q : Nat → Nat → Int64) (G : Nat → Nat → Nat → Int32) (J : Nat → Nat → Nat → Int64) (f9 R M sp9 : Nat) (hf9 : f9 + R * (M + 1) ≤ 25) (hR : I 120 = nI R) (hR1 : 1 ≤ R) (hR5 : R ≤ 5) (hM : I 121 = nI M) (hM1 : 1 ≤ M) (hM4 : M ≤ 4) (hst : I 123 = nI sp9) (hst2 : sp9 < 999999000) : Met l yX3_copy wsX3_copy ({ frames := 1, cells := 0, slots := 0, locals := 23 }) (va_Pc [.ref (h 101), .ref (h 228), .int (nI f9)] (xPre (dC, dI) (wTk0 h cs I L A Q G J) (tysA cs) sz)) (va_Qv (fun (u : CS) => ∃ i123 : Int32, ∃ a136 : Nat → Int32, ∃ g0 : Nat → Nat → Int32, (cpI (Q 228) f9 M R 0 a136 g0 ∧ ∃ s2 : Nat, sp9 < s2 ∧ s2 ≤ sp9 + 25 ∧ i123 = nI s2) ∧ u = ((va_up I 123 i123), L, (va_up A 136 a136), Q, (va_up G 0 g0), J)) (xB (dC, dI) (tysA cs) (va_A (wTk0 h cs I L A Q G J) sz) (fun u : CS => wTk0 h cs u.1 u.2.1 u.2.2.1 u.2.2.2.1 u.2.2.2.2.1 u.2.2.2.2.2)) (va_A (wTk0 h cs I L A Q G J) sz)) 0 0 (va_A (wTk0 h cs I L A Q G J) sz) := by
  refine Met.ofW (cc := cX3_copy) (maxL := 6) (ret := none) (by decide) rfl ?_
  intro p e s m args below meth c s₁ B hml hv
  obtain ⟨rfl, hsz, hP, hK, hD0, hN⟩ := hv
  have hx := B.exec
  have hb := B.bytes
  have hr := B.returns
  have hts := atoms_spec (ws := wsX3_copy) B.pre
  have hown : s.vm.findClass RX3 = some m.cls := findClass_of_methodNamed B.named
  have hlocks := B.notSynchronized
  subst hsz
  have hD := hD0.self (sz := s.heap.size)
  generalize hAe : va_A (wTk0 h cs I L A Q G J) s.heap.size = A0 at hD ⊢
  have hA : ∀ q : Nat, s.heap.size ≤ q → A0 q := fun q h => by rw [← hAe]; exact Or.inr h
  have hl := lv_entry ([.ref (h 101), .ref (h 228), .int (nI f9)]) (n := 6) (Nat.le_of_ble_eq_true rfl)
  rw [lg_entry_eq]
  generalize (lg_sl ([.ref (h 101), .ref (h 228), .int (nI f9)]) ++ List.replicate (6 - (lg_sl ([.ref (h 101), .ref (h 228), .int (nI f9)])).length) Slot.unset).toArray = ls at hl ⊢
  have hl : lv_has ls 6 [(0, .ref (h 101)), (1, .ref (h 228)), (2, .int (nI f9))] := hl
  generalize hH : s.heap = H at hP ⊢
  have hS : va_S A0 s.heap H [] := by rw [← hH]; exact va_S.rf
  have hinX3 : ∀ w ∈ wsX30, w ∈ wsX3_copy := by decide +kernel
  refine lv_iload_n hx hb dX3_copy_0 rfl (lv_at hl 2 rfl) ?_
  refine lv_istore_n (lv' := [(3, .int (nI f9)), (0, .ref (h 101)), (1, .ref (h 228)), (2, .int (nI f9))]) hx hb dX3_copy_1 rfl hl (by decide) rfl (fun ls hl => ?_)
  refine lv_iconst (v := nI 0) hx hb dX3_copy_2 (by decide) ?_
  refine lv_istore (lv' := [(4, .int (nI 0)), (3, .int (nI f9)), (0, .ref (h 101)), (1, .ref (h 228)), (2, .int (nI f9))]) hx hb dX3_copy_3 hl (by decide) rfl (fun ls hl => ?_)
  have cut_5 : ∀ (nf : Nat) (n : Nat) (p5 : Nat) (s5 : Nat) (he : Nat → Int32) (g : Nat → Nat → Int32), (R - n) < nf → (n ≤ R) → (p5 = f9 + n * (M + 1)) → (p5 ≤ 25) → (s5 = sp9 + (p5 - f9)) → (cpI (Q 228) f9 M n 0 he g) → ∀ (H : Heap) (locs : List Loc) (ls : Array Slot), va_P (dC, dI) vwCl (wTk0 h cs (va_up I 123 (nI s5)) L (va_up A 136 he) Q (va_up G 0 g) J) H → va_D A0 (wTk0 h cs (va_up I 123 (nI s5)) L (va_up A 136 he) Q (va_up G 0 g) J) → va_S A0 s.heap H locs → lv_has ls 6 [(0, .ref (h 101)), (1, .ref (h 228)), (2, .int (nI f9)), (3, .int (nI p5)), (4, .int (nI n))] → W p l e (headSpec wsX3_copy ({ frames := 1, cells := 0, slots := 0, locals := 23 })).room s m ([.ref (h 101), .ref (h 228), .int (nI f9)] : List Value).toArray below meth c H locs 0 0 (MQ below (va_Qv (fun (u : CS) => ∃ i123 : Int32, ∃ a136 : Nat → Int32, ∃ g0 : Nat → Nat → Int32, (cpI (Q 228) f9 M R 0 a136 g0 ∧ ∃ s2 : Nat, sp9 < s2 ∧ s2 ≤ sp9 + 25 ∧ i123 = nI s2) ∧ u = ((va_up I 123 i123), L, (va_up A 136 a136), Q, (va_up G 0 g0), J)) (xB (dC, dI) (tysA cs) A0 (fun u : CS => wTk0 h cs u.1 u.2.1 u.2.2.1 u.2.2.2.1 u.2.2.2.2.1 u.2.2.2.2.2)) A0) ([.ref (h 101), .ref (h 228), .int (nI f9)] : List Value).toArray s 0 0 A0) (F0 m 5 ls []) := by
    intro nf
    induction nf with
    | zero => intro n p5 s5 he g hm; exact absurd hm (Nat.not_lt_zero _)
    | succ nf ih_5 =>
      intro n p5 s5 he g hm_5 hn5 hp5 hp5b hs5 ht5 H locs ls hP hD hS hl
      refine lv_iload hx hb dX3_copy_5 (lv_at hl 4 rfl) ?_
      refine lv_aload_n hx hb dX3_copy_7 rfl (lv_at hl 0 rfl) ?_
      refine va_get (D := (dC, dI)) (ci := 3) (v := .int (I 120)) (C := RX3) (T := TX3) (N := 6) hx hb hts hinX3 hown hK hP 0 rfl rfl 0 (by decide) (hts (.fieldLink RX3 9 "MixedWords$Mix" "height" "I") (by decide +kernel)) (fun _ h9 => h9) rfl dX3_copy_8 ?_
      refine xt_i (y := nI R) (hR) ?_
      refine xn_ge (tgt := 53) hx hb dX3_copy_11 (by decide) (by omega) (by omega) (fun c_11_0 => ?_) (fun c_11_0 => ?_)
      · skip
        exact xr_v hx hb hr hlocks hK hS dX3_copy_53 ((va_up I 123 (nI s5)), L, (va_up A 136 he), Q, (va_up G 0 g), J) ⟨(nI s5), he, g, ⟨by rw [show R = n by omega]; exact ht5, s5, by have q9 := Nat.mul_pos (show 0 < n by omega) (show 0 < M + 1 by omega); omega, by omega, by first | rfl | assumption⟩, rfl⟩ hP hD
      · skip
        have hnR := ix_lt (R := R) (M := M) (n := n) (k := 0) (by omega) (by omega)
        refine lv_iconst (v := nI 0) hx hb dX3_copy_14 (by decide) ?_
        refine lv_istore (lv' := [(5, .int (nI 0)), (0, .ref (h 101)), (1, .ref (h 228)), (2, .int (nI f9)), (3, .int (nI p5)), (4, .int (nI n))]) hx hb dX3_copy_15 hl (by decide) rfl (fun ls hl => ?_)
        have cut_17 : ∀ (nf : Nat) (k : Nat) (pp : Nat) (s7 : Nat) (he7 : Nat → Int32) (g7 : Nat → Nat → Int32), (M + 1 - k) < nf → (k ≤ M + 1) → (pp = f9 + (n * (M + 1) + k)) → (pp ≤ 25) → (s7 = sp9 + (pp - f9)) → (cpI (Q 228) f9 M n k he7 g7) → ∀ (H : Heap) (locs : List Loc) (ls : Array Slot), va_P (dC, dI) vwCl (wTk0 h cs (va_up I 123 (nI s7)) L (va_up A 136 he7) Q (va_up G 0 g7) J) H → va_D A0 (wTk0 h cs (va_up I 123 (nI s7)) L (va_up A 136 he7) Q (va_up G 0 g7) J) → va_S A0 s.heap H locs → lv_has ls 6 [(0, .ref (h 101)), (1, .ref (h 228)), (2, .int (nI f9)), (3, .int (nI pp)), (4, .int (nI n)), (5, .int (nI k))] → W p l e (headSpec wsX3_copy ({ frames := 1, cells := 0, slots := 0, locals := 23 })).room s m ([.ref (h 101), .ref (h 228), .int (nI f9)] : List Value).toArray below meth c H locs 0 0 (MQ below (va_Qv (fun (u : CS) => ∃ i123 : Int32, ∃ a136 : Nat → Int32, ∃ g0 : Nat → Nat → Int32, (cpI (Q 228) f9 M R 0 a136 g0 ∧ ∃ s2 : Nat, sp9 < s2 ∧ s2 ≤ sp9 + 25 ∧ i123 = nI s2) ∧ u = ((va_up I 123 i123), L, (va_up A 136 a136), Q, (va_up G 0 g0), J)) (xB (dC, dI) (tysA cs) A0 (fun u : CS => wTk0 h cs u.1 u.2.1 u.2.2.1 u.2.2.2.1 u.2.2.2.2.1 u.2.2.2.2.2)) A0) ([.ref (h 101), .ref (h 228), .int (nI f9)] : List Value).toArray s 0 0 A0) (F0 m 17 ls []) := by
          intro nf
          induction nf with
          | zero => intro k pp s7 he7 g7 hm; exact absurd hm (Nat.not_lt_zero _)
          | succ nf ih_17 =>
            intro k pp s7 he7 g7 hm_17 hk17 hp17 hp17b hs17 ht17 H locs ls hP hD hS hl
            refine lv_iload hx hb dX3_copy_17 (lv_at hl 5 rfl) ?_
            refine lv_aload_n hx hb dX3_copy_19 rfl (lv_at hl 0 rfl) ?_
            refine va_get (D := (dC, dI)) (ci := 3) (v := .int (I 121)) (C := RX3) (T := TX3) (N := 6) hx hb hts hinX3 hown hK hP 0 rfl rfl 1 (by decide) (hts (.fieldLink RX3 15 "MixedWords$Mix" "width" "I") (by decide +kernel)) (fun _ h9 => h9) rfl dX3_copy_20 ?_
            refine xt_i (y := nI M) (hM) ?_
            refine xn_gt (tgt := 47) hx hb dX3_copy_23 (by decide) (by omega) (by omega) (fun c_23_1 => ?_) (fun c_23_1 => ?_)
            · skip
              refine lv_iinc (v := nI (n + 1)) (lv' := [(4, .int (nI (n + 1))), (0, .ref (h 101)), (1, .ref (h 228)), (2, .int (nI f9)), (3, .int (nI pp)), (5, .int (nI k))]) hx hb dX3_copy_47 hl (k := 4) rfl (nI_1 _) (by decide) rfl (fun ls hl => ?_)
              refine lv_goto (tgt := 5) hx hb dX3_copy_50 (by decide) ?_
              exact ih_5 (n + 1) pp s7 he7 g7 (by omega) (by first | assumption | omega) (by first | (rw [Nat.zero_mul]; omega) | (rw [Nat.succ_mul]; omega) | omega) (by omega) (by first | assumption | omega) (by first | exact cp_0 | exact cp_r (by omega) ht17) _ _ _ hP hD hS (lv_sub hl [1, 2, 3, 4, 0] rfl)
            · skip
              have hix := ix_lt (R := R) (M := M) (n := n) (k := k) (by omega) (by omega)
              refine lv_aload_n hx hb dX3_copy_26 rfl (lv_at hl 0 rfl) ?_
              refine lv_iload hx hb dX3_copy_27 (lv_at hl 4 rfl) ?_
              refine lv_iload hx hb dX3_copy_29 (lv_at hl 5 rfl) ?_
              refine lv_aload_n hx hb dX3_copy_31 rfl (lv_at hl 1 rfl) ?_
              refine lv_iload_n hx hb dX3_copy_32 rfl (lv_at hl 3 rfl) ?_
              refine xa_lald hx hb hK hP 8 1 rfl rfl (by omega) (by decide) dX3_copy_33 ?_
              refine lv_l2i (v := (Q 228 pp).toInt32) hx hb dX3_copy_34 rfl ?_
              refine xj_v (wc := (wMix h cs (va_up I 123 (nI s7)) L (va_up A 136 he7) Q (va_up G 0 g7) J)) (wr := [(h 228, .inl (cs 1, 25, .inr (.inl (Q 228))))]) hP hD hS hA [0, 1, 2, 3, 4, 5, 6, 7] [8] rfl rfl (by decide +kernel) (by decide +kernel) (va_runV (As := [.int (nI n), .int (nI k), .int ((Q 228 pp).toInt32)]) (rest := []) ⟨hx, hb, hml, hown, hts⟩ (k_X3_put l dC dI h cs H.size (va_up I 123 (nI s7)) L (va_up A 136 he7) Q (va_up G 0 g7) J n k ((Q 228 pp).toInt32) M s7 (by first | assumption | omega) (by first | assumption | omega) hM (by first | assumption | omega | exact hM1) (by first | assumption | omega | exact hM4) rfl (by first | assumption | omega | exact hst2)) (cwV 3 hts gX3_copy_X3_put rfl rfl rfl (by decide +kernel) ⟨Nat.le_of_ble_eq_true rfl, Nat.le_of_ble_eq_true rfl⟩) (xpV (wc := (wMix h cs (va_up I 123 (nI s7)) L (va_up A 136 he7) Q (va_up G 0 g7) J)) hP hD hK hN [0, 1, 2, 3, 4, 5, 6, 7] rfl (by decide) 0 (ci := 3) rfl rfl _) rfl rfl hl.1 rfl (lv_room (Nat.le_of_ble_eq_true rfl)) dX3_copy_35 ⟨Nat.zero_le _, Nat.zero_le _⟩) (fun u_3 H locs hw hP hD hS => ?_)
              obtain ⟨x123_5, f136_6, g0_7, hf_8, rfl⟩ := hw
              have hP : va_P (dC, dI) vwCl (wTk0 h cs (va_up I 123 x123_5) L (va_up A 136 f136_6) Q (va_up G 0 g0_7) J) H := xP_sub hP [1, 2, 3, 4, 5, 6, 7, 8, 0] rfl
              have hD : va_D A0 (wTk0 h cs (va_up I 123 x123_5) L (va_up A 136 f136_6) Q (va_up G 0 g0_7) J) := hD.sub [1, 2, 3, 4, 5, 6, 7, 8, 0] (by decide +kernel) rfl
              obtain ⟨rfl, hput_9⟩ := hf_8
              refine lv_iinc (v := nI (pp + 1)) (lv' := [(3, .int (nI (pp + 1))), (0, .ref (h 101)), (1, .ref (h 228)), (2, .int (nI f9)), (4, .int (nI n)), (5, .int (nI k))]) hx hb dX3_copy_38 hl (k := 3) rfl (nI_1 _) (by decide) rfl (fun ls hl => ?_)
              refine lv_iinc (v := nI (k + 1)) (lv' := [(5, .int (nI (k + 1))), (3, .int (nI (pp + 1))), (0, .ref (h 101)), (1, .ref (h 228)), (2, .int (nI f9)), (4, .int (nI n))]) hx hb dX3_copy_41 hl (k := 5) rfl (nI_1 _) (by decide) rfl (fun ls hl => ?_)
              refine lv_goto (tgt := 17) hx hb dX3_copy_44 (by decide) ?_
              exact ih_17 (k + 1) (pp + 1) (s7 + 1) f136_6 g0_7 (by omega) (by first | assumption | omega) (by first | assumption | omega) (by first | assumption | omega) (by first | assumption | omega) (by first | exact ht5 | exact cp_s hp17 (by omega) ht17 hput_9) _ _ _ hP hD hS (lv_sub hl [2, 3, 4, 1, 5, 0] rfl)
        exact cut_17 _ 0 p5 s5 he g (Nat.lt_succ_self _) (by first | assumption | omega) (by first | assumption | omega) (by first | assumption | omega) (by first | assumption | omega) (by first | exact ht5 | exact cp_s hp17 (by omega) ht17 hput_9) _ _ _ hP hD hS (lv_sub hl [1, 2, 3, 4, 5, 0] rfl)
  have hP : va_P (dC, dI) vwCl (wTk0 h cs (va_up I 123 (nI sp9)) L A Q G J) H := by rw [← hst]; exact hP
  have hD : va_D A0 (wTk0 h cs (va_up I 123 (nI sp9)) L A Q G J) := by rw [← hst]; exact hD
  exact cut_5 _ 0 f9 sp9 (A 136) (G 0) (Nat.lt_succ_self _) (by first | assumption | omega) (by first | (rw [Nat.zero_mul]; omega) | (rw [Nat.succ_mul]; omega) | omega) (by omega) (by first | assumption | omega) (by first | exact cp_0 | exact cp_r (by omega) ht17) _ _ _ hP hD hS (lv_sub hl [2, 3, 4, 1, 0] rfl)
set_option maxHeartbeats 4000000 in
set_option maxRecDepth 100000 in
theorem k_X3_copy1 (l : Launch) (dC : Nat → ClassId) (dI : Nat → Nat → Nat) (h : Nat → Nat) (cs : Nat → ClassId) (sz : Nat) (I : Nat → Int32) (L : Nat → Int64) (A : Nat → Nat → Int32) (Q : Nat → Nat → Int64) (G : Nat → Nat → Nat → Int32) (J : Nat → Nat → Nat → Int64) (f9 R M sp9 : Nat) (hf9 : f9 + R * (M + 1) ≤ 25) (hR : I 120 = nI R) (hR1 : 1 ≤ R) (hR5 : R ≤ 5) (hM : I 121 = nI M) (hM1 : 1 ≤ M) (hM4 : M ≤ 4) (hst : I 123 = nI sp9) (hst2 : sp9 < 999999000) : Met l yX3_copy wsX3_copy ({ frames := 1, cells := 0, slots := 0, locals := 23 }) (va_Pc [.ref (h 101), .ref (h 229), .int (nI f9)] (xPre (dC, dI) (wTk1 h cs I L A Q G J) (tysA cs) sz)) (va_Qv (fun (u : CS) => ∃ i123 : Int32, ∃ a136 : Nat → Int32, ∃ g0 : Nat → Nat → Int32, (cpI (Q 229) f9 M R 0 a136 g0 ∧ ∃ s2 : Nat, sp9 < s2 ∧ s2 ≤ sp9 + 25 ∧ i123 = nI s2) ∧ u = ((va_up I 123 i123), L, (va_up A 136 a136), Q, (va_up G 0 g0), J)) (xB (dC, dI) (tysA cs) (va_A (wTk1 h cs I L A Q G J) sz) (fun u : CS => wTk1 h cs u.1 u.2.1 u.2.2.1 u.2.2.2.1 u.2.2.2.2.1 u.2.2.2.2.2)) (va_A (wTk1 h cs I L A Q G J) sz)) 0 0 (va_A (wTk1 h cs I L A Q G J) sz) := by
  refine Met.ofW (cc := cX3_copy) (maxL := 6) (ret := none) (by decide) rfl ?_
  intro p e s m args below meth c s₁ B hml hv
  obtain ⟨rfl, hsz, hP, hK, hD0, hN⟩ := hv
  have hx := B.exec
  have hb := B.bytes
  have hr := B.returns
  have hts := atoms_spec (ws := wsX3_copy) B.pre
  have hown : s.vm.findClass RX3 = some m.cls := findClass_of_methodNamed B.named
  have hlocks := B.notSynchronized
  subst hsz
  have hD := hD0.self (sz := s.heap.size)
  generalize hAe : va_A (wTk1 h cs I L A Q G J) s.heap.size = A0 at hD ⊢
  have hA : ∀ q : Nat, s.heap.size ≤ q → A0 q := fun q h => by rw [← hAe]; exact Or.inr h
  have hl := lv_entry ([.ref (h 101), .ref (h 229), .int (nI f9)]) (n := 6) (Nat.le_of_ble_eq_true rfl)
  rw [lg_entry_eq]
  generalize (lg_sl ([.ref (h 101), .ref (h 229), .int (nI f9)]) ++ List.replicate (6 - (lg_sl ([.ref (h 101), .ref (h 229), .int (nI f9)])).length) Slot.unset).toArray = ls at hl ⊢
  have hl : lv_has ls 6 [(0, .ref (h 101)), (1, .ref (h 229)), (2, .int (nI f9))] := hl
  generalize hH : s.heap = H at hP ⊢
  have hS : va_S A0 s.heap H [] := by rw [← hH]; exact va_S.rf
  have hinX3 : ∀ w ∈ wsX30, w ∈ wsX3_copy := by decide +kernel
  refine lv_iload_n hx hb dX3_copy_0 rfl (lv_at hl 2 rfl) ?_
  refine lv_istore_n (lv' := [(3, .int (nI f9)), (0, .ref (h 101)), (1, .ref (h 229)), (2, .int (nI f9))]) hx hb dX3_copy_1 rfl hl (by decide) rfl (fun ls hl => ?_)
  refine lv_iconst (v := nI 0) hx hb dX3_copy_2 (by decide) ?_
  refine lv_istore (lv' := [(4, .int (nI 0)), (3, .int (nI f9)), (0, .ref (h 101)), (1, .ref (h 229)), (2, .int (nI f9))]) hx hb dX3_copy_3 hl (by decide) rfl (fun ls hl => ?_)
  have cut_5 : ∀ (nf : Nat) (n : Nat) (p5 : Nat) (s5 : Nat) (he : Nat → Int32) (g : Nat → Nat → Int32), (R - n) < nf → (n ≤ R) → (p5 = f9 + n * (M + 1)) → (p5 ≤ 25) → (s5 = sp9 + (p5 - f9)) → (cpI (Q 229) f9 M n 0 he g) → ∀ (H : Heap) (locs : List Loc) (ls : Array Slot), va_P (dC, dI) vwCl (wTk1 h cs (va_up I 123 (nI s5)) L (va_up A 136 he) Q (va_up G 0 g) J) H → va_D A0 (wTk1 h cs (va_up I 123 (nI s5)) L (va_up A 136 he) Q (va_up G 0 g) J) → va_S A0 s.heap H locs → lv_has ls 6 [(0, .ref (h 101)), (1, .ref (h 229)), (2, .int (nI f9)), (3, .int (nI p5)), (4, .int (nI n))] → W p l e (headSpec wsX3_copy ({ frames := 1, cells := 0, slots := 0, locals := 23 })).room s m ([.ref (h 101), .ref (h 229), .int (nI f9)] : List Value).toArray below meth c H locs 0 0 (MQ below (va_Qv (fun (u : CS) => ∃ i123 : Int32, ∃ a136 : Nat → Int32, ∃ g0 : Nat → Nat → Int32, (cpI (Q 229) f9 M R 0 a136 g0 ∧ ∃ s2 : Nat, sp9 < s2 ∧ s2 ≤ sp9 + 25 ∧ i123 = nI s2) ∧ u = ((va_up I 123 i123), L, (va_up A 136 a136), Q, (va_up G 0 g0), J)) (xB (dC, dI) (tysA cs) A0 (fun u : CS => wTk1 h cs u.1 u.2.1 u.2.2.1 u.2.2.2.1 u.2.2.2.2.1 u.2.2.2.2.2)) A0) ([.ref (h 101), .ref (h 229), .int (nI f9)] : List Value).toArray s 0 0 A0) (F0 m 5 ls []) := by
    intro nf
    induction nf with
    | zero => intro n p5 s5 he g hm; exact absurd hm (Nat.not_lt_zero _)
    | succ nf ih_5 =>
      intro n p5 s5 he g hm_5 hn5 hp5 hp5b hs5 ht5 H locs ls hP hD hS hl
      refine lv_iload hx hb dX3_copy_5 (lv_at hl 4 rfl) ?_
      refine lv_aload_n hx hb dX3_copy_7 rfl (lv_at hl 0 rfl) ?_
      refine va_get (D := (dC, dI)) (ci := 3) (v := .int (I 120)) (C := RX3) (T := TX3) (N := 6) hx hb hts hinX3 hown hK hP 0 rfl rfl 0 (by decide) (hts (.fieldLink RX3 9 "MixedWords$Mix" "height" "I") (by decide +kernel)) (fun _ h9 => h9) rfl dX3_copy_8 ?_
      refine xt_i (y := nI R) (hR) ?_
      refine xn_ge (tgt := 53) hx hb dX3_copy_11 (by decide) (by omega) (by omega) (fun c_11_0 => ?_) (fun c_11_0 => ?_)
      · skip
        exact xr_v hx hb hr hlocks hK hS dX3_copy_53 ((va_up I 123 (nI s5)), L, (va_up A 136 he), Q, (va_up G 0 g), J) ⟨(nI s5), he, g, ⟨by rw [show R = n by omega]; exact ht5, s5, by have q9 := Nat.mul_pos (show 0 < n by omega) (show 0 < M + 1 by omega); omega, by omega, by first | rfl | assumption⟩, rfl⟩ hP hD
      · skip
        have hnR := ix_lt (R := R) (M := M) (n := n) (k := 0) (by omega) (by omega)
        refine lv_iconst (v := nI 0) hx hb dX3_copy_14 (by decide) ?_
        refine lv_istore (lv' := [(5, .int (nI 0)), (0, .ref (h 101)), (1, .ref (h 229)), (2, .int (nI f9)), (3, .int (nI p5)), (4, .int (nI n))]) hx hb dX3_copy_15 hl (by decide) rfl (fun ls hl => ?_)
        have cut_17 : ∀ (nf : Nat) (k : Nat) (pp : Nat) (s7 : Nat) (he7 : Nat → Int32) (g7 : Nat → Nat → Int32), (M + 1 - k) < nf → (k ≤ M + 1) → (pp = f9 + (n * (M + 1) + k)) → (pp ≤ 25) → (s7 = sp9 + (pp - f9)) → (cpI (Q 229) f9 M n k he7 g7) → ∀ (H : Heap) (locs : List Loc) (ls : Array Slot), va_P (dC, dI) vwCl (wTk1 h cs (va_up I 123 (nI s7)) L (va_up A 136 he7) Q (va_up G 0 g7) J) H → va_D A0 (wTk1 h cs (va_up I 123 (nI s7)) L (va_up A 136 he7) Q (va_up G 0 g7) J) → va_S A0 s.heap H locs → lv_has ls 6 [(0, .ref (h 101)), (1, .ref (h 229)), (2, .int (nI f9)), (3, .int (nI pp)), (4, .int (nI n)), (5, .int (nI k))] → W p l e (headSpec wsX3_copy ({ frames := 1, cells := 0, slots := 0, locals := 23 })).room s m ([.ref (h 101), .ref (h 229), .int (nI f9)] : List Value).toArray below meth c H locs 0 0 (MQ below (va_Qv (fun (u : CS) => ∃ i123 : Int32, ∃ a136 : Nat → Int32, ∃ g0 : Nat → Nat → Int32, (cpI (Q 229) f9 M R 0 a136 g0 ∧ ∃ s2 : Nat, sp9 < s2 ∧ s2 ≤ sp9 + 25 ∧ i123 = nI s2) ∧ u = ((va_up I 123 i123), L, (va_up A 136 a136), Q, (va_up G 0 g0), J)) (xB (dC, dI) (tysA cs) A0 (fun u : CS => wTk1 h cs u.1 u.2.1 u.2.2.1 u.2.2.2.1 u.2.2.2.2.1 u.2.2.2.2.2)) A0) ([.ref (h 101), .ref (h 229), .int (nI f9)] : List Value).toArray s 0 0 A0) (F0 m 17 ls []) := by
          intro nf
          induction nf with
          | zero => intro k pp s7 he7 g7 hm; exact absurd hm (Nat.not_lt_zero _)
          | succ nf ih_17 =>
            intro k pp s7 he7 g7 hm_17 hk17 hp17 hp17b hs17 ht17 H locs ls hP hD hS hl
            refine lv_iload hx hb dX3_copy_17 (lv_at hl 5 rfl) ?_
            refine lv_aload_n hx hb dX3_copy_19 rfl (lv_at hl 0 rfl) ?_
            refine va_get (D := (dC, dI)) (ci := 3) (v := .int (I 121)) (C := RX3) (T := TX3) (N := 6) hx hb hts hinX3 hown hK hP 0 rfl rfl 1 (by decide) (hts (.fieldLink RX3 15 "MixedWords$Mix" "width" "I") (by decide +kernel)) (fun _ h9 => h9) rfl dX3_copy_20 ?_
            refine xt_i (y := nI M) (hM) ?_
            refine xn_gt (tgt := 47) hx hb dX3_copy_23 (by decide) (by omega) (by omega) (fun c_23_1 => ?_) (fun c_23_1 => ?_)
            · skip
              refine lv_iinc (v := nI (n + 1)) (lv' := [(4, .int (nI (n + 1))), (0, .ref (h 101)), (1, .ref (h 229)), (2, .int (nI f9)), (3, .int (nI pp)), (5, .int (nI k))]) hx hb dX3_copy_47 hl (k := 4) rfl (nI_1 _) (by decide) rfl (fun ls hl => ?_)
              refine lv_goto (tgt := 5) hx hb dX3_copy_50 (by decide) ?_
              exact ih_5 (n + 1) pp s7 he7 g7 (by omega) (by first | assumption | omega) (by first | (rw [Nat.zero_mul]; omega) | (rw [Nat.succ_mul]; omega) | omega) (by omega) (by first | assumption | omega) (by first | exact cp_0 | exact cp_r (by omega) ht17) _ _ _ hP hD hS (lv_sub hl [1, 2, 3, 4, 0] rfl)
            · skip
              have hix := ix_lt (R := R) (M := M) (n := n) (k := k) (by omega) (by omega)
              refine lv_aload_n hx hb dX3_copy_26 rfl (lv_at hl 0 rfl) ?_
              refine lv_iload hx hb dX3_copy_27 (lv_at hl 4 rfl) ?_
              refine lv_iload hx hb dX3_copy_29 (lv_at hl 5 rfl) ?_
              refine lv_aload_n hx hb dX3_copy_31 rfl (lv_at hl 1 rfl) ?_
              refine lv_iload_n hx hb dX3_copy_32 rfl (lv_at hl 3 rfl) ?_
              refine xa_lald hx hb hK hP 8 1 rfl rfl (by omega) (by decide) dX3_copy_33 ?_
              refine lv_l2i (v := (Q 229 pp).toInt32) hx hb dX3_copy_34 rfl ?_
              refine xj_v (wc := (wMix h cs (va_up I 123 (nI s7)) L (va_up A 136 he7) Q (va_up G 0 g7) J)) (wr := [(h 229, .inl (cs 1, 25, .inr (.inl (Q 229))))]) hP hD hS hA [0, 1, 2, 3, 4, 5, 6, 7] [8] rfl rfl (by decide +kernel) (by decide +kernel) (va_runV (As := [.int (nI n), .int (nI k), .int ((Q 229 pp).toInt32)]) (rest := []) ⟨hx, hb, hml, hown, hts⟩ (k_X3_put l dC dI h cs H.size (va_up I 123 (nI s7)) L (va_up A 136 he7) Q (va_up G 0 g7) J n k ((Q 229 pp).toInt32) M s7 (by first | assumption | omega) (by first | assumption | omega) hM (by first | assumption | omega | exact hM1) (by first | assumption | omega | exact hM4) rfl (by first | assumption | omega | exact hst2)) (cwV 3 hts gX3_copy_X3_put rfl rfl rfl (by decide +kernel) ⟨Nat.le_of_ble_eq_true rfl, Nat.le_of_ble_eq_true rfl⟩) (xpV (wc := (wMix h cs (va_up I 123 (nI s7)) L (va_up A 136 he7) Q (va_up G 0 g7) J)) hP hD hK hN [0, 1, 2, 3, 4, 5, 6, 7] rfl (by decide) 0 (ci := 3) rfl rfl _) rfl rfl hl.1 rfl (lv_room (Nat.le_of_ble_eq_true rfl)) dX3_copy_35 ⟨Nat.zero_le _, Nat.zero_le _⟩) (fun u_3 H locs hw hP hD hS => ?_)
              obtain ⟨x123_5, f136_6, g0_7, hf_8, rfl⟩ := hw
              have hP : va_P (dC, dI) vwCl (wTk1 h cs (va_up I 123 x123_5) L (va_up A 136 f136_6) Q (va_up G 0 g0_7) J) H := xP_sub hP [1, 2, 3, 4, 5, 6, 7, 8, 0] rfl
              have hD : va_D A0 (wTk1 h cs (va_up I 123 x123_5) L (va_up A 136 f136_6) Q (va_up G 0 g0_7) J) := hD.sub [1, 2, 3, 4, 5, 6, 7, 8, 0] (by decide +kernel) rfl
              obtain ⟨rfl, hput_9⟩ := hf_8
              refine lv_iinc (v := nI (pp + 1)) (lv' := [(3, .int (nI (pp + 1))), (0, .ref (h 101)), (1, .ref (h 229)), (2, .int (nI f9)), (4, .int (nI n)), (5, .int (nI k))]) hx hb dX3_copy_38 hl (k := 3) rfl (nI_1 _) (by decide) rfl (fun ls hl => ?_)
              refine lv_iinc (v := nI (k + 1)) (lv' := [(5, .int (nI (k + 1))), (3, .int (nI (pp + 1))), (0, .ref (h 101)), (1, .ref (h 229)), (2, .int (nI f9)), (4, .int (nI n))]) hx hb dX3_copy_41 hl (k := 5) rfl (nI_1 _) (by decide) rfl (fun ls hl => ?_)
              refine lv_goto (tgt := 17) hx hb dX3_copy_44 (by decide) ?_
              exact ih_17 (k + 1) (pp + 1) (s7 + 1) f136_6 g0_7 (by omega) (by first | assumption | omega) (by first | assumption | omega) (by first | assumption | omega) (by first | assumption | omega) (by first | exact ht5 | exact cp_s hp17 (by omega) ht17 hput_9) _ _ _ hP hD hS (lv_sub hl [2, 3, 4, 1, 5, 0] rfl)
        exact cut_17 _ 0 p5 s5 he g (Nat.lt_succ_self _) (by first | assumption | omega) (by first | assumption | omega) (by first | assumption | omega) (by first | assumption | omega) (by first | exact ht5 | exact cp_s hp17 (by omega) ht17 hput_9) _ _ _ hP hD hS (lv_sub hl [1, 2, 3, 4, 5, 0] rfl)
  have hP : va_P (dC, dI) vwCl (wTk1 h cs (va_up I 123 (nI sp9)) L A Q G J) H := by rw [← hst]; exact hP
  have hD : va_D A0 (wTk1 h cs (va_up I 123 (nI sp9)) L A Q G J) := by rw [← hst]; exact hD
  exact cut_5 _ 0 f9 sp9 (A 136) (G 0) (Nat.lt_succ_self _) (by first | assumption | omega) (by first | (rw [Nat.zero_mul]; omega) | (rw [Nat.succ_mul]; omega) | omega) (by omega) (by first | assumption | omega) (by first | exact cp_0 | exact cp_r (by omega) ht17) _ _ _ hP hD hS (lv_sub hl [2, 3, 4, 1, 0] rfl)
set_option maxHeartbeats 4000000 in
set_option maxRecDepth 100000 in
theorem k_X3_copy2 (l : Launch) (dC : Nat → ClassId) (dI : Nat → Nat → Nat) (h : Nat → Nat) (cs : Nat → ClassId) (sz : Nat) (I : Nat → Int32) (L : Nat → Int64) (A : Nat → Nat → Int32) (Q : Nat → Nat → Int64) (G : Nat → Nat → Nat → Int32) (J : Nat → Nat → Nat → Int64) (f9 R M sp9 : Nat) (hf9 : f9 + R * (M + 1) ≤ 25) (hR : I 120 = nI R) (hR1 : 1 ≤ R) (hR5 : R ≤ 5) (hM : I 121 = nI M) (hM1 : 1 ≤ M) (hM4 : M ≤ 4) (hst : I 123 = nI sp9) (hst2 : sp9 < 999999000) : Met l yX3_copy wsX3_copy ({ frames := 1, cells := 0, slots := 0, locals := 23 }) (va_Pc [.ref (h 101), .ref (h 230), .int (nI f9)] (xPre (dC, dI) (wTk2 h cs I L A Q G J) (tysA cs) sz)) (va_Qv (fun (u : CS) => ∃ i123 : Int32, ∃ a136 : Nat → Int32, ∃ g0 : Nat → Nat → Int32, (cpI (Q 230) f9 M R 0 a136 g0 ∧ ∃ s2 : Nat, sp9 < s2 ∧ s2 ≤ sp9 + 25 ∧ i123 = nI s2) ∧ u = ((va_up I 123 i123), L, (va_up A 136 a136), Q, (va_up G 0 g0), J)) (xB (dC, dI) (tysA cs) (va_A (wTk2 h cs I L A Q G J) sz) (fun u : CS => wTk2 h cs u.1 u.2.1 u.2.2.1 u.2.2.2.1 u.2.2.2.2.1 u.2.2.2.2.2)) (va_A (wTk2 h cs I L A Q G J) sz)) 0 0 (va_A (wTk2 h cs I L A Q G J) sz) := by
  refine Met.ofW (cc := cX3_copy) (maxL := 6) (ret := none) (by decide) rfl ?_
  intro p e s m args below meth c s₁ B hml hv
  obtain ⟨rfl, hsz, hP, hK, hD0, hN⟩ := hv
  have hx := B.exec
  have hb := B.bytes
  have hr := B.returns
  have hts := atoms_spec (ws := wsX3_copy) B.pre
  have hown : s.vm.findClass RX3 = some m.cls := findClass_of_methodNamed B.named
  have hlocks := B.notSynchronized
  subst hsz
  have hD := hD0.self (sz := s.heap.size)
  generalize hAe : va_A (wTk2 h cs I L A Q G J) s.heap.size = A0 at hD ⊢
  have hA : ∀ q : Nat, s.heap.size ≤ q → A0 q := fun q h => by rw [← hAe]; exact Or.inr h
  have hl := lv_entry ([.ref (h 101), .ref (h 230), .int (nI f9)]) (n := 6) (Nat.le_of_ble_eq_true rfl)
  rw [lg_entry_eq]
  generalize (lg_sl ([.ref (h 101), .ref (h 230), .int (nI f9)]) ++ List.replicate (6 - (lg_sl ([.ref (h 101), .ref (h 230), .int (nI f9)])).length) Slot.unset).toArray = ls at hl ⊢
  have hl : lv_has ls 6 [(0, .ref (h 101)), (1, .ref (h 230)), (2, .int (nI f9))] := hl
  generalize hH : s.heap = H at hP ⊢
  have hS : va_S A0 s.heap H [] := by rw [← hH]; exact va_S.rf
  have hinX3 : ∀ w ∈ wsX30, w ∈ wsX3_copy := by decide +kernel
  refine lv_iload_n hx hb dX3_copy_0 rfl (lv_at hl 2 rfl) ?_
  refine lv_istore_n (lv' := [(3, .int (nI f9)), (0, .ref (h 101)), (1, .ref (h 230)), (2, .int (nI f9))]) hx hb dX3_copy_1 rfl hl (by decide) rfl (fun ls hl => ?_)
  refine lv_iconst (v := nI 0) hx hb dX3_copy_2 (by decide) ?_
  refine lv_istore (lv' := [(4, .int (nI 0)), (3, .int (nI f9)), (0, .ref (h 101)), (1, .ref (h 230)), (2, .int (nI f9))]) hx hb dX3_copy_3 hl (by decide) rfl (fun ls hl => ?_)
  have cut_5 : ∀ (nf : Nat) (n : Nat) (p5 : Nat) (s5 : Nat) (he : Nat → Int32) (g : Nat → Nat → Int32), (R - n) < nf → (n ≤ R) → (p5 = f9 + n * (M + 1)) → (p5 ≤ 25) → (s5 = sp9 + (p5 - f9)) → (cpI (Q 230) f9 M n 0 he g) → ∀ (H : Heap) (locs : List Loc) (ls : Array Slot), va_P (dC, dI) vwCl (wTk2 h cs (va_up I 123 (nI s5)) L (va_up A 136 he) Q (va_up G 0 g) J) H → va_D A0 (wTk2 h cs (va_up I 123 (nI s5)) L (va_up A 136 he) Q (va_up G 0 g) J) → va_S A0 s.heap H locs → lv_has ls 6 [(0, .ref (h 101)), (1, .ref (h 230)), (2, .int (nI f9)), (3, .int (nI p5)), (4, .int (nI n))] → W p l e (headSpec wsX3_copy ({ frames := 1, cells := 0, slots := 0, locals := 23 })).room s m ([.ref (h 101), .ref (h 230), .int (nI f9)] : List Value).toArray below meth c H locs 0 0 (MQ below (va_Qv (fun (u : CS) => ∃ i123 : Int32, ∃ a136 : Nat → Int32, ∃ g0 : Nat → Nat → Int32, (cpI (Q 230) f9 M R 0 a136 g0 ∧ ∃ s2 : Nat, sp9 < s2 ∧ s2 ≤ sp9 + 25 ∧ i123 = nI s2) ∧ u = ((va_up I 123 i123), L, (va_up A 136 a136), Q, (va_up G 0 g0), J)) (xB (dC, dI) (tysA cs) A0 (fun u : CS => wTk2 h cs u.1 u.2.1 u.2.2.1 u.2.2.2.1 u.2.2.2.2.1 u.2.2.2.2.2)) A0) ([.ref (h 101), .ref (h 230), .int (nI f9)] : List Value).toArray s 0 0 A0) (F0 m 5 ls []) := by
    intro nf
    induction nf with
    | zero => intro n p5 s5 he g hm; exact absurd hm (Nat.not_lt_zero _)
    | succ nf ih_5 =>
      intro n p5 s5 he g hm_5 hn5 hp5 hp5b hs5 ht5 H locs ls hP hD hS hl
      refine lv_iload hx hb dX3_copy_5 (lv_at hl 4 rfl) ?_
      refine lv_aload_n hx hb dX3_copy_7 rfl (lv_at hl 0 rfl) ?_
      refine va_get (D := (dC, dI)) (ci := 3) (v := .int (I 120)) (C := RX3) (T := TX3) (N := 6) hx hb hts hinX3 hown hK hP 0 rfl rfl 0 (by decide) (hts (.fieldLink RX3 9 "MixedWords$Mix" "height" "I") (by decide +kernel)) (fun _ h9 => h9) rfl dX3_copy_8 ?_
      refine xt_i (y := nI R) (hR) ?_
      refine xn_ge (tgt := 53) hx hb dX3_copy_11 (by decide) (by omega) (by omega) (fun c_11_0 => ?_) (fun c_11_0 => ?_)
      · skip
        exact xr_v hx hb hr hlocks hK hS dX3_copy_53 ((va_up I 123 (nI s5)), L, (va_up A 136 he), Q, (va_up G 0 g), J) ⟨(nI s5), he, g, ⟨by rw [show R = n by omega]; exact ht5, s5, by have q9 := Nat.mul_pos (show 0 < n by omega) (show 0 < M + 1 by omega); omega, by omega, by first | rfl | assumption⟩, rfl⟩ hP hD
      · skip
        have hnR := ix_lt (R := R) (M := M) (n := n) (k := 0) (by omega) (by omega)
        refine lv_iconst (v := nI 0) hx hb dX3_copy_14 (by decide) ?_
        refine lv_istore (lv' := [(5, .int (nI 0)), (0, .ref (h 101)), (1, .ref (h 230)), (2, .int (nI f9)), (3, .int (nI p5)), (4, .int (nI n))]) hx hb dX3_copy_15 hl (by decide) rfl (fun ls hl => ?_)
        have cut_17 : ∀ (nf : Nat) (k : Nat) (pp : Nat) (s7 : Nat) (he7 : Nat → Int32) (g7 : Nat → Nat → Int32), (M + 1 - k) < nf → (k ≤ M + 1) → (pp = f9 + (n * (M + 1) + k)) → (pp ≤ 25) → (s7 = sp9 + (pp - f9)) → (cpI (Q 230) f9 M n k he7 g7) → ∀ (H : Heap) (locs : List Loc) (ls : Array Slot), va_P (dC, dI) vwCl (wTk2 h cs (va_up I 123 (nI s7)) L (va_up A 136 he7) Q (va_up G 0 g7) J) H → va_D A0 (wTk2 h cs (va_up I 123 (nI s7)) L (va_up A 136 he7) Q (va_up G 0 g7) J) → va_S A0 s.heap H locs → lv_has ls 6 [(0, .ref (h 101)), (1, .ref (h 230)), (2, .int (nI f9)), (3, .int (nI pp)), (4, .int (nI n)), (5, .int (nI k))] → W p l e (headSpec wsX3_copy ({ frames := 1, cells := 0, slots := 0, locals := 23 })).room s m ([.ref (h 101), .ref (h 230), .int (nI f9)] : List Value).toArray below meth c H locs 0 0 (MQ below (va_Qv (fun (u : CS) => ∃ i123 : Int32, ∃ a136 : Nat → Int32, ∃ g0 : Nat → Nat → Int32, (cpI (Q 230) f9 M R 0 a136 g0 ∧ ∃ s2 : Nat, sp9 < s2 ∧ s2 ≤ sp9 + 25 ∧ i123 = nI s2) ∧ u = ((va_up I 123 i123), L, (va_up A 136 a136), Q, (va_up G 0 g0), J)) (xB (dC, dI) (tysA cs) A0 (fun u : CS => wTk2 h cs u.1 u.2.1 u.2.2.1 u.2.2.2.1 u.2.2.2.2.1 u.2.2.2.2.2)) A0) ([.ref (h 101), .ref (h 230), .int (nI f9)] : List Value).toArray s 0 0 A0) (F0 m 17 ls []) := by
          intro nf
          induction nf with
          | zero => intro k pp s7 he7 g7 hm; exact absurd hm (Nat.not_lt_zero _)
          | succ nf ih_17 =>
            intro k pp s7 he7 g7 hm_17 hk17 hp17 hp17b hs17 ht17 H locs ls hP hD hS hl
            refine lv_iload hx hb dX3_copy_17 (lv_at hl 5 rfl) ?_
            refine lv_aload_n hx hb dX3_copy_19 rfl (lv_at hl 0 rfl) ?_
            refine va_get (D := (dC, dI)) (ci := 3) (v := .int (I 121)) (C := RX3) (T := TX3) (N := 6) hx hb hts hinX3 hown hK hP 0 rfl rfl 1 (by decide) (hts (.fieldLink RX3 15 "MixedWords$Mix" "width" "I") (by decide +kernel)) (fun _ h9 => h9) rfl dX3_copy_20 ?_
            refine xt_i (y := nI M) (hM) ?_
            refine xn_gt (tgt := 47) hx hb dX3_copy_23 (by decide) (by omega) (by omega) (fun c_23_1 => ?_) (fun c_23_1 => ?_)
            · skip
              refine lv_iinc (v := nI (n + 1)) (lv' := [(4, .int (nI (n + 1))), (0, .ref (h 101)), (1, .ref (h 230)), (2, .int (nI f9)), (3, .int (nI pp)), (5, .int (nI k))]) hx hb dX3_copy_47 hl (k := 4) rfl (nI_1 _) (by decide) rfl (fun ls hl => ?_)
              refine lv_goto (tgt := 5) hx hb dX3_copy_50 (by decide) ?_
              exact ih_5 (n + 1) pp s7 he7 g7 (by omega) (by first | assumption | omega) (by first | (rw [Nat.zero_mul]; omega) | (rw [Nat.succ_mul]; omega) | omega) (by omega) (by first | assumption | omega) (by first | exact cp_0 | exact cp_r (by omega) ht17) _ _ _ hP hD hS (lv_sub hl [1, 2, 3, 4, 0] rfl)
            · skip
              have hix := ix_lt (R := R) (M := M) (n := n) (k := k) (by omega) (by omega)
              refine lv_aload_n hx hb dX3_copy_26 rfl (lv_at hl 0 rfl) ?_
              refine lv_iload hx hb dX3_copy_27 (lv_at hl 4 rfl) ?_
              refine lv_iload hx hb dX3_copy_29 (lv_at hl 5 rfl) ?_
              refine lv_aload_n hx hb dX3_copy_31 rfl (lv_at hl 1 rfl) ?_
              refine lv_iload_n hx hb dX3_copy_32 rfl (lv_at hl 3 rfl) ?_
              refine xa_lald hx hb hK hP 8 1 rfl rfl (by omega) (by decide) dX3_copy_33 ?_
              refine lv_l2i (v := (Q 230 pp).toInt32) hx hb dX3_copy_34 rfl ?_
              refine xj_v (wc := (wMix h cs (va_up I 123 (nI s7)) L (va_up A 136 he7) Q (va_up G 0 g7) J)) (wr := [(h 230, .inl (cs 1, 25, .inr (.inl (Q 230))))]) hP hD hS hA [0, 1, 2, 3, 4, 5, 6, 7] [8] rfl rfl (by decide +kernel) (by decide +kernel) (va_runV (As := [.int (nI n), .int (nI k), .int ((Q 230 pp).toInt32)]) (rest := []) ⟨hx, hb, hml, hown, hts⟩ (k_X3_put l dC dI h cs H.size (va_up I 123 (nI s7)) L (va_up A 136 he7) Q (va_up G 0 g7) J n k ((Q 230 pp).toInt32) M s7 (by first | assumption | omega) (by first | assumption | omega) hM (by first | assumption | omega | exact hM1) (by first | assumption | omega | exact hM4) rfl (by first | assumption | omega | exact hst2)) (cwV 3 hts gX3_copy_X3_put rfl rfl rfl (by decide +kernel) ⟨Nat.le_of_ble_eq_true rfl, Nat.le_of_ble_eq_true rfl⟩) (xpV (wc := (wMix h cs (va_up I 123 (nI s7)) L (va_up A 136 he7) Q (va_up G 0 g7) J)) hP hD hK hN [0, 1, 2, 3, 4, 5, 6, 7] rfl (by decide) 0 (ci := 3) rfl rfl _) rfl rfl hl.1 rfl (lv_room (Nat.le_of_ble_eq_true rfl)) dX3_copy_35 ⟨Nat.zero_le _, Nat.zero_le _⟩) (fun u_3 H locs hw hP hD hS => ?_)
              obtain ⟨x123_5, f136_6, g0_7, hf_8, rfl⟩ := hw
              have hP : va_P (dC, dI) vwCl (wTk2 h cs (va_up I 123 x123_5) L (va_up A 136 f136_6) Q (va_up G 0 g0_7) J) H := xP_sub hP [1, 2, 3, 4, 5, 6, 7, 8, 0] rfl
              have hD : va_D A0 (wTk2 h cs (va_up I 123 x123_5) L (va_up A 136 f136_6) Q (va_up G 0 g0_7) J) := hD.sub [1, 2, 3, 4, 5, 6, 7, 8, 0] (by decide +kernel) rfl
              obtain ⟨rfl, hput_9⟩ := hf_8
              refine lv_iinc (v := nI (pp + 1)) (lv' := [(3, .int (nI (pp + 1))), (0, .ref (h 101)), (1, .ref (h 230)), (2, .int (nI f9)), (4, .int (nI n)), (5, .int (nI k))]) hx hb dX3_copy_38 hl (k := 3) rfl (nI_1 _) (by decide) rfl (fun ls hl => ?_)
              refine lv_iinc (v := nI (k + 1)) (lv' := [(5, .int (nI (k + 1))), (3, .int (nI (pp + 1))), (0, .ref (h 101)), (1, .ref (h 230)), (2, .int (nI f9)), (4, .int (nI n))]) hx hb dX3_copy_41 hl (k := 5) rfl (nI_1 _) (by decide) rfl (fun ls hl => ?_)
              refine lv_goto (tgt := 17) hx hb dX3_copy_44 (by decide) ?_
              exact ih_17 (k + 1) (pp + 1) (s7 + 1) f136_6 g0_7 (by omega) (by first | assumption | omega) (by first | assumption | omega) (by first | assumption | omega) (by first | assumption | omega) (by first | exact ht5 | exact cp_s hp17 (by omega) ht17 hput_9) _ _ _ hP hD hS (lv_sub hl [2, 3, 4, 1, 5, 0] rfl)
        exact cut_17 _ 0 p5 s5 he g (Nat.lt_succ_self _) (by first | assumption | omega) (by first | assumption | omega) (by first | assumption | omega) (by first | assumption | omega) (by first | exact ht5 | exact cp_s hp17 (by omega) ht17 hput_9) _ _ _ hP hD hS (lv_sub hl [1, 2, 3, 4, 5, 0] rfl)
  have hP : va_P (dC, dI) vwCl (wTk2 h cs (va_up I 123 (nI sp9)) L A Q G J) H := by rw [← hst]; exact hP
  have hD : va_D A0 (wTk2 h cs (va_up I 123 (nI sp9)) L A Q G J) := by rw [← hst]; exact hD
  exact cut_5 _ 0 f9 sp9 (A 136) (G 0) (Nat.lt_succ_self _) (by first | assumption | omega) (by first | (rw [Nat.zero_mul]; omega) | (rw [Nat.succ_mul]; omega) | omega) (by omega) (by first | assumption | omega) (by first | exact cp_0 | exact cp_r (by omega) ht17) _ _ _ hP hD hS (lv_sub hl [2, 3, 4, 1, 0] rfl)
set_option maxHeartbeats 4000000 in
set_option maxRecDepth 100000 in
theorem k_X3_copy3 (l : Launch) (dC : Nat → ClassId) (dI : Nat → Nat → Nat) (h : Nat → Nat) (cs : Nat → ClassId) (sz : Nat) (I : Nat → Int32) (L : Nat → Int64) (A : Nat → Nat → Int32) (Q : Nat → Nat → Int64) (G : Nat → Nat → Nat → Int32) (J : Nat → Nat → Nat → Int64) (f9 R M sp9 : Nat) (hf9 : f9 + R * (M + 1) ≤ 25) (hR : I 120 = nI R) (hR1 : 1 ≤ R) (hR5 : R ≤ 5) (hM : I 121 = nI M) (hM1 : 1 ≤ M) (hM4 : M ≤ 4) (hst : I 123 = nI sp9) (hst2 : sp9 < 999999000) : Met l yX3_copy wsX3_copy ({ frames := 1, cells := 0, slots := 0, locals := 23 }) (va_Pc [.ref (h 101), .ref (h 231), .int (nI f9)] (xPre (dC, dI) (wTk3 h cs I L A Q G J) (tysA cs) sz)) (va_Qv (fun (u : CS) => ∃ i123 : Int32, ∃ a136 : Nat → Int32, ∃ g0 : Nat → Nat → Int32, (cpI (Q 231) f9 M R 0 a136 g0 ∧ ∃ s2 : Nat, sp9 < s2 ∧ s2 ≤ sp9 + 25 ∧ i123 = nI s2) ∧ u = ((va_up I 123 i123), L, (va_up A 136 a136), Q, (va_up G 0 g0), J)) (xB (dC, dI) (tysA cs) (va_A (wTk3 h cs I L A Q G J) sz) (fun u : CS => wTk3 h cs u.1 u.2.1 u.2.2.1 u.2.2.2.1 u.2.2.2.2.1 u.2.2.2.2.2)) (va_A (wTk3 h cs I L A Q G J) sz)) 0 0 (va_A (wTk3 h cs I L A Q G J) sz) := by
  refine Met.ofW (cc := cX3_copy) (maxL := 6) (ret := none) (by decide) rfl ?_
  intro p e s m args below meth c s₁ B hml hv
  obtain ⟨rfl, hsz, hP, hK, hD0, hN⟩ := hv
  have hx := B.exec
  have hb := B.bytes
  have hr := B.returns
  have hts := atoms_spec (ws := wsX3_copy) B.pre
  have hown : s.vm.findClass RX3 = some m.cls := findClass_of_methodNamed B.named
  have hlocks := B.notSynchronized
  subst hsz
  have hD := hD0.self (sz := s.heap.size)
  generalize hAe : va_A (wTk3 h cs I L A Q G J) s.heap.size = A0 at hD ⊢
  have hA : ∀ q : Nat, s.heap.size ≤ q → A0 q := fun q h => by rw [← hAe]; exact Or.inr h
  have hl := lv_entry ([.ref (h 101), .ref (h 231), .int (nI f9)]) (n := 6) (Nat.le_of_ble_eq_true rfl)
  rw [lg_entry_eq]
  generalize (lg_sl ([.ref (h 101), .ref (h 231), .int (nI f9)]) ++ List.replicate (6 - (lg_sl ([.ref (h 101), .ref (h 231), .int (nI f9)])).length) Slot.unset).toArray = ls at hl ⊢
  have hl : lv_has ls 6 [(0, .ref (h 101)), (1, .ref (h 231)), (2, .int (nI f9))] := hl
  generalize hH : s.heap = H at hP ⊢
  have hS : va_S A0 s.heap H [] := by rw [← hH]; exact va_S.rf
  have hinX3 : ∀ w ∈ wsX30, w ∈ wsX3_copy := by decide +kernel
  refine lv_iload_n hx hb dX3_copy_0 rfl (lv_at hl 2 rfl) ?_
  refine lv_istore_n (lv' := [(3, .int (nI f9)), (0, .ref (h 101)), (1, .ref (h 231)), (2, .int (nI f9))]) hx hb dX3_copy_1 rfl hl (by decide) rfl (fun ls hl => ?_)
  refine lv_iconst (v := nI 0) hx hb dX3_copy_2 (by decide) ?_
  refine lv_istore (lv' := [(4, .int (nI 0)), (3, .int (nI f9)), (0, .ref (h 101)), (1, .ref (h 231)), (2, .int (nI f9))]) hx hb dX3_copy_3 hl (by decide) rfl (fun ls hl => ?_)
  have cut_5 : ∀ (nf : Nat) (n : Nat) (p5 : Nat) (s5 : Nat) (he : Nat → Int32) (g : Nat → Nat → Int32), (R - n) < nf → (n ≤ R) → (p5 = f9 + n * (M + 1)) → (p5 ≤ 25) → (s5 = sp9 + (p5 - f9)) → (cpI (Q 231) f9 M n 0 he g) → ∀ (H : Heap) (locs : List Loc) (ls : Array Slot), va_P (dC, dI) vwCl (wTk3 h cs (va_up I 123 (nI s5)) L (va_up A 136 he) Q (va_up G 0 g) J) H → va_D A0 (wTk3 h cs (va_up I 123 (nI s5)) L (va_up A 136 he) Q (va_up G 0 g) J) → va_S A0 s.heap H locs → lv_has ls 6 [(0, .ref (h 101)), (1, .ref (h 231)), (2, .int (nI f9)), (3, .int (nI p5)), (4, .int (nI n))] → W p l e (headSpec wsX3_copy ({ frames := 1, cells := 0, slots := 0, locals := 23 })).room s m ([.ref (h 101), .ref (h 231), .int (nI f9)] : List Value).toArray below meth c H locs 0 0 (MQ below (va_Qv (fun (u : CS) => ∃ i123 : Int32, ∃ a136 : Nat → Int32, ∃ g0 : Nat → Nat → Int32, (cpI (Q 231) f9 M R 0 a136 g0 ∧ ∃ s2 : Nat, sp9 < s2 ∧ s2 ≤ sp9 + 25 ∧ i123 = nI s2) ∧ u = ((va_up I 123 i123), L, (va_up A 136 a136), Q, (va_up G 0 g0), J)) (xB (dC, dI) (tysA cs) A0 (fun u : CS => wTk3 h cs u.1 u.2.1 u.2.2.1 u.2.2.2.1 u.2.2.2.2.1 u.2.2.2.2.2)) A0) ([.ref (h 101), .ref (h 231), .int (nI f9)] : List Value).toArray s 0 0 A0) (F0 m 5 ls []) := by
    intro nf
    induction nf with
    | zero => intro n p5 s5 he g hm; exact absurd hm (Nat.not_lt_zero _)
    | succ nf ih_5 =>
      intro n p5 s5 he g hm_5 hn5 hp5 hp5b hs5 ht5 H locs ls hP hD hS hl
      refine lv_iload hx hb dX3_copy_5 (lv_at hl 4 rfl) ?_
      refine lv_aload_n hx hb dX3_copy_7 rfl (lv_at hl 0 rfl) ?_
      refine va_get (D := (dC, dI)) (ci := 3) (v := .int (I 120)) (C := RX3) (T := TX3) (N := 6) hx hb hts hinX3 hown hK hP 0 rfl rfl 0 (by decide) (hts (.fieldLink RX3 9 "MixedWords$Mix" "height" "I") (by decide +kernel)) (fun _ h9 => h9) rfl dX3_copy_8 ?_
      refine xt_i (y := nI R) (hR) ?_
      refine xn_ge (tgt := 53) hx hb dX3_copy_11 (by decide) (by omega) (by omega) (fun c_11_0 => ?_) (fun c_11_0 => ?_)
      · skip
        exact xr_v hx hb hr hlocks hK hS dX3_copy_53 ((va_up I 123 (nI s5)), L, (va_up A 136 he), Q, (va_up G 0 g), J) ⟨(nI s5), he, g, ⟨by rw [show R = n by omega]; exact ht5, s5, by have q9 := Nat.mul_pos (show 0 < n by omega) (show 0 < M + 1 by omega); omega, by omega, by first | rfl | assumption⟩, rfl⟩ hP hD
      · skip
        have hnR := ix_lt (R := R) (M := M) (n := n) (k := 0) (by omega) (by omega)
        refine lv_iconst (v := nI 0) hx hb dX3_copy_14 (by decide) ?_
        refine lv_istore (lv' := [(5, .int (nI 0)), (0, .ref (h 101)), (1, .ref (h 231)), (2, .int (nI f9)), (3, .int (nI p5)), (4, .int (nI n))]) hx hb dX3_copy_15 hl (by decide) rfl (fun ls hl => ?_)
        have cut_17 : ∀ (nf : Nat) (k : Nat) (pp : Nat) (s7 : Nat) (he7 : Nat → Int32) (g7 : Nat → Nat → Int32), (M + 1 - k) < nf → (k ≤ M + 1) → (pp = f9 + (n * (M + 1) + k)) → (pp ≤ 25) → (s7 = sp9 + (pp - f9)) → (cpI (Q 231) f9 M n k he7 g7) → ∀ (H : Heap) (locs : List Loc) (ls : Array Slot), va_P (dC, dI) vwCl (wTk3 h cs (va_up I 123 (nI s7)) L (va_up A 136 he7) Q (va_up G 0 g7) J) H → va_D A0 (wTk3 h cs (va_up I 123 (nI s7)) L (va_up A 136 he7) Q (va_up G 0 g7) J) → va_S A0 s.heap H locs → lv_has ls 6 [(0, .ref (h 101)), (1, .ref (h 231)), (2, .int (nI f9)), (3, .int (nI pp)), (4, .int (nI n)), (5, .int (nI k))] → W p l e (headSpec wsX3_copy ({ frames := 1, cells := 0, slots := 0, locals := 23 })).room s m ([.ref (h 101), .ref (h 231), .int (nI f9)] : List Value).toArray below meth c H locs 0 0 (MQ below (va_Qv (fun (u : CS) => ∃ i123 : Int32, ∃ a136 : Nat → Int32, ∃ g0 : Nat → Nat → Int32, (cpI (Q 231) f9 M R 0 a136 g0 ∧ ∃ s2 : Nat, sp9 < s2 ∧ s2 ≤ sp9 + 25 ∧ i123 = nI s2) ∧ u = ((va_up I 123 i123), L, (va_up A 136 a136), Q, (va_up G 0 g0), J)) (xB (dC, dI) (tysA cs) A0 (fun u : CS => wTk3 h cs u.1 u.2.1 u.2.2.1 u.2.2.2.1 u.2.2.2.2.1 u.2.2.2.2.2)) A0) ([.ref (h 101), .ref (h 231), .int (nI f9)] : List Value).toArray s 0 0 A0) (F0 m 17 ls []) := by
          intro nf
          induction nf with
          | zero => intro k pp s7 he7 g7 hm; exact absurd hm (Nat.not_lt_zero _)
          | succ nf ih_17 =>
            intro k pp s7 he7 g7 hm_17 hk17 hp17 hp17b hs17 ht17 H locs ls hP hD hS hl
            refine lv_iload hx hb dX3_copy_17 (lv_at hl 5 rfl) ?_
            refine lv_aload_n hx hb dX3_copy_19 rfl (lv_at hl 0 rfl) ?_
            refine va_get (D := (dC, dI)) (ci := 3) (v := .int (I 121)) (C := RX3) (T := TX3) (N := 6) hx hb hts hinX3 hown hK hP 0 rfl rfl 1 (by decide) (hts (.fieldLink RX3 15 "MixedWords$Mix" "width" "I") (by decide +kernel)) (fun _ h9 => h9) rfl dX3_copy_20 ?_
            refine xt_i (y := nI M) (hM) ?_
            refine xn_gt (tgt := 47) hx hb dX3_copy_23 (by decide) (by omega) (by omega) (fun c_23_1 => ?_) (fun c_23_1 => ?_)
            · skip
              refine lv_iinc (v := nI (n + 1)) (lv' := [(4, .int (nI (n + 1))), (0, .ref (h 101)), (1, .ref (h 231)), (2, .int (nI f9)), (3, .int (nI pp)), (5, .int (nI k))]) hx hb dX3_copy_47 hl (k := 4) rfl (nI_1 _) (by decide) rfl (fun ls hl => ?_)
              refine lv_goto (tgt := 5) hx hb dX3_copy_50 (by decide) ?_
              exact ih_5 (n + 1) pp s7 he7 g7 (by omega) (by first | assumption | omega) (by first | (rw [Nat.zero_mul]; omega) | (rw [Nat.succ_mul]; omega) | omega) (by omega) (by first | assumption | omega) (by first | exact cp_0 | exact cp_r (by omega) ht17) _ _ _ hP hD hS (lv_sub hl [1, 2, 3, 4, 0] rfl)
            · skip
              have hix := ix_lt (R := R) (M := M) (n := n) (k := k) (by omega) (by omega)
              refine lv_aload_n hx hb dX3_copy_26 rfl (lv_at hl 0 rfl) ?_
              refine lv_iload hx hb dX3_copy_27 (lv_at hl 4 rfl) ?_
              refine lv_iload hx hb dX3_copy_29 (lv_at hl 5 rfl) ?_
              refine lv_aload_n hx hb dX3_copy_31 rfl (lv_at hl 1 rfl) ?_
              refine lv_iload_n hx hb dX3_copy_32 rfl (lv_at hl 3 rfl) ?_
              refine xa_lald hx hb hK hP 8 1 rfl rfl (by omega) (by decide) dX3_copy_33 ?_
              refine lv_l2i (v := (Q 231 pp).toInt32) hx hb dX3_copy_34 rfl ?_
              refine xj_v (wc := (wMix h cs (va_up I 123 (nI s7)) L (va_up A 136 he7) Q (va_up G 0 g7) J)) (wr := [(h 231, .inl (cs 1, 25, .inr (.inl (Q 231))))]) hP hD hS hA [0, 1, 2, 3, 4, 5, 6, 7] [8] rfl rfl (by decide +kernel) (by decide +kernel) (va_runV (As := [.int (nI n), .int (nI k), .int ((Q 231 pp).toInt32)]) (rest := []) ⟨hx, hb, hml, hown, hts⟩ (k_X3_put l dC dI h cs H.size (va_up I 123 (nI s7)) L (va_up A 136 he7) Q (va_up G 0 g7) J n k ((Q 231 pp).toInt32) M s7 (by first | assumption | omega) (by first | assumption | omega) hM (by first | assumption | omega | exact hM1) (by first | assumption | omega | exact hM4) rfl (by first | assumption | omega | exact hst2)) (cwV 3 hts gX3_copy_X3_put rfl rfl rfl (by decide +kernel) ⟨Nat.le_of_ble_eq_true rfl, Nat.le_of_ble_eq_true rfl⟩) (xpV (wc := (wMix h cs (va_up I 123 (nI s7)) L (va_up A 136 he7) Q (va_up G 0 g7) J)) hP hD hK hN [0, 1, 2, 3, 4, 5, 6, 7] rfl (by decide) 0 (ci := 3) rfl rfl _) rfl rfl hl.1 rfl (lv_room (Nat.le_of_ble_eq_true rfl)) dX3_copy_35 ⟨Nat.zero_le _, Nat.zero_le _⟩) (fun u_3 H locs hw hP hD hS => ?_)
              obtain ⟨x123_5, f136_6, g0_7, hf_8, rfl⟩ := hw
              have hP : va_P (dC, dI) vwCl (wTk3 h cs (va_up I 123 x123_5) L (va_up A 136 f136_6) Q (va_up G 0 g0_7) J) H := xP_sub hP [1, 2, 3, 4, 5, 6, 7, 8, 0] rfl
              have hD : va_D A0 (wTk3 h cs (va_up I 123 x123_5) L (va_up A 136 f136_6) Q (va_up G 0 g0_7) J) := hD.sub [1, 2, 3, 4, 5, 6, 7, 8, 0] (by decide +kernel) rfl
              obtain ⟨rfl, hput_9⟩ := hf_8
              refine lv_iinc (v := nI (pp + 1)) (lv' := [(3, .int (nI (pp + 1))), (0, .ref (h 101)), (1, .ref (h 231)), (2, .int (nI f9)), (4, .int (nI n)), (5, .int (nI k))]) hx hb dX3_copy_38 hl (k := 3) rfl (nI_1 _) (by decide) rfl (fun ls hl => ?_)
              refine lv_iinc (v := nI (k + 1)) (lv' := [(5, .int (nI (k + 1))), (3, .int (nI (pp + 1))), (0, .ref (h 101)), (1, .ref (h 231)), (2, .int (nI f9)), (4, .int (nI n))]) hx hb dX3_copy_41 hl (k := 5) rfl (nI_1 _) (by decide) rfl (fun ls hl => ?_)
              refine lv_goto (tgt := 17) hx hb dX3_copy_44 (by decide) ?_
              exact ih_17 (k + 1) (pp + 1) (s7 + 1) f136_6 g0_7 (by omega) (by first | assumption | omega) (by first | assumption | omega) (by first | assumption | omega) (by first | assumption | omega) (by first | exact ht5 | exact cp_s hp17 (by omega) ht17 hput_9) _ _ _ hP hD hS (lv_sub hl [2, 3, 4, 1, 5, 0] rfl)
        exact cut_17 _ 0 p5 s5 he g (Nat.lt_succ_self _) (by first | assumption | omega) (by first | assumption | omega) (by first | assumption | omega) (by first | assumption | omega) (by first | exact ht5 | exact cp_s hp17 (by omega) ht17 hput_9) _ _ _ hP hD hS (lv_sub hl [1, 2, 3, 4, 5, 0] rfl)
  have hP : va_P (dC, dI) vwCl (wTk3 h cs (va_up I 123 (nI sp9)) L A Q G J) H := by rw [← hst]; exact hP
  have hD : va_D A0 (wTk3 h cs (va_up I 123 (nI sp9)) L A Q G J) := by rw [← hst]; exact hD
  exact cut_5 _ 0 f9 sp9 (A 136) (G 0) (Nat.lt_succ_self _) (by first | assumption | omega) (by first | (rw [Nat.zero_mul]; omega) | (rw [Nat.succ_mul]; omega) | omega) (by omega) (by first | assumption | omega) (by first | exact cp_0 | exact cp_r (by omega) ht17) _ _ _ hP hD hS (lv_sub hl [2, 3, 4, 1, 0] rfl)
