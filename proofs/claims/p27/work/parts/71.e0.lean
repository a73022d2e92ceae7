def wRead (h : Nat → Nat) (cs : Nat → ClassId) (I : Nat → Int32) (L : Nat → Int64) (A : Nat → Nat → Int32) (Q : Nat → Nat → Int64) (G : Nat → Nat → Nat → Int32) (J : Nat → Nat → Nat → Int64) : va_W := [(h 104, .inr (4, [.ref (h 103), .ref (h 160), .int (I 166), .int (I 167), .int (I 168), .int (I 169)])), (h 160, .inl (cs 3, 5, .inr (.inr (.inr (.inr (fun i => if i < 5 then some (h (i + 161)) else none)))))), (h 161, .inl (cs 0, 4, .inl ((G 1) 0))), (h 162, .inl (cs 0, 4, .inl ((G 1) 1))), (h 163, .inl (cs 0, 4, .inl ((G 1) 2))), (h 164, .inl (cs 0, 4, .inl ((G 1) 3))), (h 165, .inl (cs 0, 4, .inl ((G 1) 4))), (h 103, .inr (7, [.ref (h 150), .int (I 151)])), (h 150, .inl (cs 2, 90, .inl (A 150)))]
theorem wRead_atG1 {h : Nat → Nat} {cs : Nat → ClassId} {I : Nat → Int32} {L : Nat → Int64} {A : Nat → Nat → Int32} {Q : Nat → Nat → Int64} {G : Nat → Nat → Nat → Int32} {J : Nat → Nat → Nat → Int64} {k : Nat} (hk : k < 5) : (wRead h cs I L A Q G J)[2 + k]? = some (h (k + 161), .inl (cs 0, 4, .inl (G 1 k))) := by
  rcases (show k = 0 ∨ k = 1 ∨ k = 2 ∨ k = 3 ∨ k = 4 by omega) with rfl | rfl | rfl | rfl | rfl <;> rfl
theorem wRead_setG1 {h : Nat → Nat} {cs : Nat → ClassId} {I : Nat → Int32} {L : Nat → Int64} {A : Nat → Nat → Int32} {Q : Nat → Nat → Int64} {G : Nat → Nat → Nat → Int32} {J : Nat → Nat → Nat → Int64} {k : Nat} {f : Nat → Int32} (hk : k < 5) : (wRead h cs I L A Q G J).set (2 + k) (h (k + 161), .inl (cs 0, 4, .inl (f))) = wRead h cs I L A Q (va_up G 1 (va_up (G 1) k f)) J := by
  rcases (show k = 0 ∨ k = 1 ∨ k = 2 ∨ k = 3 ∨ k = 4 by omega) with rfl | rfl | rfl | rfl | rfl <;> rfl
theorem eq45 {r : Int32} {k : Nat} (h : r = nI k) (hk : k < 256) : ¬ r = -1 := fun e => by
  rw [h] at e
  have := congrArg Int32.toInt e
  rw [nI_toInt (by omega)] at this
  have e1 : (-1 : Int32).toInt = -1 := by decide
  rw [e1] at this
  omega
theorem fault_ne0 {q : Nat} (h : q ≤ 90) : ¬ (-20 : Int32) - nI q = nI 0 := fun e => by
  have h1 := congrArg Int32.toInt e
  rw [Int32.toInt_sub, nI_toInt (by omega), nI_toInt (by omega), show (-20 : Int32).toInt = -20 by decide, Int.bmod_eq_of_le (by omega) (by omega)] at h1
  omega
theorem digV_rng {t : Nat → Int32} {b : Nat} : ∀ k : Nat, (∀ u : Nat, b ≤ u → u < b + k → IsDig (t u)) → 0 ≤ (digV t b k).toInt ∧ (digV t b k).toInt ≤ 99
  | 0, _ => by
    rw [digV]
    decide
  | k + 1, h => by
    have ih := digV_rng k (fun u h1 h2 => h u h1 (by omega))
    have hd : IsDig (t (b + k)) := h (b + k) (by omega) (by omega)
    unfold IsDig at hd
    have z9 : (nI 9).toInt = 9 := by decide
    have z10 : (nI 10).toInt = 10 := by decide
    have z48 : (nI 48).toInt = 48 := by decide
    rw [digV]
    split
    · rename_i g
      rw [Int32.le_iff_toInt_le, z9] at g
      have m1 := (mul32 (x := nI 10) (y := digV t b k) (a := 10) (b := 99) (by rw [z10]; decide) (by omega) (by decide)).1
      rw [z10] at m1
      have a1 := add32 (x := nI 10 * digV t b k) (y := t (b + k)) (by omega)
      have a2 := sub32 (x := nI 10 * digV t b k + t (b + k)) (y := nI 48) (by omega)
      omega
    · exact ih
