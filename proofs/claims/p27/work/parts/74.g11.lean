def wSq (h : Nat → Nat) (cs : Nat → ClassId) (I : Nat → Int32) (L : Nat → Int64) (A : Nat → Nat → Int32) (Q : Nat → Nat → Int64) (G : Nat → Nat → Nat → Int32) (J : Nat → Nat → Nat → Int64) : va_W := [(h 180, .inl (cs 4, 4, .inr (.inr (.inr (.inr (fun i => if i < 4 then some (h (i + 181)) else none)))))), (h 181, .inl (cs 1, 4, .inr (.inl ((J 0) 0)))), (h 182, .inl (cs 1, 4, .inr (.inl ((J 0) 1)))), (h 183, .inl (cs 1, 4, .inr (.inl ((J 0) 2)))), (h 184, .inl (cs 1, 4, .inr (.inl ((J 0) 3))))]
theorem wSq_atJ0 {h : Nat → Nat} {cs : Nat → ClassId} {I : Nat → Int32} {L : Nat → Int64} {A : Nat → Nat → Int32} {Q : Nat → Nat → Int64} {G : Nat → Nat → Nat → Int32} {J : Nat → Nat → Nat → Int64} {k : Nat} (hk : k < 4) : (wSq h cs I L A Q G J)[1 + k]? = some (h (k + 181), .inl (cs 1, 4, .inr (.inl (J 0 k)))) := by
  rcases (show k = 0 ∨ k = 1 ∨ k = 2 ∨ k = 3 by omega) with rfl | rfl | rfl | rfl <;> rfl
theorem wSq_setJ0 {h : Nat → Nat} {cs : Nat → ClassId} {I : Nat → Int32} {L : Nat → Int64} {A : Nat → Nat → Int32} {Q : Nat → Nat → Int64} {G : Nat → Nat → Nat → Int32} {J : Nat → Nat → Nat → Int64} {k : Nat} {f : Nat → Int64} (hk : k < 4) : (wSq h cs I L A Q G J).set (1 + k) (h (k + 181), .inl (cs 1, 4, .inr (.inl (f)))) = wSq h cs I L A Q G (va_up J 0 (va_up (J 0) k f)) := by
  rcases (show k = 0 ∨ k = 1 ∨ k = 2 ∨ k = 3 by omega) with rfl | rfl | rfl | rfl <;> rfl
def wLs (h : Nat → Nat) (cs : Nat → ClassId) (I : Nat → Int32) (L : Nat → Int64) (A : Nat → Nat → Int32) (Q : Nat → Nat → Int64) (G : Nat → Nat → Nat → Int32) (J : Nat → Nat → Nat → Int64) : va_W := [(h 106, .inr (2, [.ref (h 180), .ref (h 185), .ref (h 186), .ref (h 187), .long (L 188)])), (h 180, .inl (cs 4, 4, .inr (.inr (.inr (.inr (fun i => if i < 4 then some (h (i + 181)) else none)))))), (h 181, .inl (cs 1, 4, .inr (.inl ((J 0) 0)))), (h 182, .inl (cs 1, 4, .inr (.inl ((J 0) 1)))), (h 183, .inl (cs 1, 4, .inr (.inl ((J 0) 2)))), (h 184, .inl (cs 1, 4, .inr (.inl ((J 0) 3)))), (h 185, .inl (cs 1, 4, .inr (.inl (Q 185)))), (h 186, .inl (cs 0, 4, .inl (A 186))), (h 187, .inl (cs 1, 4, .inr (.inl (Q 187))))]
theorem wLs_atJ0 {h : Nat → Nat} {cs : Nat → ClassId} {I : Nat → Int32} {L : Nat → Int64} {A : Nat → Nat → Int32} {Q : Nat → Nat → Int64} {G : Nat → Nat → Nat → Int32} {J : Nat → Nat → Nat → Int64} {k : Nat} (hk : k < 4) : (wLs h cs I L A Q G J)[2 + k]? = some (h (k + 181), .inl (cs 1, 4, .inr (.inl (J 0 k)))) := by
  rcases (show k = 0 ∨ k = 1 ∨ k = 2 ∨ k = 3 by omega) with rfl | rfl | rfl | rfl <;> rfl
theorem wLs_setJ0 {h : Nat → Nat} {cs : Nat → ClassId} {I : Nat → Int32} {L : Nat → Int64} {A : Nat → Nat → Int32} {Q : Nat → Nat → Int64} {G : Nat → Nat → Nat → Int32} {J : Nat → Nat → Nat → Int64} {k : Nat} {f : Nat → Int64} (hk : k < 4) : (wLs h cs I L A Q G J).set (2 + k) (h (k + 181), .inl (cs 1, 4, .inr (.inl (f)))) = wLs h cs I L A Q G (va_up J 0 (va_up (J 0) k f)) := by
  rcases (show k = 0 ∨ k = 1 ∨ k = 2 ∨ k = 3 by omega) with rfl | rfl | rfl | rfl <;> rfl
def wLm (h : Nat → Nat) (cs : Nat → ClassId) (I : Nat → Int32) (L : Nat → Int64) (A : Nat → Nat → Int32) (Q : Nat → Nat → Int64) (G : Nat → Nat → Nat → Int32) (J : Nat → Nat → Nat → Int64) : va_W := [(h 106, .inr (2, [.ref (h 180), .ref (h 185), .ref (h 186), .ref (h 187), .long (L 188)])), (h 180, .inl (cs 4, 4, .inr (.inr (.inr (.inr (fun i => if i < 4 then some (h (i + 181)) else none)))))), (h 181, .inl (cs 1, 4, .inr (.inl ((J 0) 0)))), (h 182, .inl (cs 1, 4, .inr (.inl ((J 0) 1)))), (h 183, .inl (cs 1, 4, .inr (.inl ((J 0) 2)))), (h 184, .inl (cs 1, 4, .inr (.inl ((J 0) 3)))), (h 185, .inl (cs 1, 4, .inr (.inl (Q 185)))), (h 186, .inl (cs 0, 4, .inl (A 186))), (h 187, .inl (cs 1, 4, .inr (.inl (Q 187)))), (h 101, .inr (3, [.int (I 120), .int (I 121), .int (I 122), .int (I 123), .ref (h 130), .ref (h 136)])), (h 130, .inl (cs 3, 5, .inr (.inr (.inr (.inr (fun i => if i < 5 then some (h (i + 131)) else none)))))), (h 131, .inl (cs 0, 4, .inl ((G 0) 0))), (h 132, .inl (cs 0, 4, .inl ((G 0) 1))), (h 133, .inl (cs 0, 4, .inl ((G 0) 2))), (h 134, .inl (cs 0, 4, .inl ((G 0) 3))), (h 135, .inl (cs 0, 4, .inl ((G 0) 4))), (h 136, .inl (cs 0, 5, .inl (A 136)))]
theorem wLm_atJ0 {h : Nat → Nat} {cs : Nat → ClassId} {I : Nat → Int32} {L : Nat → Int64} {A : Nat → Nat → Int32} {Q : Nat → Nat → Int64} {G : Nat → Nat → Nat → Int32} {J : Nat → Nat → Nat → Int64} {k : Nat} (hk : k < 4) : (wLm h cs I L A Q G J)[2 + k]? = some (h (k + 181), .inl (cs 1, 4, .inr (.inl (J 0 k)))) := by
  rcases (show k = 0 ∨ k = 1 ∨ k = 2 ∨ k = 3 by omega) with rfl | rfl | rfl | rfl <;> rfl
theorem wLm_setJ0 {h : Nat → Nat} {cs : Nat → ClassId} {I : Nat → Int32} {L : Nat → Int64} {A : Nat → Nat → Int32} {Q : Nat → Nat → Int64} {G : Nat → Nat → Nat → Int32} {J : Nat → Nat → Nat → Int64} {k : Nat} {f : Nat → Int64} (hk : k < 4) : (wLm h cs I L A Q G J).set (2 + k) (h (k + 181), .inl (cs 1, 4, .inr (.inl (f)))) = wLm h cs I L A Q G (va_up J 0 (va_up (J 0) k f)) := by
  rcases (show k = 0 ∨ k = 1 ∨ k = 2 ∨ k = 3 by omega) with rfl | rfl | rfl | rfl <;> rfl
theorem wLm_atG0 {h : Nat → Nat} {cs : Nat → ClassId} {I : Nat → Int32} {L : Nat → Int64} {A : Nat → Nat → Int32} {Q : Nat → Nat → Int64} {G : Nat → Nat → Nat → Int32} {J : Nat → Nat → Nat → Int64} {k : Nat} (hk : k < 5) : (wLm h cs I L A Q G J)[11 + k]? = some (h (k + 131), .inl (cs 0, 4, .inl (G 0 k))) := by
  rcases (show k = 0 ∨ k = 1 ∨ k = 2 ∨ k = 3 ∨ k = 4 by omega) with rfl | rfl | rfl | rfl | rfl <;> rfl
theorem wLm_setG0 {h : Nat → Nat} {cs : Nat → ClassId} {I : Nat → Int32} {L : Nat → Int64} {A : Nat → Nat → Int32} {Q : Nat → Nat → Int64} {G : Nat → Nat → Nat → Int32} {J : Nat → Nat → Nat → Int64} {k : Nat} {f : Nat → Int32} (hk : k < 5) : (wLm h cs I L A Q G J).set (11 + k) (h (k + 131), .inl (cs 0, 4, .inl (f))) = wLm h cs I L A Q (va_up G 0 (va_up (G 0) k f)) J := by
  rcases (show k = 0 ∨ k = 1 ∨ k = 2 ∨ k = 3 ∨ k = 4 by omega) with rfl | rfl | rfl | rfl | rfl <;> rfl
def wSv (h : Nat → Nat) (cs : Nat → ClassId) (I : Nat → Int32) (L : Nat → Int64) (A : Nat → Nat → Int32) (Q : Nat → Nat → Int64) (G : Nat → Nat → Nat → Int32) (J : Nat → Nat → Nat → Int64) : va_W := [(h 106, .inr (2, [.ref (h 180), .ref (h 185), .ref (h 186), .ref (h 187), .long (L 188)])), (h 180, .inl (cs 4, 4, .inr (.inr (.inr (.inr (fun i => if i < 4 then some (h (i + 181)) else none)))))), (h 181, .inl (cs 1, 4, .inr (.inl ((J 0) 0)))), (h 182, .inl (cs 1, 4, .inr (.inl ((J 0) 1)))), (h 183, .inl (cs 1, 4, .inr (.inl ((J 0) 2)))), (h 184, .inl (cs 1, 4, .inr (.inl ((J 0) 3)))), (h 185, .inl (cs 1, 4, .inr (.inl (Q 185)))), (h 186, .inl (cs 0, 4, .inl (A 186))), (h 187, .inl (cs 1, 4, .inr (.inl (Q 187)))), (h 130, .inl (cs 3, 5, .inr (.inr (.inr (.inr (fun i => if i < 5 then some (h (i + 131)) else none)))))), (h 131, .inl (cs 0, 4, .inl ((G 0) 0))), (h 132, .inl (cs 0, 4, .inl ((G 0) 1))), (h 133, .inl (cs 0, 4, .inl ((G 0) 2))), (h 134, .inl (cs 0, 4, .inl ((G 0) 3))), (h 135, .inl (cs 0, 4, .inl ((G 0) 4))), (h 136, .inl (cs 0, 5, .inl (A 136)))]
theorem wSv_atJ0 {h : Nat → Nat} {cs : Nat → ClassId} {I : Nat → Int32} {L : Nat → Int64} {A : Nat → Nat → Int32} {Q : Nat → Nat → Int64} {G : Nat → Nat → Nat → Int32} {J : Nat → Nat → Nat → Int64} {k : Nat} (hk : k < 4) : (wSv h cs I L A Q G J)[2 + k]? = some (h (k + 181), .inl (cs 1, 4, .inr (.inl (J 0 k)))) := by
  rcases (show k = 0 ∨ k = 1 ∨ k = 2 ∨ k = 3 by omega) with rfl | rfl | rfl | rfl <;> rfl
theorem wSv_setJ0 {h : Nat → Nat} {cs : Nat → ClassId} {I : Nat → Int32} {L : Nat → Int64} {A : Nat → Nat → Int32} {Q : Nat → Nat → Int64} {G : Nat → Nat → Nat → Int32} {J : Nat → Nat → Nat → Int64} {k : Nat} {f : Nat → Int64} (hk : k < 4) : (wSv h cs I L A Q G J).set (2 + k) (h (k + 181), .inl (cs 1, 4, .inr (.inl (f)))) = wSv h cs I L A Q G (va_up J 0 (va_up (J 0) k f)) := by
  rcases (show k = 0 ∨ k = 1 ∨ k = 2 ∨ k = 3 by omega) with rfl | rfl | rfl | rfl <;> rfl
theorem wSv_atG0 {h : Nat → Nat} {cs : Nat → ClassId} {I : Nat → Int32} {L : Nat → Int64} {A : Nat → Nat → Int32} {Q : Nat → Nat → Int64} {G : Nat → Nat → Nat → Int32} {J : Nat → Nat → Nat → Int64} {k : Nat} (hk : k < 5) : (wSv h cs I L A Q G J)[10 + k]? = some (h (k + 131), .inl (cs 0, 4, .inl (G 0 k))) := by
  rcases (show k = 0 ∨ k = 1 ∨ k = 2 ∨ k = 3 ∨ k = 4 by omega) with rfl | rfl | rfl | rfl | rfl <;> rfl
theorem wSv_setG0 {h : Nat → Nat} {cs : Nat → ClassId} {I : Nat → Int32} {L : Nat → Int64} {A : Nat → Nat → Int32} {Q : Nat → Nat → Int64} {G : Nat → Nat → Nat → Int32} {J : Nat → Nat → Nat → Int64} {k : Nat} {f : Nat → Int32} (hk : k < 5) : (wSv h cs I L A Q G J).set (10 + k) (h (k + 131), .inl (cs 0, 4, .inl (f))) = wSv h cs I L A Q (va_up G 0 (va_up (G 0) k f)) J := by
  rcases (show k = 0 ∨ k = 1 ∨ k = 2 ∨ k = 3 ∨ k = 4 by omega) with rfl | rfl | rfl | rfl | rfl <;> rfl
def wSl (h : Nat → Nat) (cs : Nat → ClassId) (I : Nat → Int32) (L : Nat → Int64) (A : Nat → Nat → Int32) (Q : Nat → Nat → Int64) (G : Nat → Nat → Nat → Int32) (J : Nat → Nat → Nat → Int64) : va_W := [(h 106, .inr (2, [.ref (h 180), .ref (h 185), .ref (h 186), .ref (h 187), .long (L 188)])), (h 180, .inl (cs 4, 4, .inr (.inr (.inr (.inr (fun i => if i < 4 then some (h (i + 181)) else none)))))), (h 181, .inl (cs 1, 4, .inr (.inl ((J 0) 0)))), (h 182, .inl (cs 1, 4, .inr (.inl ((J 0) 1)))), (h 183, .inl (cs 1, 4, .inr (.inl ((J 0) 2)))), (h 184, .inl (cs 1, 4, .inr (.inl ((J 0) 3)))), (h 185, .inl (cs 1, 4, .inr (.inl (Q 185)))), (h 186, .inl (cs 0, 4, .inl (A 186))), (h 187, .inl (cs 1, 4, .inr (.inl (Q 187)))), (h 200, .inl (cs 3, 5, .inr (.inr (.inr (.inr (fun i => if i < 5 then some (h (i + 201)) else none)))))), (h 201, .inl (cs 0, 4, .inl ((G 2) 0))), (h 202, .inl (cs 0, 4, .inl ((G 2) 1))), (h 203, .inl (cs 0, 4, .inl ((G 2) 2))), (h 204, .inl (cs 0, 4, .inl ((G 2) 3))), (h 205, .inl (cs 0, 4, .inl ((G 2) 4))), (h 211, .inl (cs 0, 5, .inl (A 211)))]
theorem wSl_atJ0 {h : Nat → Nat} {cs : Nat → ClassId} {I : Nat → Int32} {L : Nat → Int64} {A : Nat → Nat → Int32} {Q : Nat → Nat → Int64} {G : Nat → Nat → Nat → Int32} {J : Nat → Nat → Nat → Int64} {k : Nat} (hk : k < 4) : (wSl h cs I L A Q G J)[2 + k]? = some (h (k + 181), .inl (cs 1, 4, .inr (.inl (J 0 k)))) := by
  rcases (show k = 0 ∨ k = 1 ∨ k = 2 ∨ k = 3 by omega) with rfl | rfl | rfl | rfl <;> rfl
theorem wSl_setJ0 {h : Nat → Nat} {cs : Nat → ClassId} {I : Nat → Int32} {L : Nat → Int64} {A : Nat → Nat → Int32} {Q : Nat → Nat → Int64} {G : Nat → Nat → Nat → Int32} {J : Nat → Nat → Nat → Int64} {k : Nat} {f : Nat → Int64} (hk : k < 4) : (wSl h cs I L A Q G J).set (2 + k) (h (k + 181), .inl (cs 1, 4, .inr (.inl (f)))) = wSl h cs I L A Q G (va_up J 0 (va_up (J 0) k f)) := by
  rcases (show k = 0 ∨ k = 1 ∨ k = 2 ∨ k = 3 by omega) with rfl | rfl | rfl | rfl <;> rfl
theorem wSl_atG2 {h : Nat → Nat} {cs : Nat → ClassId} {I : Nat → Int32} {L : Nat → Int64} {A : Nat → Nat → Int32} {Q : Nat → Nat → Int64} {G : Nat → Nat → Nat → Int32} {J : Nat → Nat → Nat → Int64} {k : Nat} (hk : k < 5) : (wSl h cs I L A Q G J)[10 + k]? = some (h (k + 201), .inl (cs 0, 4, .inl (G 2 k))) := by
  rcases (show k = 0 ∨ k = 1 ∨ k = 2 ∨ k = 3 ∨ k = 4 by omega) with rfl | rfl | rfl | rfl | rfl <;> rfl
theorem wSl_setG2 {h : Nat → Nat} {cs : Nat → ClassId} {I : Nat → Int32} {L : Nat → Int64} {A : Nat → Nat → Int32} {Q : Nat → Nat → Int64} {G : Nat → Nat → Nat → Int32} {J : Nat → Nat → Nat → Int64} {k : Nat} {f : Nat → Int32} (hk : k < 5) : (wSl h cs I L A Q G J).set (10 + k) (h (k + 201), .inl (cs 0, 4, .inl (f))) = wSl h cs I L A Q (va_up G 2 (va_up (G 2) k f)) J := by
  rcases (show k = 0 ∨ k = 1 ∨ k = 2 ∨ k = 3 ∨ k = 4 by omega) with rfl | rfl | rfl | rfl | rfl <;> rfl

theorem pk4_s {f : Nat → Int32} {n v : Nat} (hv : v < 4) (h : ∀ q : Nat, q < n → ∃ u : Nat, u < 4 ∧ f q = nI u) : ∀ q : Nat, q < n + 1 → ∃ u : Nat, u < 4 ∧ upd f n (nI v) q = nI u := fun q hq => by
  by_cases e : q = n
  · rw [e, pk_us]
    exact ⟨v, hv, rfl⟩
  · rw [pk_un e]
    exact h q (by omega)

/-! determinants by rows -/
def lpS (sub : Int32 → Int64) (w : Nat → Int64) (x : Int32) : Nat → Int64 × Int64
  | 0 => (0, 1)
  | c + 1 => if bt1 x c = nI 0 then lpS sub w x c else (if w c = 0 then (lpS sub w x c).1 else (lpS sub w x c).1 + (lpS sub w x c).2 * w c * sub (x &&& ((nI 1 <<< (nI c &&& 31)) ^^^ (-1))), -(lpS sub w x c).2)
def lpD (m : Nat → Nat → Int64) (n : Nat) : Nat → Nat → Int32 → Int64
  | 0, _, _ => 1
  | f + 1, r, x => if n ≤ r then 1 else (lpS (lpD m n f (r + 1)) (m r) x n).1
theorem lp_b {sub : Int32 → Int64} {w : Nat → Int64} {x : Int32} {k : Nat} (h : bt1 x k = nI 0) : lpS sub w x (k + 1) = lpS sub w x k := by rw [lpS, if_pos h]
theorem lp_1 {sub : Int32 → Int64} {w : Nat → Int64} {x : Int32} {k : Nat} (h : ¬ bt1 x k = nI 0) : (lpS sub w x (k + 1)).1 = (if w k = 0 then (lpS sub w x k).1 else (lpS sub w x k).1 + (lpS sub w x k).2 * w k * sub (x &&& ((nI 1 <<< (nI k &&& 31)) ^^^ (-1)))) := by rw [lpS, if_neg h]
theorem lp_2 {sub : Int32 → Int64} {w : Nat → Int64} {x : Int32} {k : Nat} (h : ¬ bt1 x k = nI 0) : (lpS sub w x (k + 1)).2 = -(lpS sub w x k).2 := by rw [lpS, if_neg h]
def gramC (g : Nat → Nat → Int32) (R M : Nat) (x : Int32) : Nat → Nat → Int64 := fun i j => (prodF g (selI x i M) (selI x j M) R).toInt64
theorem lpS_c {s1 s2 : Int32 → Int64} {w1 w2 : Nat → Int64} {x : Int32} {n : Nat} (hs : ∀ y : Int32, s1 y = s2 y) (hw : ∀ c : Nat, c < n → w1 c = w2 c) : ∀ k : Nat, k ≤ n → lpS s1 w1 x k = lpS s2 w2 x k
  | 0, _ => rfl
  | k + 1, hk => by rw [lpS, lpS, lpS_c hs hw k (by omega), hw k (by omega), hs]
theorem lpD_c {m1 m2 : Nat → Nat → Int64} {n : Nat} (h : ∀ i j : Nat, i < n → j < n → m1 i j = m2 i j) : ∀ (f r : Nat) (x : Int32), lpD m1 n f r x = lpD m2 n f r x
  | 0, _, _ => rfl
  | f + 1, r, x => by
    rw [lpD, lpD]
    by_cases e : n ≤ r
    · rw [if_pos e, if_pos e]
    · rw [if_neg e, if_neg e, lpS_c (fun y => lpD_c h f (r + 1) y) (fun c hc => h r c (by omega) hc) n (Nat.le_refl n)]

theorem pkd_s {f : Nat → Int32} {x : Int32} {k M : Nat} (hM : M ≤ 4) (hk : k < M) (hb : bt1 x k = nI 1) (h : ∀ q : Nat, q < selC x k → f q = nI (selI x q M) ∧ selI x q M < 4) : ∀ q : Nat, q < selC x k + 1 → upd f (selC x k) (nI k) q = nI (selI x q M) ∧ selI x q M < 4 := fun q hq => by
  by_cases e : q = selC x k
  · rw [e, pk_us, selI_at hb hk]
    exact ⟨rfl, by omega⟩
  · rw [pk_un e]
    exact h q (by omega)
theorem sq_s {jj : Nat → Nat → Int64} {F : Nat → Nat → Int64} {s i j : Nat} {v : Int64} (hj : j < s) (hv : v = F i j) (h : ∀ a b : Nat, b < s → (a < i ∨ (a = i ∧ b < j)) → jj a b = F a b) : ∀ a b : Nat, b < s → (a < i ∨ (a = i ∧ b < j + 1)) → va_up jj i (vp_updL (jj i) j v) a b = F a b := fun a b hb hab => by
  by_cases e : a = i ∧ b = j
  · obtain ⟨rfl, rfl⟩ := e
    simp only [va_up, if_true]
    rw [pk_uLs, hv]
  · have q : va_up jj i (vp_updL (jj i) j v) a b = jj a b := by
      by_cases e2 : a = i
      · subst e2
        simp only [va_up, if_true]
        exact pk_uLn (by omega)
      · simp only [va_up, if_neg e2]
    rw [q]
    exact h a b hb (by omega)
set_option maxRecDepth 20000 in
theorem ggX2_determinant_X2_determinant : GoodIn wsX2_determinant wsX2_determinant := goodIn_r _ [0, 1, 2, 3] rfl (by decide +kernel)
set_option maxRecDepth 20000 in
theorem gX2_determinant_X2_determinant : GoodIn wsX2_determinant (va_wsS RX2 44 yX2_determinant wsX2_determinant) := goodIn_app (goodIn_of _ (by decide +kernel)) ggX2_determinant_X2_determinant
theorem bdX2_determinant_0 : (decode cX2_determinant 0 = .ok (.iload_n 2, 1)) ∧ (decode cX2_determinant 1 = .ok (.iload_n 1, 1)) ∧ (decode cX2_determinant 2 = .ok (.if_icmp .lt 5, 3)) ∧ (decode cX2_determinant 5 = .ok (.lconst 1, 1)) ∧ (decode cX2_determinant 6 = .ok (.lreturn, 1)) ∧ (decode cX2_determinant 7 = .ok (.lconst 0, 1)) ∧ (decode cX2_determinant 8 = .ok (.lstore 4, 2)) ∧ (decode cX2_determinant 10 = .ok (.lconst 1, 1)) ∧ (decode cX2_determinant 11 = .ok (.lstore 6, 2)) ∧ (decode cX2_determinant 13 = .ok (.iconst 0, 1)) ∧ (decode cX2_determinant 14 = .ok (.istore 8, 2)) ∧ (decode cX2_determinant 16 = .ok (.iload 8, 2)) ∧ (decode cX2_determinant 18 = .ok (.iload_n 1, 1)) ∧ (decode cX2_determinant 19 = .ok (.if_icmp .ge 68, 3)) ∧ (decode cX2_determinant 22 = .ok (.iload_n 3, 1)) ∧ (decode cX2_determinant 23 = .ok (.iload 8, 2)) := by decide +kernel
theorem dX2_determinant_0 : decode cX2_determinant 0 = .ok (.iload_n 2, 1) := bdX2_determinant_0.1
theorem dX2_determinant_1 : decode cX2_determinant 1 = .ok (.iload_n 1, 1) := bdX2_determinant_0.2.1
theorem dX2_determinant_2 : decode cX2_determinant 2 = .ok (.if_icmp .lt 5, 3) := bdX2_determinant_0.2.2.1
theorem dX2_determinant_5 : decode cX2_determinant 5 = .ok (.lconst 1, 1) := bdX2_determinant_0.2.2.2.1
theorem dX2_determinant_6 : decode cX2_determinant 6 = .ok (.lreturn, 1) := bdX2_determinant_0.2.2.2.2.1
theorem dX2_determinant_7 : decode cX2_determinant 7 = .ok (.lconst 0, 1) := bdX2_determinant_0.2.2.2.2.2.1
theorem dX2_determinant_8 : decode cX2_determinant 8 = .ok (.lstore 4, 2) := bdX2_determinant_0.2.2.2.2.2.2.1
theorem dX2_determinant_10 : decode cX2_determinant 10 = .ok (.lconst 1, 1) := bdX2_determinant_0.2.2.2.2.2.2.2.1
theorem dX2_determinant_11 : decode cX2_determinant 11 = .ok (.lstore 6, 2) := bdX2_determinant_0.2.2.2.2.2.2.2.2.1
theorem dX2_determinant_13 : decode cX2_determinant 13 = .ok (.iconst 0, 1) := bdX2_determinant_0.2.2.2.2.2.2.2.2.2.1
theorem dX2_determinant_14 : decode cX2_determinant 14 = .ok (.istore 8, 2) := bdX2_determinant_0.2.2.2.2.2.2.2.2.2.2.1
theorem dX2_determinant_16 : decode cX2_determinant 16 = .ok (.iload 8, 2) := bdX2_determinant_0.2.2.2.2.2.2.2.2.2.2.2.1
theorem dX2_determinant_18 : decode cX2_determinant 18 = .ok (.iload_n 1, 1) := bdX2_determinant_0.2.2.2.2.2.2.2.2.2.2.2.2.1
theorem dX2_determinant_19 : decode cX2_determinant 19 = .ok (.if_icmp .ge 68, 3) := bdX2_determinant_0.2.2.2.2.2.2.2.2.2.2.2.2.2.1
theorem dX2_determinant_22 : decode cX2_determinant 22 = .ok (.iload_n 3, 1) := bdX2_determinant_0.2.2.2.2.2.2.2.2.2.2.2.2.2.2.1
theorem dX2_determinant_23 : decode cX2_determinant 23 = .ok (.iload 8, 2) := bdX2_determinant_0.2.2.2.2.2.2.2.2.2.2.2.2.2.2.2
theorem bdX2_determinant_25 : (decode cX2_determinant 25 = .ok (.ishr, 1)) ∧ (decode cX2_determinant 26 = .ok (.iconst 1, 1)) ∧ (decode cX2_determinant 27 = .ok (.iand, 1)) ∧ (decode cX2_determinant 28 = .ok (.ifCond .ne 6, 3)) ∧ (decode cX2_determinant 31 = .ok (.goto 50, 3)) ∧ (decode cX2_determinant 34 = .ok (.aload_n 0, 1)) ∧ (decode cX2_determinant 35 = .ok (.iload_n 2, 1)) ∧ (decode cX2_determinant 36 = .ok (.aaload, 1)) ∧ (decode cX2_determinant 37 = .ok (.iload 8, 2)) ∧ (decode cX2_determinant 39 = .ok (.laload, 1)) ∧ (decode cX2_determinant 40 = .ok (.lconst 0, 1)) ∧ (decode cX2_determinant 41 = .ok (.lcmp, 1)) ∧ (decode cX2_determinant 42 = .ok (.ifCond .eq 34, 3)) ∧ (decode cX2_determinant 45 = .ok (.lload 4, 2)) ∧ (decode cX2_determinant 47 = .ok (.lload 6, 2)) ∧ (decode cX2_determinant 49 = .ok (.aload_n 0, 1)) := by decide +kernel
theorem dX2_determinant_25 : decode cX2_determinant 25 = .ok (.ishr, 1) := bdX2_determinant_25.1
theorem dX2_determinant_26 : decode cX2_determinant 26 = .ok (.iconst 1, 1) := bdX2_determinant_25.2.1
theorem dX2_determinant_27 : decode cX2_determinant 27 = .ok (.iand, 1) := bdX2_determinant_25.2.2.1
theorem dX2_determinant_28 : decode cX2_determinant 28 = .ok (.ifCond .ne 6, 3) := bdX2_determinant_25.2.2.2.1
theorem dX2_determinant_31 : decode cX2_determinant 31 = .ok (.goto 50, 3) := bdX2_determinant_25.2.2.2.2.1
theorem dX2_determinant_34 : decode cX2_determinant 34 = .ok (.aload_n 0, 1) := bdX2_determinant_25.2.2.2.2.2.1
theorem dX2_determinant_35 : decode cX2_determinant 35 = .ok (.iload_n 2, 1) := bdX2_determinant_25.2.2.2.2.2.2.1
theorem dX2_determinant_36 : decode cX2_determinant 36 = .ok (.aaload, 1) := bdX2_determinant_25.2.2.2.2.2.2.2.1
theorem dX2_determinant_37 : decode cX2_determinant 37 = .ok (.iload 8, 2) := bdX2_determinant_25.2.2.2.2.2.2.2.2.1
theorem dX2_determinant_39 : decode cX2_determinant 39 = .ok (.laload, 1) := bdX2_determinant_25.2.2.2.2.2.2.2.2.2.1
theorem dX2_determinant_40 : decode cX2_determinant 40 = .ok (.lconst 0, 1) := bdX2_determinant_25.2.2.2.2.2.2.2.2.2.2.1
theorem dX2_determinant_41 : decode cX2_determinant 41 = .ok (.lcmp, 1) := bdX2_determinant_25.2.2.2.2.2.2.2.2.2.2.2.1
theorem dX2_determinant_42 : decode cX2_determinant 42 = .ok (.ifCond .eq 34, 3) := bdX2_determinant_25.2.2.2.2.2.2.2.2.2.2.2.2.1
theorem dX2_determinant_45 : decode cX2_determinant 45 = .ok (.lload 4, 2) := bdX2_determinant_25.2.2.2.2.2.2.2.2.2.2.2.2.2.1
theorem dX2_determinant_47 : decode cX2_determinant 47 = .ok (.lload 6, 2) := bdX2_determinant_25.2.2.2.2.2.2.2.2.2.2.2.2.2.2.1
theorem dX2_determinant_49 : decode cX2_determinant 49 = .ok (.aload_n 0, 1) := bdX2_determinant_25.2.2.2.2.2.2.2.2.2.2.2.2.2.2.2
theorem bdX2_determinant_50 : (decode cX2_determinant 50 = .ok (.iload_n 2, 1)) ∧ (decode cX2_determinant 51 = .ok (.aaload, 1)) ∧ (decode cX2_determinant 52 = .ok (.iload 8, 2)) ∧ (decode cX2_determinant 54 = .ok (.laload, 1)) ∧ (decode cX2_determinant 55 = .ok (.lmul, 1)) ∧ (decode cX2_determinant 56 = .ok (.aload_n 0, 1)) ∧ (decode cX2_determinant 57 = .ok (.iload_n 1, 1)) ∧ (decode cX2_determinant 58 = .ok (.iload_n 2, 1)) ∧ (decode cX2_determinant 59 = .ok (.iconst 1, 1)) ∧ (decode cX2_determinant 60 = .ok (.iadd, 1)) ∧ (decode cX2_determinant 61 = .ok (.iload_n 3, 1)) ∧ (decode cX2_determinant 62 = .ok (.iconst 1, 1)) ∧ (decode cX2_determinant 63 = .ok (.iload 8, 2)) ∧ (decode cX2_determinant 65 = .ok (.ishl, 1)) ∧ (decode cX2_determinant 66 = .ok (.iconst (-1), 1)) ∧ (decode cX2_determinant 67 = .ok (.ixor, 1)) := by decide +kernel
theorem dX2_determinant_50 : decode cX2_determinant 50 = .ok (.iload_n 2, 1) := bdX2_determinant_50.1
theorem dX2_determinant_51 : decode cX2_determinant 51 = .ok (.aaload, 1) := bdX2_determinant_50.2.1
theorem dX2_determinant_52 : decode cX2_determinant 52 = .ok (.iload 8, 2) := bdX2_determinant_50.2.2.1
theorem dX2_determinant_54 : decode cX2_determinant 54 = .ok (.laload, 1) := bdX2_determinant_50.2.2.2.1
theorem dX2_determinant_55 : decode cX2_determinant 55 = .ok (.lmul, 1) := bdX2_determinant_50.2.2.2.2.1
theorem dX2_determinant_56 : decode cX2_determinant 56 = .ok (.aload_n 0, 1) := bdX2_determinant_50.2.2.2.2.2.1
theorem dX2_determinant_57 : decode cX2_determinant 57 = .ok (.iload_n 1, 1) := bdX2_determinant_50.2.2.2.2.2.2.1
theorem dX2_determinant_58 : decode cX2_determinant 58 = .ok (.iload_n 2, 1) := bdX2_determinant_50.2.2.2.2.2.2.2.1
theorem dX2_determinant_59 : decode cX2_determinant 59 = .ok (.iconst 1, 1) := bdX2_determinant_50.2.2.2.2.2.2.2.2.1
theorem dX2_determinant_60 : decode cX2_determinant 60 = .ok (.iadd, 1) := bdX2_determinant_50.2.2.2.2.2.2.2.2.2.1
theorem dX2_determinant_61 : decode cX2_determinant 61 = .ok (.iload_n 3, 1) := bdX2_determinant_50.2.2.2.2.2.2.2.2.2.2.1
theorem dX2_determinant_62 : decode cX2_determinant 62 = .ok (.iconst 1, 1) := bdX2_determinant_50.2.2.2.2.2.2.2.2.2.2.2.1
theorem dX2_determinant_63 : decode cX2_determinant 63 = .ok (.iload 8, 2) := bdX2_determinant_50.2.2.2.2.2.2.2.2.2.2.2.2.1
theorem dX2_determinant_65 : decode cX2_determinant 65 = .ok (.ishl, 1) := bdX2_determinant_50.2.2.2.2.2.2.2.2.2.2.2.2.2.1
theorem dX2_determinant_66 : decode cX2_determinant 66 = .ok (.iconst (-1), 1) := bdX2_determinant_50.2.2.2.2.2.2.2.2.2.2.2.2.2.2.1
theorem dX2_determinant_67 : decode cX2_determinant 67 = .ok (.ixor, 1) := bdX2_determinant_50.2.2.2.2.2.2.2.2.2.2.2.2.2.2.2
theorem bdX2_determinant_68 : (decode cX2_determinant 68 = .ok (.iand, 1)) ∧ (decode cX2_determinant 69 = .ok (.invokestatic 44, 3)) ∧ (decode cX2_determinant 72 = .ok (.lmul, 1)) ∧ (decode cX2_determinant 73 = .ok (.ladd, 1)) ∧ (decode cX2_determinant 74 = .ok (.lstore 4, 2)) ∧ (decode cX2_determinant 76 = .ok (.lload 6, 2)) ∧ (decode cX2_determinant 78 = .ok (.lneg, 1)) ∧ (decode cX2_determinant 79 = .ok (.lstore 6, 2)) ∧ (decode cX2_determinant 81 = .ok (.iinc 8 1, 3)) ∧ (decode cX2_determinant 84 = .ok (.goto (-68), 3)) ∧ (decode cX2_determinant 87 = .ok (.lload 4, 2)) ∧ (decode cX2_determinant 89 = .ok (.lreturn, 1)) := by decide +kernel
theorem dX2_determinant_68 : decode cX2_determinant 68 = .ok (.iand, 1) := bdX2_determinant_68.1
theorem dX2_determinant_69 : decode cX2_determinant 69 = .ok (.invokestatic 44, 3) := bdX2_determinant_68.2.1
theorem dX2_determinant_72 : decode cX2_determinant 72 = .ok (.lmul, 1) := bdX2_determinant_68.2.2.1
theorem dX2_determinant_73 : decode cX2_determinant 73 = .ok (.ladd, 1) := bdX2_determinant_68.2.2.2.1
theorem dX2_determinant_74 : decode cX2_determinant 74 = .ok (.lstore 4, 2) := bdX2_determinant_68.2.2.2.2.1
theorem dX2_determinant_76 : decode cX2_determinant 76 = .ok (.lload 6, 2) := bdX2_determinant_68.2.2.2.2.2.1
theorem dX2_determinant_78 : decode cX2_determinant 78 = .ok (.lneg, 1) := bdX2_determinant_68.2.2.2.2.2.2.1
theorem dX2_determinant_79 : decode cX2_determinant 79 = .ok (.lstore 6, 2) := bdX2_determinant_68.2.2.2.2.2.2.2.1
theorem dX2_determinant_81 : decode cX2_determinant 81 = .ok (.iinc 8 1, 3) := bdX2_determinant_68.2.2.2.2.2.2.2.2.1
theorem dX2_determinant_84 : decode cX2_determinant 84 = .ok (.goto (-68), 3) := bdX2_determinant_68.2.2.2.2.2.2.2.2.2.1
theorem dX2_determinant_87 : decode cX2_determinant 87 = .ok (.lload 4, 2) := bdX2_determinant_68.2.2.2.2.2.2.2.2.2.2.1
theorem dX2_determinant_89 : decode cX2_determinant 89 = .ok (.lreturn, 1) := bdX2_determinant_68.2.2.2.2.2.2.2.2.2.2.2
set_option maxHeartbeats 4000000 in
set_option maxRecDepth 100000 in
theorem k_det_4 (l : Launch) (dC : Nat → ClassId) (dI : Nat → Nat → Nat) (h : Nat → Nat) (cs : Nat → ClassId) (sz : Nat) (I : Nat → Int32) (L : Nat → Int64) (A : Nat → Nat → Int32) (Q : Nat → Nat → Int64) (G : Nat → Nat → Nat → Int32) (J : Nat → Nat → Nat → Int64) (s9 : Nat) (x : Int32) (hs4 : s9 ≤ 4) : Met l yX2_determinant wsX2_determinant ({ frames := 0, cells := 0, slots := 0, locals := 0 }) (va_Pc [.ref (h 180), .int (nI s9), .int (nI 4), .int x] (xPre (dC, dI) (wSq h cs I L A Q G J) (tysA cs) sz)) (va_Ql (fun (r : Int64) (u : CS) => (r = lpD (J 0) s9 0 4 x) ∧ u = (I, L, A, Q, G, J)) (xB (dC, dI) (tysA cs) (va_A (wSq h cs I L A Q G J) sz) (fun u : CS => wSq h cs u.1 u.2.1 u.2.2.1 u.2.2.2.1 u.2.2.2.2.1 u.2.2.2.2.2)) (va_A (wSq h cs I L A Q G J) sz)) 0 0 (va_A (wSq h cs I L A Q G J) sz) := by
  refine Met.ofW (cc := cX2_determinant) (maxL := 9) (ret := (some .long)) (by decide) rfl ?_
  intro p e s m args below meth c s₁ B hml hv
  obtain ⟨rfl, hsz, hP, hK, hD0, hN⟩ := hv
  have hx := B.exec
  have hb := B.bytes
  have hr := B.returns
  have hts := atoms_spec (ws := wsX2_determinant) B.pre
  have hown : s.vm.findClass RX2 = some m.cls := findClass_of_methodNamed B.named
  have hlocks := B.notSynchronized
  subst hsz
  have hD := hD0.self (sz := s.heap.size)
  generalize hAe : va_A (wSq h cs I L A Q G J) s.heap.size = A0 at hD ⊢
  have hA : ∀ q : Nat, s.heap.size ≤ q → A0 q := fun q h => by rw [← hAe]; exact Or.inr h
  have hl := lv_entry ([.ref (h 180), .int (nI s9), .int (nI 4), .int x]) (n := 9) (Nat.le_of_ble_eq_true rfl)
  rw [lg_entry_eq]
  generalize (lg_sl ([.ref (h 180), .int (nI s9), .int (nI 4), .int x]) ++ List.replicate (9 - (lg_sl ([.ref (h 180), .int (nI s9), .int (nI 4), .int x])).length) Slot.unset).toArray = ls at hl ⊢
  have hl : lv_has ls 9 [(0, .ref (h 180)), (1, .int (nI s9)), (2, .int (nI 4)), (3, .int x)] := hl
  generalize hH : s.heap = H at hP ⊢
  have hS : va_S A0 s.heap H [] := by rw [← hH]; exact va_S.rf
  refine lv_iload_n hx hb dX2_determinant_0 rfl (lv_at hl 2 rfl) ?_
  refine lv_iload_n hx hb dX2_determinant_1 rfl (lv_at hl 1 rfl) ?_
  refine xn_lt (tgt := 7) hx hb dX2_determinant_2 (by decide) (by omega) (by omega) (fun c_2_0 => ?_) (fun c_2_0 => ?_)
  · skip
    exact absurd c_2_0 (by omega)
  · skip
    refine lv_lconst (v := 1) hx hb dX2_determinant_5 rfl ?_
    exact xr_l (v := (1 : Int64)) hx hb hr hlocks hK hS dX2_determinant_6 (I, L, A, Q, G, J) ⟨rfl, rfl⟩ hP hD
set_option maxHeartbeats 4000000 in
set_option maxRecDepth 100000 in
theorem k_det_3 (l : Launch) (dC : Nat → ClassId) (dI : Nat → Nat → Nat) (h : Nat → Nat) (cs : Nat → ClassId) (sz : Nat) (I : Nat → Int32) (L : Nat → Int64) (A : Nat → Nat → Int32) (Q : Nat → Nat → Int64) (G : Nat → Nat → Nat → Int32) (J : Nat → Nat → Nat → Int64) (s9 : Nat) (x : Int32) (hs4 : s9 ≤ 4) : Met l yX2_determinant wsX2_determinant ({ frames := 1, cells := 0, slots := 0, locals := 28 }) (va_Pc [.ref (h 180), .int (nI s9), .int (nI 3), .int x] (xPre (dC, dI) (wSq h cs I L A Q G J) (tysA cs) sz)) (va_Ql (fun (r : Int64) (u : CS) => (r = lpD (J 0) s9 1 3 x) ∧ u = (I, L, A, Q, G, J)) (xB (dC, dI) (tysA cs) (va_A (wSq h cs I L A Q G J) sz) (fun u : CS => wSq h cs u.1 u.2.1 u.2.2.1 u.2.2.2.1 u.2.2.2.2.1 u.2.2.2.2.2)) (va_A (wSq h cs I L A Q G J) sz)) 0 0 (va_A (wSq h cs I L A Q G J) sz) := by
  refine Met.ofW (cc := cX2_determinant) (maxL := 9) (ret := (some .long)) (by decide) rfl ?_
  intro p e s m args below meth c s₁ B hml hv
  obtain ⟨rfl, hsz, hP, hK, hD0, hN⟩ := hv
  have hx := B.exec
  have hb := B.bytes
  have hr := B.returns
  have hts := atoms_spec (ws := wsX2_determinant) B.pre
  have hown : s.vm.findClass RX2 = some m.cls := findClass_of_methodNamed B.named
  have hlocks := B.notSynchronized
  subst hsz
  have hD := hD0.self (sz := s.heap.size)
  generalize hAe : va_A (wSq h cs I L A Q G J) s.heap.size = A0 at hD ⊢
  have hA : ∀ q : Nat, s.heap.size ≤ q → A0 q := fun q h => by rw [← hAe]; exact Or.inr h
  have hl := lv_entry ([.ref (h 180), .int (nI s9), .int (nI 3), .int x]) (n := 9) (Nat.le_of_ble_eq_true rfl)
  rw [lg_entry_eq]
  generalize (lg_sl ([.ref (h 180), .int (nI s9), .int (nI 3), .int x]) ++ List.replicate (9 - (lg_sl ([.ref (h 180), .int (nI s9), .int (nI 3), .int x])).length) Slot.unset).toArray = ls at hl ⊢
  have hl : lv_has ls 9 [(0, .ref (h 180)), (1, .int (nI s9)), (2, .int (nI 3)), (3, .int x)] := hl
  generalize hH : s.heap = H at hP ⊢
  have hS : va_S A0 s.heap H [] := by rw [← hH]; exact va_S.rf
  refine lv_iload_n hx hb dX2_determinant_0 rfl (lv_at hl 2 rfl) ?_
  refine lv_iload_n hx hb dX2_determinant_1 rfl (lv_at hl 1 rfl) ?_
  refine xn_lt (tgt := 7) hx hb dX2_determinant_2 (by decide) (by omega) (by omega) (fun c_2_0 => ?_) (fun c_2_0 => ?_)
  · skip
    refine lv_lconst (v := 0) hx hb dX2_determinant_7 rfl ?_
    refine lv_lstore (lv' := [(4, .long (0 : Int64)), (0, .ref (h 180)), (1, .int (nI s9)), (2, .int (nI 3)), (3, .int x)]) hx hb dX2_determinant_8 hl (by decide) rfl (fun ls hl => ?_)
    refine lv_lconst (v := 1) hx hb dX2_determinant_10 rfl ?_
    refine lv_lstore (lv' := [(6, .long (1 : Int64)), (4, .long (0 : Int64)), (0, .ref (h 180)), (1, .int (nI s9)), (2, .int (nI 3)), (3, .int x)]) hx hb dX2_determinant_11 hl (by decide) rfl (fun ls hl => ?_)
    refine lv_iconst (v := nI 0) hx hb dX2_determinant_13 (by decide) ?_
    refine lv_istore (lv' := [(8, .int (nI 0)), (6, .long (1 : Int64)), (4, .long (0 : Int64)), (0, .ref (h 180)), (1, .int (nI s9)), (2, .int (nI 3)), (3, .int x)]) hx hb dX2_determinant_14 hl (by decide) rfl (fun ls hl => ?_)
    have cut_16 : ∀ (nf : Nat) (k : Nat) (z4 : Int64) (z6 : Int64), (s9 - k) < nf → (k ≤ s9) → (z4 = (lpS (lpD (J 0) s9 0 4) (J 0 3) x k).1) → (z6 = (lpS (lpD (J 0) s9 0 4) (J 0 3) x k).2) → ∀ (H : Heap) (locs : List Loc) (ls : Array Slot), va_P (dC, dI) vwCl (wSq h cs I L A Q G J) H → va_D A0 (wSq h cs I L A Q G J) → va_S A0 s.heap H locs → lv_has ls 9 [(0, .ref (h 180)), (1, .int (nI s9)), (2, .int (nI 3)), (3, .int x), (4, .long z4), (6, .long z6), (8, .int (nI k))] → W p l e (headSpec wsX2_determinant ({ frames := 1, cells := 0, slots := 0, locals := 28 })).room s m ([.ref (h 180), .int (nI s9), .int (nI 3), .int x] : List Value).toArray below meth c H locs 0 0 (MQ below (va_Ql (fun (r : Int64) (u : CS) => (r = lpD (J 0) s9 1 3 x) ∧ u = (I, L, A, Q, G, J)) (xB (dC, dI) (tysA cs) A0 (fun u : CS => wSq h cs u.1 u.2.1 u.2.2.1 u.2.2.2.1 u.2.2.2.2.1 u.2.2.2.2.2)) A0) ([.ref (h 180), .int (nI s9), .int (nI 3), .int x] : List Value).toArray s 0 0 A0) (F0 m 16 ls []) := by
      intro nf
      induction nf with
      | zero => intro k z4 z6 hm; exact absurd hm (Nat.not_lt_zero _)
      | succ nf ih_16 =>
        intro k z4 z6 hm_16 hk16 hz4 hz6 H locs ls hP hD hS hl
        refine lv_iload hx hb dX2_determinant_16 (lv_at hl 6 rfl) ?_
        refine lv_iload_n hx hb dX2_determinant_18 rfl (lv_at hl 1 rfl) ?_
        refine xn_ge (tgt := 87) hx hb dX2_determinant_19 (by decide) (by omega) (by omega) (fun c_19_1 => ?_) (fun c_19_1 => ?_)
        · skip
          refine lv_lload hx hb dX2_determinant_87 (lv_at hl 4 rfl) ?_
          exact xr_l (v := z4) hx hb hr hlocks hK hS dX2_determinant_89 (I, L, A, Q, G, J) ⟨(by rw [lpD, if_neg (by omega), hz4, show s9 = k by omega]), rfl⟩ hP hD
        · skip
          refine lv_iload_n hx hb dX2_determinant_22 rfl (lv_at hl 3 rfl) ?_
          refine lv_iload hx hb dX2_determinant_23 (lv_at hl 6 rfl) ?_
          refine lv_ishr hx hb dX2_determinant_25 ?_
          refine lv_iconst (v := nI 1) hx hb dX2_determinant_26 (by decide) ?_
          refine lv_iand hx hb dX2_determinant_27 ?_
          refine lv_if_ne (tgt := 34) hx hb dX2_determinant_28 (by decide) (fun c_28_2 => ?_) (fun c_28_2 => ?_)
          · skip
            have hbit : ¬ bt1 x k = nI 0 := c_28_2
            refine lv_aload_n hx hb dX2_determinant_34 rfl (lv_at hl 0 rfl) ?_
            refine lv_iload_n hx hb dX2_determinant_35 rfl (lv_at hl 2 rfl) ?_
            refine xa_aald (b := h 184) hx hb hK hP 0 4 rfl rfl rfl (by omega) (by decide) (if_pos (by omega)) dX2_determinant_36 ?_
            refine lv_iload hx hb dX2_determinant_37 (lv_at hl 6 rfl) ?_
            refine xa_lald hx hb hK hP 4 1 rfl rfl (by omega) (by decide) dX2_determinant_39 ?_
            refine lv_lconst (v := 0) hx hb dX2_determinant_40 rfl ?_
            refine xl_eq (tgt := 76) hx hb dX2_determinant_41 dX2_determinant_42 (by decide) (fun c_41_3 => ?_) (fun c_41_3 => ?_)
            · skip
              have hwk : J 0 3 k = 0 := c_41_3
              refine lv_lload hx hb dX2_determinant_76 (lv_at hl 5 rfl) ?_
              refine lv_lneg hx hb dX2_determinant_78 ?_
              refine lv_lstore (lv' := [(6, .long (-z6)), (0, .ref (h 180)), (1, .int (nI s9)), (2, .int (nI 3)), (3, .int x), (4, .long z4), (8, .int (nI k))]) hx hb dX2_determinant_79 hl (by decide) rfl (fun ls hl => ?_)
              refine lv_iinc (v := nI (k + 1)) (lv' := [(8, .int (nI (k + 1))), (6, .long (-z6)), (0, .ref (h 180)), (1, .int (nI s9)), (2, .int (nI 3)), (3, .int x), (4, .long z4)]) hx hb dX2_determinant_81 hl (k := 6) rfl (nI_1 _) (by decide) rfl (fun ls hl => ?_)
              refine lv_goto (tgt := 16) hx hb dX2_determinant_84 (by decide) ?_
              exact ih_16 (k + 1) z4 (-z6) (by omega) (by first | assumption | omega) (by first | rfl | (rw [lp_b hbit]; exact hz4) | (rw [lp_1 hbit, if_pos hwk]; exact hz4) | (rw [lp_1 hbit, if_neg hwk, ← hz4, ← hz6])) (by first | rfl | (rw [lp_b hbit]; exact hz6) | (rw [lp_2 hbit, ← hz6])) _ _ _ hP hD hS (lv_sub hl [2, 3, 4, 5, 6, 1, 0] rfl)
            · skip
              have hwk : ¬ J 0 3 k = 0 := c_41_3
              refine lv_lload hx hb dX2_determinant_45 (lv_at hl 4 rfl) ?_
              refine lv_lload hx hb dX2_determinant_47 (lv_at hl 5 rfl) ?_
              refine lv_aload_n hx hb dX2_determinant_49 rfl (lv_at hl 0 rfl) ?_
              refine lv_iload_n hx hb dX2_determinant_50 rfl (lv_at hl 2 rfl) ?_
              refine xa_aald (b := h 184) hx hb hK hP 0 4 rfl rfl rfl (by omega) (by decide) (if_pos (by omega)) dX2_determinant_51 ?_
              refine lv_iload hx hb dX2_determinant_52 (lv_at hl 6 rfl) ?_
              refine xa_lald hx hb hK hP 4 1 rfl rfl (by omega) (by decide) dX2_determinant_54 ?_
              refine lv_lmul hx hb dX2_determinant_55 ?_
              refine lv_aload_n hx hb dX2_determinant_56 rfl (lv_at hl 0 rfl) ?_
              refine lv_iload_n hx hb dX2_determinant_57 rfl (lv_at hl 1 rfl) ?_
              refine lv_iload_n hx hb dX2_determinant_58 rfl (lv_at hl 2 rfl) ?_
              refine lv_iconst (v := nI 1) hx hb dX2_determinant_59 (by decide) ?_
              refine lv_iadd hx hb dX2_determinant_60 ?_
              refine xt_i (y := nI 4) (by decide +kernel) ?_
              refine lv_iload_n hx hb dX2_determinant_61 rfl (lv_at hl 3 rfl) ?_
              refine lv_iconst (v := nI 1) hx hb dX2_determinant_62 (by decide) ?_
              refine lv_iload hx hb dX2_determinant_63 (lv_at hl 6 rfl) ?_
              refine lv_ishl hx hb dX2_determinant_65 ?_
              refine lv_iconst (v := (-1)) hx hb dX2_determinant_66 (by decide) ?_
              refine lv_ixor hx hb dX2_determinant_67 ?_
              refine lv_iand hx hb dX2_determinant_68 ?_
              refine xj_l (wc := (wSq h cs I L A Q G J)) (wr := ([] : va_W)) hP hD hS hA [0, 1, 2, 3, 4] [] rfl rfl (by decide +kernel) (by decide +kernel) (va_runS (As := [.ref (h 180), .int (nI s9), .int (nI 4), .int (x &&& (((nI 1) <<< ((nI k) &&& 31)) ^^^ (-1)))]) (rest := [.long (z6 * (((J 0) 3) k)), .long z4]) ⟨hx, hb, hml, hown, hts⟩ (k_det_4 l dC dI h cs H.size I L A Q G J s9 (x &&& (((nI 1) <<< ((nI k) &&& 31)) ^^^ (-1))) (by first | assumption | omega | exact hs4)) (va_cwS 4 hts gX2_determinant_X2_determinant rfl rfl rfl (by decide +kernel) ⟨Nat.le_of_ble_eq_true rfl, Nat.le_of_ble_eq_true rfl⟩) (xpS (wc := (wSq h cs I L A Q G J)) hP hD hK hN [0, 1, 2, 3, 4] rfl (by decide) _) rfl rfl hl.1 rfl (lv_room (Nat.le_of_ble_eq_true rfl)) dX2_determinant_69 ⟨Nat.zero_le _, Nat.zero_le _⟩) (fun r_6 u_5 H locs hw hP hD hS => ?_)
              obtain ⟨hf_7, rfl⟩ := hw
              have hP : va_P (dC, dI) vwCl (wSq h cs I L A Q G J) H := hP
              have hD : va_D A0 (wSq h cs I L A Q G J) := hD
              obtain rfl := hf_7
              refine lv_lmul hx hb dX2_determinant_72 ?_
              refine lv_ladd hx hb dX2_determinant_73 ?_
              refine lv_lstore (lv' := [(4, .long (z4 + ((z6 * (((J 0) 3) k)) * ((lpD (J 0) s9 0 4) (x &&& (((nI 1) <<< ((nI k) &&& 31)) ^^^ (-1))))))), (0, .ref (h 180)), (1, .int (nI s9)), (2, .int (nI 3)), (3, .int x), (6, .long z6), (8, .int (nI k))]) hx hb dX2_determinant_74 hl (by decide) rfl (fun ls hl => ?_)
              refine lv_lload hx hb dX2_determinant_76 (lv_at hl 5 rfl) ?_
              refine lv_lneg hx hb dX2_determinant_78 ?_
              refine lv_lstore (lv' := [(6, .long (-z6)), (4, .long (z4 + ((z6 * (((J 0) 3) k)) * ((lpD (J 0) s9 0 4) (x &&& (((nI 1) <<< ((nI k) &&& 31)) ^^^ (-1))))))), (0, .ref (h 180)), (1, .int (nI s9)), (2, .int (nI 3)), (3, .int x), (8, .int (nI k))]) hx hb dX2_determinant_79 hl (by decide) rfl (fun ls hl => ?_)
              refine lv_iinc (v := nI (k + 1)) (lv' := [(8, .int (nI (k + 1))), (6, .long (-z6)), (4, .long (z4 + ((z6 * (((J 0) 3) k)) * ((lpD (J 0) s9 0 4) (x &&& (((nI 1) <<< ((nI k) &&& 31)) ^^^ (-1))))))), (0, .ref (h 180)), (1, .int (nI s9)), (2, .int (nI 3)), (3, .int x)]) hx hb dX2_determinant_81 hl (k := 6) rfl (nI_1 _) (by decide) rfl (fun ls hl => ?_)
              refine lv_goto (tgt := 16) hx hb dX2_determinant_84 (by decide) ?_
              exact ih_16 (k + 1) (z4 + ((z6 * (((J 0) 3) k)) * ((lpD (J 0) s9 0 4) (x &&& (((nI 1) <<< ((nI k) &&& 31)) ^^^ (-1)))))) (-z6) (by omega) (by first | assumption | omega) (by first | rfl | (rw [lp_b hbit]; exact hz4) | (rw [lp_1 hbit, if_pos hwk]; exact hz4) | (rw [lp_1 hbit, if_neg hwk, ← hz4, ← hz6])) (by first | rfl | (rw [lp_b hbit]; exact hz6) | (rw [lp_2 hbit, ← hz6])) _ _ _ hP hD hS (lv_sub hl [3, 4, 5, 6, 2, 1, 0] rfl)
          · skip
            have hbit : bt1 x k = nI 0 := c_28_2
            refine lv_goto (tgt := 81) hx hb dX2_determinant_31 (by decide) ?_
            refine lv_iinc (v := nI (k + 1)) (lv' := [(8, .int (nI (k + 1))), (0, .ref (h 180)), (1, .int (nI s9)), (2, .int (nI 3)), (3, .int x), (4, .long z4), (6, .long z6)]) hx hb dX2_determinant_81 hl (k := 6) rfl (nI_1 _) (by decide) rfl (fun ls hl => ?_)
            refine lv_goto (tgt := 16) hx hb dX2_determinant_84 (by decide) ?_
            exact ih_16 (k + 1) z4 z6 (by omega) (by first | assumption | omega) (by first | rfl | (rw [lp_b hbit]; exact hz4) | (rw [lp_1 hbit, if_pos hwk]; exact hz4) | (rw [lp_1 hbit, if_neg hwk, ← hz4, ← hz6])) (by first | rfl | (rw [lp_b hbit]; exact hz6) | (rw [lp_2 hbit, ← hz6])) _ _ _ hP hD hS (lv_sub hl [1, 2, 3, 4, 5, 6, 0] rfl)
    exact cut_16 _ 0 (0 : Int64) (1 : Int64) (Nat.lt_succ_self _) (by first | assumption | omega) (by first | rfl | (rw [lp_b hbit]; exact hz4) | (rw [lp_1 hbit, if_pos hwk]; exact hz4) | (rw [lp_1 hbit, if_neg hwk, ← hz4, ← hz6])) (by first | rfl | (rw [lp_b hbit]; exact hz6) | (rw [lp_2 hbit, ← hz6])) _ _ _ hP hD hS (lv_sub hl [3, 4, 5, 6, 2, 1, 0] rfl)
  · skip
    refine lv_lconst (v := 1) hx hb dX2_determinant_5 rfl ?_
    exact xr_l (v := (1 : Int64)) hx hb hr hlocks hK hS dX2_determinant_6 (I, L, A, Q, G, J) ⟨(by rw [lpD, if_pos (by omega)]), rfl⟩ hP hD
set_option maxHeartbeats 4000000 in
set_option maxRecDepth 100000 in
theorem k_det_2 (l : Launch) (dC : Nat → ClassId) (dI : Nat → Nat → Nat) (h : Nat → Nat) (cs : Nat → ClassId) (sz : Nat) (I : Nat → Int32) (L : Nat → Int64) (A : Nat → Nat → Int32) (Q : Nat → Nat → Int64) (G : Nat → Nat → Nat → Int32) (J : Nat → Nat → Nat → Int64) (s9 : Nat) (x : Int32) (hs4 : s9 ≤ 4) : Met l yX2_determinant wsX2_determinant ({ frames := 2, cells := 0, slots := 0, locals := 56 }) (va_Pc [.ref (h 180), .int (nI s9), .int (nI 2), .int x] (xPre (dC, dI) (wSq h cs I L A Q G J) (tysA cs) sz)) (va_Ql (fun (r : Int64) (u : CS) => (r = lpD (J 0) s9 2 2 x) ∧ u = (I, L, A, Q, G, J)) (xB (dC, dI) (tysA cs) (va_A (wSq h cs I L A Q G J) sz) (fun u : CS => wSq h cs u.1 u.2.1 u.2.2.1 u.2.2.2.1 u.2.2.2.2.1 u.2.2.2.2.2)) (va_A (wSq h cs I L A Q G J) sz)) 0 0 (va_A (wSq h cs I L A Q G J) sz) := by
  refine Met.ofW (cc := cX2_determinant) (maxL := 9) (ret := (some .long)) (by decide) rfl ?_
  intro p e s m args below meth c s₁ B hml hv
  obtain ⟨rfl, hsz, hP, hK, hD0, hN⟩ := hv
  have hx := B.exec
  have hb := B.bytes
  have hr := B.returns
  have hts := atoms_spec (ws := wsX2_determinant) B.pre
  have hown : s.vm.findClass RX2 = some m.cls := findClass_of_methodNamed B.named
  have hlocks := B.notSynchronized
  subst hsz
  have hD := hD0.self (sz := s.heap.size)
  generalize hAe : va_A (wSq h cs I L A Q G J) s.heap.size = A0 at hD ⊢
  have hA : ∀ q : Nat, s.heap.size ≤ q → A0 q := fun q h => by rw [← hAe]; exact Or.inr h
  have hl := lv_entry ([.ref (h 180), .int (nI s9), .int (nI 2), .int x]) (n := 9) (Nat.le_of_ble_eq_true rfl)
  rw [lg_entry_eq]
  generalize (lg_sl ([.ref (h 180), .int (nI s9), .int (nI 2), .int x]) ++ List.replicate (9 - (lg_sl ([.ref (h 180), .int (nI s9), .int (nI 2), .int x])).length) Slot.unset).toArray = ls at hl ⊢
  have hl : lv_has ls 9 [(0, .ref (h 180)), (1, .int (nI s9)), (2, .int (nI 2)), (3, .int x)] := hl
  generalize hH : s.heap = H at hP ⊢
  have hS : va_S A0 s.heap H [] := by rw [← hH]; exact va_S.rf
  refine lv_iload_n hx hb dX2_determinant_0 rfl (lv_at hl 2 rfl) ?_
  refine lv_iload_n hx hb dX2_determinant_1 rfl (lv_at hl 1 rfl) ?_
  refine xn_lt (tgt := 7) hx hb dX2_determinant_2 (by decide) (by omega) (by omega) (fun c_2_0 => ?_) (fun c_2_0 => ?_)
  · skip
    refine lv_lconst (v := 0) hx hb dX2_determinant_7 rfl ?_
    refine lv_lstore (lv' := [(4, .long (0 : Int64)), (0, .ref (h 180)), (1, .int (nI s9)), (2, .int (nI 2)), (3, .int x)]) hx hb dX2_determinant_8 hl (by decide) rfl (fun ls hl => ?_)
    refine lv_lconst (v := 1) hx hb dX2_determinant_10 rfl ?_
    refine lv_lstore (lv' := [(6, .long (1 : Int64)), (4, .long (0 : Int64)), (0, .ref (h 180)), (1, .int (nI s9)), (2, .int (nI 2)), (3, .int x)]) hx hb dX2_determinant_11 hl (by decide) rfl (fun ls hl => ?_)
    refine lv_iconst (v := nI 0) hx hb dX2_determinant_13 (by decide) ?_
    refine lv_istore (lv' := [(8, .int (nI 0)), (6, .long (1 : Int64)), (4, .long (0 : Int64)), (0, .ref (h 180)), (1, .int (nI s9)), (2, .int (nI 2)), (3, .int x)]) hx hb dX2_determinant_14 hl (by decide) rfl (fun ls hl => ?_)
    have cut_16 : ∀ (nf : Nat) (k : Nat) (z4 : Int64) (z6 : Int64), (s9 - k) < nf → (k ≤ s9) → (z4 = (lpS (lpD (J 0) s9 1 3) (J 0 2) x k).1) → (z6 = (lpS (lpD (J 0) s9 1 3) (J 0 2) x k).2) → ∀ (H : Heap) (locs : List Loc) (ls : Array Slot), va_P (dC, dI) vwCl (wSq h cs I L A Q G J) H → va_D A0 (wSq h cs I L A Q G J) → va_S A0 s.heap H locs → lv_has ls 9 [(0, .ref (h 180)), (1, .int (nI s9)), (2, .int (nI 2)), (3, .int x), (4, .long z4), (6, .long z6), (8, .int (nI k))] → W p l e (headSpec wsX2_determinant ({ frames := 2, cells := 0, slots := 0, locals := 56 })).room s m ([.ref (h 180), .int (nI s9), .int (nI 2), .int x] : List Value).toArray below meth c H locs 0 0 (MQ below (va_Ql (fun (r : Int64) (u : CS) => (r = lpD (J 0) s9 2 2 x) ∧ u = (I, L, A, Q, G, J)) (xB (dC, dI) (tysA cs) A0 (fun u : CS => wSq h cs u.1 u.2.1 u.2.2.1 u.2.2.2.1 u.2.2.2.2.1 u.2.2.2.2.2)) A0) ([.ref (h 180), .int (nI s9), .int (nI 2), .int x] : List Value).toArray s 0 0 A0) (F0 m 16 ls []) := by
      intro nf
      induction nf with
      | zero => intro k z4 z6 hm; exact absurd hm (Nat.not_lt_zero _)
      | succ nf ih_16 =>
        intro k z4 z6 hm_16 hk16 hz4 hz6 H locs ls hP hD hS hl
        refine lv_iload hx hb dX2_determinant_16 (lv_at hl 6 rfl) ?_
        refine lv_iload_n hx hb dX2_determinant_18 rfl (lv_at hl 1 rfl) ?_
        refine xn_ge (tgt := 87) hx hb dX2_determinant_19 (by decide) (by omega) (by omega) (fun c_19_1 => ?_) (fun c_19_1 => ?_)
        · skip
          refine lv_lload hx hb dX2_determinant_87 (lv_at hl 4 rfl) ?_
          exact xr_l (v := z4) hx hb hr hlocks hK hS dX2_determinant_89 (I, L, A, Q, G, J) ⟨(by rw [lpD, if_neg (by omega), hz4, show s9 = k by omega]), rfl⟩ hP hD
        · skip
          refine lv_iload_n hx hb dX2_determinant_22 rfl (lv_at hl 3 rfl) ?_
          refine lv_iload hx hb dX2_determinant_23 (lv_at hl 6 rfl) ?_
          refine lv_ishr hx hb dX2_determinant_25 ?_
          refine lv_iconst (v := nI 1) hx hb dX2_determinant_26 (by decide) ?_
          refine lv_iand hx hb dX2_determinant_27 ?_
          refine lv_if_ne (tgt := 34) hx hb dX2_determinant_28 (by decide) (fun c_28_2 => ?_) (fun c_28_2 => ?_)
          · skip
            have hbit : ¬ bt1 x k = nI 0 := c_28_2
            refine lv_aload_n hx hb dX2_determinant_34 rfl (lv_at hl 0 rfl) ?_
            refine lv_iload_n hx hb dX2_determinant_35 rfl (lv_at hl 2 rfl) ?_
            refine xa_aald (b := h 183) hx hb hK hP 0 4 rfl rfl rfl (by omega) (by decide) (if_pos (by omega)) dX2_determinant_36 ?_
            refine lv_iload hx hb dX2_determinant_37 (lv_at hl 6 rfl) ?_
            refine xa_lald hx hb hK hP 3 1 rfl rfl (by omega) (by decide) dX2_determinant_39 ?_
            refine lv_lconst (v := 0) hx hb dX2_determinant_40 rfl ?_
            refine xl_eq (tgt := 76) hx hb dX2_determinant_41 dX2_determinant_42 (by decide) (fun c_41_3 => ?_) (fun c_41_3 => ?_)
            · skip
              have hwk : J 0 2 k = 0 := c_41_3
              refine lv_lload hx hb dX2_determinant_76 (lv_at hl 5 rfl) ?_
              refine lv_lneg hx hb dX2_determinant_78 ?_
              refine lv_lstore (lv' := [(6, .long (-z6)), (0, .ref (h 180)), (1, .int (nI s9)), (2, .int (nI 2)), (3, .int x), (4, .long z4), (8, .int (nI k))]) hx hb dX2_determinant_79 hl (by decide) rfl (fun ls hl => ?_)
              refine lv_iinc (v := nI (k + 1)) (lv' := [(8, .int (nI (k + 1))), (6, .long (-z6)), (0, .ref (h 180)), (1, .int (nI s9)), (2, .int (nI 2)), (3, .int x), (4, .long z4)]) hx hb dX2_determinant_81 hl (k := 6) rfl (nI_1 _) (by decide) rfl (fun ls hl => ?_)
              refine lv_goto (tgt := 16) hx hb dX2_determinant_84 (by decide) ?_
              exact ih_16 (k + 1) z4 (-z6) (by omega) (by first | assumption | omega) (by first | rfl | (rw [lp_b hbit]; exact hz4) | (rw [lp_1 hbit, if_pos hwk]; exact hz4) | (rw [lp_1 hbit, if_neg hwk, ← hz4, ← hz6])) (by first | rfl | (rw [lp_b hbit]; exact hz6) | (rw [lp_2 hbit, ← hz6])) _ _ _ hP hD hS (lv_sub hl [2, 3, 4, 5, 6, 1, 0] rfl)
            · skip
              have hwk : ¬ J 0 2 k = 0 := c_41_3
              refine lv_lload hx hb dX2_determinant_45 (lv_at hl 4 rfl) ?_
              refine lv_lload hx hb dX2_determinant_47 (lv_at hl 5 rfl) ?_
              refine lv_aload_n hx hb dX2_determinant_49 rfl (lv_at hl 0 rfl) ?_
              refine lv_iload_n hx hb dX2_determinant_50 rfl (lv_at hl 2 rfl) ?_
              refine xa_aald (b := h 183) hx hb hK hP 0 4 rfl rfl rfl (by omega) (by decide) (if_pos (by omega)) dX2_determinant_51 ?_
              refine lv_iload hx hb dX2_determinant_52 (lv_at hl 6 rfl) ?_
              refine xa_lald hx hb hK hP 3 1 rfl rfl (by omega) (by decide) dX2_determinant_54 ?_
              refine lv_lmul hx hb dX2_determinant_55 ?_
              refine lv_aload_n hx hb dX2_determinant_56 rfl (lv_at hl 0 rfl) ?_
              refine lv_iload_n hx hb dX2_determinant_57 rfl (lv_at hl 1 rfl) ?_
              refine lv_iload_n hx hb dX2_determinant_58 rfl (lv_at hl 2 rfl) ?_
              refine lv_iconst (v := nI 1) hx hb dX2_determinant_59 (by decide) ?_
              refine lv_iadd hx hb dX2_determinant_60 ?_
              refine xt_i (y := nI 3) (by decide +kernel) ?_
              refine lv_iload_n hx hb dX2_determinant_61 rfl (lv_at hl 3 rfl) ?_
              refine lv_iconst (v := nI 1) hx hb dX2_determinant_62 (by decide) ?_
              refine lv_iload hx hb dX2_determinant_63 (lv_at hl 6 rfl) ?_
              refine lv_ishl hx hb dX2_determinant_65 ?_
              refine lv_iconst (v := (-1)) hx hb dX2_determinant_66 (by decide) ?_
              refine lv_ixor hx hb dX2_determinant_67 ?_
              refine lv_iand hx hb dX2_determinant_68 ?_
              refine xj_l (wc := (wSq h cs I L A Q G J)) (wr := ([] : va_W)) hP hD hS hA [0, 1, 2, 3, 4] [] rfl rfl (by decide +kernel) (by decide +kernel) (va_runS (As := [.ref (h 180), .int (nI s9), .int (nI 3), .int (x &&& (((nI 1) <<< ((nI k) &&& 31)) ^^^ (-1)))]) (rest := [.long (z6 * (((J 0) 2) k)), .long z4]) ⟨hx, hb, hml, hown, hts⟩ (k_det_3 l dC dI h cs H.size I L A Q G J s9 (x &&& (((nI 1) <<< ((nI k) &&& 31)) ^^^ (-1))) (by first | assumption | omega | exact hs4)) (va_cwS 4 hts gX2_determinant_X2_determinant rfl rfl rfl (by decide +kernel) ⟨Nat.le_of_ble_eq_true rfl, Nat.le_of_ble_eq_true rfl⟩) (xpS (wc := (wSq h cs I L A Q G J)) hP hD hK hN [0, 1, 2, 3, 4] rfl (by decide) _) rfl rfl hl.1 rfl (lv_room (Nat.le_of_ble_eq_true rfl)) dX2_determinant_69 ⟨Nat.zero_le _, Nat.zero_le _⟩) (fun r_6 u_5 H locs hw hP hD hS => ?_)
              obtain ⟨hf_7, rfl⟩ := hw
              have hP : va_P (dC, dI) vwCl (wSq h cs I L A Q G J) H := hP
              have hD : va_D A0 (wSq h cs I L A Q G J) := hD
              obtain rfl := hf_7
              refine lv_lmul hx hb dX2_determinant_72 ?_
              refine lv_ladd hx hb dX2_determinant_73 ?_
              refine lv_lstore (lv' := [(4, .long (z4 + ((z6 * (((J 0) 2) k)) * ((lpD (J 0) s9 1 3) (x &&& (((nI 1) <<< ((nI k) &&& 31)) ^^^ (-1))))))), (0, .ref (h 180)), (1, .int (nI s9)), (2, .int (nI 2)), (3, .int x), (6, .long z6), (8, .int (nI k))]) hx hb dX2_determinant_74 hl (by decide) rfl (fun ls hl => ?_)
              refine lv_lload hx hb dX2_determinant_76 (lv_at hl 5 rfl) ?_
              refine lv_lneg hx hb dX2_determinant_78 ?_
              refine lv_lstore (lv' := [(6, .long (-z6)), (4, .long (z4 + ((z6 * (((J 0) 2) k)) * ((lpD (J 0) s9 1 3) (x &&& (((nI 1) <<< ((nI k) &&& 31)) ^^^ (-1))))))), (0, .ref (h 180)), (1, .int (nI s9)), (2, .int (nI 2)), (3, .int x), (8, .int (nI k))]) hx hb dX2_determinant_79 hl (by decide) rfl (fun ls hl => ?_)
              refine lv_iinc (v := nI (k + 1)) (lv' := [(8, .int (nI (k + 1))), (6, .long (-z6)), (4, .long (z4 + ((z6 * (((J 0) 2) k)) * ((lpD (J 0) s9 1 3) (x &&& (((nI 1) <<< ((nI k) &&& 31)) ^^^ (-1))))))), (0, .ref (h 180)), (1, .int (nI s9)), (2, .int (nI 2)), (3, .int x)]) hx hb dX2_determinant_81 hl (k := 6) rfl (nI_1 _) (by decide) rfl (fun ls hl => ?_)
              refine lv_goto (tgt := 16) hx hb dX2_determinant_84 (by decide) ?_
              exact ih_16 (k + 1) (z4 + ((z6 * (((J 0) 2) k)) * ((lpD (J 0) s9 1 3) (x &&& (((nI 1) <<< ((nI k) &&& 31)) ^^^ (-1)))))) (-z6) (by omega) (by first | assumption | omega) (by first | rfl | (rw [lp_b hbit]; exact hz4) | (rw [lp_1 hbit, if_pos hwk]; exact hz4) | (rw [lp_1 hbit, if_neg hwk, ← hz4, ← hz6])) (by first | rfl | (rw [lp_b hbit]; exact hz6) | (rw [lp_2 hbit, ← hz6])) _ _ _ hP hD hS (lv_sub hl [3, 4, 5, 6, 2, 1, 0] rfl)
          · skip
            have hbit : bt1 x k = nI 0 := c_28_2
            refine lv_goto (tgt := 81) hx hb dX2_determinant_31 (by decide) ?_
            refine lv_iinc (v := nI (k + 1)) (lv' := [(8, .int (nI (k + 1))), (0, .ref (h 180)), (1, .int (nI s9)), (2, .int (nI 2)), (3, .int x), (4, .long z4), (6, .long z6)]) hx hb dX2_determinant_81 hl (k := 6) rfl (nI_1 _) (by decide) rfl (fun ls hl => ?_)
            refine lv_goto (tgt := 16) hx hb dX2_determinant_84 (by decide) ?_
            exact ih_16 (k + 1) z4 z6 (by omega) (by first | assumption | omega) (by first | rfl | (rw [lp_b hbit]; exact hz4) | (rw [lp_1 hbit, if_pos hwk]; exact hz4) | (rw [lp_1 hbit, if_neg hwk, ← hz4, ← hz6])) (by first | rfl | (rw [lp_b hbit]; exact hz6) | (rw [lp_2 hbit, ← hz6])) _ _ _ hP hD hS (lv_sub hl [1, 2, 3, 4, 5, 6, 0] rfl)
    exact cut_16 _ 0 (0 : Int64) (1 : Int64) (Nat.lt_succ_self _) (by first | assumption | omega) (by first | rfl | (rw [lp_b hbit]; exact hz4) | (rw [lp_1 hbit, if_pos hwk]; exact hz4) | (rw [lp_1 hbit, if_neg hwk, ← hz4, ← hz6])) (by first | rfl | (rw [lp_b hbit]; exact hz6) | (rw [lp_2 hbit, ← hz6])) _ _ _ hP hD hS (lv_sub hl [3, 4, 5, 6, 2, 1, 0] rfl)
  · skip
    refine lv_lconst (v := 1) hx hb dX2_determinant_5 rfl ?_
    exact xr_l (v := (1 : Int64)) hx hb hr hlocks hK hS dX2_determinant_6 (I, L, A, Q, G, J) ⟨(by rw [lpD, if_pos (by omega)]), rfl⟩ hP hD
set_option maxHeartbeats 4000000 in
set_option maxRecDepth 100000 in
theorem k_det_1 (l : Launch) (dC : Nat → ClassId) (dI : Nat → Nat → Nat) (h : Nat → Nat) (cs : Nat → ClassId) (sz : Nat) (I : Nat → Int32) (L : Nat → Int64) (A : Nat → Nat → Int32) (Q : Nat → Nat → Int64) (G : Nat → Nat → Nat → Int32) (J : Nat → Nat → Nat → Int64) (s9 : Nat) (x : Int32) (hs4 : s9 ≤ 4) : Met l yX2_determinant wsX2_determinant ({ frames := 3, cells := 0, slots := 0, locals := 84 }) (va_Pc [.ref (h 180), .int (nI s9), .int (nI 1), .int x] (xPre (dC, dI) (wSq h cs I L A Q G J) (tysA cs) sz)) (va_Ql (fun (r : Int64) (u : CS) => (r = lpD (J 0) s9 3 1 x) ∧ u = (I, L, A, Q, G, J)) (xB (dC, dI) (tysA cs) (va_A (wSq h cs I L A Q G J) sz) (fun u : CS => wSq h cs u.1 u.2.1 u.2.2.1 u.2.2.2.1 u.2.2.2.2.1 u.2.2.2.2.2)) (va_A (wSq h cs I L A Q G J) sz)) 0 0 (va_A (wSq h cs I L A Q G J) sz) := by
  refine Met.ofW (cc := cX2_determinant) (maxL := 9) (ret := (some .long)) (by decide) rfl ?_
  intro p e s m args below meth c s₁ B hml hv
  obtain ⟨rfl, hsz, hP, hK, hD0, hN⟩ := hv
  have hx := B.exec
  have hb := B.bytes
  have hr := B.returns
  have hts := atoms_spec (ws := wsX2_determinant) B.pre
  have hown : s.vm.findClass RX2 = some m.cls := findClass_of_methodNamed B.named
  have hlocks := B.notSynchronized
  subst hsz
  have hD := hD0.self (sz := s.heap.size)
  generalize hAe : va_A (wSq h cs I L A Q G J) s.heap.size = A0 at hD ⊢
  have hA : ∀ q : Nat, s.heap.size ≤ q → A0 q := fun q h => by rw [← hAe]; exact Or.inr h
  have hl := lv_entry ([.ref (h 180), .int (nI s9), .int (nI 1), .int x]) (n := 9) (Nat.le_of_ble_eq_true rfl)
  rw [lg_entry_eq]
  generalize (lg_sl ([.ref (h 180), .int (nI s9), .int (nI 1), .int x]) ++ List.replicate (9 - (lg_sl ([.ref (h 180), .int (nI s9), .int (nI 1), .int x])).length) Slot.unset).toArray = ls at hl ⊢
  have hl : lv_has ls 9 [(0, .ref (h 180)), (1, .int (nI s9)), (2, .int (nI 1)), (3, .int x)] := hl
  generalize hH : s.heap = H at hP ⊢
  have hS : va_S A0 s.heap H [] := by rw [← hH]; exact va_S.rf
  refine lv_iload_n hx hb dX2_determinant_0 rfl (lv_at hl 2 rfl) ?_
  refine lv_iload_n hx hb dX2_determinant_1 rfl (lv_at hl 1 rfl) ?_
  refine xn_lt (tgt := 7) hx hb dX2_determinant_2 (by decide) (by omega) (by omega) (fun c_2_0 => ?_) (fun c_2_0 => ?_)
  · skip
    refine lv_lconst (v := 0) hx hb dX2_determinant_7 rfl ?_
    refine lv_lstore (lv' := [(4, .long (0 : Int64)), (0, .ref (h 180)), (1, .int (nI s9)), (2, .int (nI 1)), (3, .int x)]) hx hb dX2_determinant_8 hl (by decide) rfl (fun ls hl => ?_)
    refine lv_lconst (v := 1) hx hb dX2_determinant_10 rfl ?_
    refine lv_lstore (lv' := [(6, .long (1 : Int64)), (4, .long (0 : Int64)), (0, .ref (h 180)), (1, .int (nI s9)), (2, .int (nI 1)), (3, .int x)]) hx hb dX2_determinant_11 hl (by decide) rfl (fun ls hl => ?_)
    refine lv_iconst (v := nI 0) hx hb dX2_determinant_13 (by decide) ?_
    refine lv_istore (lv' := [(8, .int (nI 0)), (6, .long (1 : Int64)), (4, .long (0 : Int64)), (0, .ref (h 180)), (1, .int (nI s9)), (2, .int (nI 1)), (3, .int x)]) hx hb dX2_determinant_14 hl (by decide) rfl (fun ls hl => ?_)
    have cut_16 : ∀ (nf : Nat) (k : Nat) (z4 : Int64) (z6 : Int64), (s9 - k) < nf → (k ≤ s9) → (z4 = (lpS (lpD (J 0) s9 2 2) (J 0 1) x k).1) → (z6 = (lpS (lpD (J 0) s9 2 2) (J 0 1) x k).2) → ∀ (H : Heap) (locs : List Loc) (ls : Array Slot), va_P (dC, dI) vwCl (wSq h cs I L A Q G J) H → va_D A0 (wSq h cs I L A Q G J) → va_S A0 s.heap H locs → lv_has ls 9 [(0, .ref (h 180)), (1, .int (nI s9)), (2, .int (nI 1)), (3, .int x), (4, .long z4), (6, .long z6), (8, .int (nI k))] → W p l e (headSpec wsX2_determinant ({ frames := 3, cells := 0, slots := 0, locals := 84 })).room s m ([.ref (h 180), .int (nI s9), .int (nI 1), .int x] : List Value).toArray below meth c H locs 0 0 (MQ below (va_Ql (fun (r : Int64) (u : CS) => (r = lpD (J 0) s9 3 1 x) ∧ u = (I, L, A, Q, G, J)) (xB (dC, dI) (tysA cs) A0 (fun u : CS => wSq h cs u.1 u.2.1 u.2.2.1 u.2.2.2.1 u.2.2.2.2.1 u.2.2.2.2.2)) A0) ([.ref (h 180), .int (nI s9), .int (nI 1), .int x] : List Value).toArray s 0 0 A0) (F0 m 16 ls []) := by
      intro nf
      induction nf with
      | zero => intro k z4 z6 hm; exact absurd hm (Nat.not_lt_zero _)
      | succ nf ih_16 =>
        intro k z4 z6 hm_16 hk16 hz4 hz6 H locs ls hP hD hS hl
        refine lv_iload hx hb dX2_determinant_16 (lv_at hl 6 rfl) ?_
        refine lv_iload_n hx hb dX2_determinant_18 rfl (lv_at hl 1 rfl) ?_
        refine xn_ge (tgt := 87) hx hb dX2_determinant_19 (by decide) (by omega) (by omega) (fun c_19_1 => ?_) (fun c_19_1 => ?_)
        · skip
          refine lv_lload hx hb dX2_determinant_87 (lv_at hl 4 rfl) ?_
          exact xr_l (v := z4) hx hb hr hlocks hK hS dX2_determinant_89 (I, L, A, Q, G, J) ⟨(by rw [lpD, if_neg (by omega), hz4, show s9 = k by omega]), rfl⟩ hP hD
        · skip
          refine lv_iload_n hx hb dX2_determinant_22 rfl (lv_at hl 3 rfl) ?_
          refine lv_iload hx hb dX2_determinant_23 (lv_at hl 6 rfl) ?_
          refine lv_ishr hx hb dX2_determinant_25 ?_
          refine lv_iconst (v := nI 1) hx hb dX2_determinant_26 (by decide) ?_
          refine lv_iand hx hb dX2_determinant_27 ?_
          refine lv_if_ne (tgt := 34) hx hb dX2_determinant_28 (by decide) (fun c_28_2 => ?_) (fun c_28_2 => ?_)
          · skip
            have hbit : ¬ bt1 x k = nI 0 := c_28_2
            refine lv_aload_n hx hb dX2_determinant_34 rfl (lv_at hl 0 rfl) ?_
            refine lv_iload_n hx hb dX2_determinant_35 rfl (lv_at hl 2 rfl) ?_
            refine xa_aald (b := h 182) hx hb hK hP 0 4 rfl rfl rfl (by omega) (by decide) (if_pos (by omega)) dX2_determinant_36 ?_
            refine lv_iload hx hb dX2_determinant_37 (lv_at hl 6 rfl) ?_
            refine xa_lald hx hb hK hP 2 1 rfl rfl (by omega) (by decide) dX2_determinant_39 ?_
            refine lv_lconst (v := 0) hx hb dX2_determinant_40 rfl ?_
            refine xl_eq (tgt := 76) hx hb dX2_determinant_41 dX2_determinant_42 (by decide) (fun c_41_3 => ?_) (fun c_41_3 => ?_)
            · skip
              have hwk : J 0 1 k = 0 := c_41_3
              refine lv_lload hx hb dX2_determinant_76 (lv_at hl 5 rfl) ?_
              refine lv_lneg hx hb dX2_determinant_78 ?_
              refine lv_lstore (lv' := [(6, .long (-z6)), (0, .ref (h 180)), (1, .int (nI s9)), (2, .int (nI 1)), (3, .int x), (4, .long z4), (8, .int (nI k))]) hx hb dX2_determinant_79 hl (by decide) rfl (fun ls hl => ?_)
              refine lv_iinc (v := nI (k + 1)) (lv' := [(8, .int (nI (k + 1))), (6, .long (-z6)), (0, .ref (h 180)), (1, .int (nI s9)), (2, .int (nI 1)), (3, .int x), (4, .long z4)]) hx hb dX2_determinant_81 hl (k := 6) rfl (nI_1 _) (by decide) rfl (fun ls hl => ?_)
              refine lv_goto (tgt := 16) hx hb dX2_determinant_84 (by decide) ?_
              exact ih_16 (k + 1) z4 (-z6) (by omega) (by first | assumption | omega) (by first | rfl | (rw [lp_b hbit]; exact hz4) | (rw [lp_1 hbit, if_pos hwk]; exact hz4) | (rw [lp_1 hbit, if_neg hwk, ← hz4, ← hz6])) (by first | rfl | (rw [lp_b hbit]; exact hz6) | (rw [lp_2 hbit, ← hz6])) _ _ _ hP hD hS (lv_sub hl [2, 3, 4, 5, 6, 1, 0] rfl)
            · skip
              have hwk : ¬ J 0 1 k = 0 := c_41_3
              refine lv_lload hx hb dX2_determinant_45 (lv_at hl 4 rfl) ?_
              refine lv_lload hx hb dX2_determinant_47 (lv_at hl 5 rfl) ?_
              refine lv_aload_n hx hb dX2_determinant_49 rfl (lv_at hl 0 rfl) ?_
              refine lv_iload_n hx hb dX2_determinant_50 rfl (lv_at hl 2 rfl) ?_
              refine xa_aald (b := h 182) hx hb hK hP 0 4 rfl rfl rfl (by omega) (by decide) (if_pos (by omega)) dX2_determinant_51 ?_
              refine lv_iload hx hb dX2_determinant_52 (lv_at hl 6 rfl) ?_
              refine xa_lald hx hb hK hP 2 1 rfl rfl (by omega) (by decide) dX2_determinant_54 ?_
              refine lv_lmul hx hb dX2_determinant_55 ?_
              refine lv_aload_n hx hb dX2_determinant_56 rfl (lv_at hl 0 rfl) ?_
              refine lv_iload_n hx hb dX2_determinant_57 rfl (lv_at hl 1 rfl) ?_
              refine lv_iload_n hx hb dX2_determinant_58 rfl (lv_at hl 2 rfl) ?_
              refine lv_iconst (v := nI 1) hx hb dX2_determinant_59 (by decide) ?_
              refine lv_iadd hx hb dX2_determinant_60 ?_
              refine xt_i (y := nI 2) (by decide +kernel) ?_
              refine lv_iload_n hx hb dX2_determinant_61 rfl (lv_at hl 3 rfl) ?_
              refine lv_iconst (v := nI 1) hx hb dX2_determinant_62 (by decide) ?_
              refine lv_iload hx hb dX2_determinant_63 (lv_at hl 6 rfl) ?_
              refine lv_ishl hx hb dX2_determinant_65 ?_
              refine lv_iconst (v := (-1)) hx hb dX2_determinant_66 (by decide) ?_
              refine lv_ixor hx hb dX2_determinant_67 ?_
              refine lv_iand hx hb dX2_determinant_68 ?_
              refine xj_l (wc := (wSq h cs I L A Q G J)) (wr := ([] : va_W)) hP hD hS hA [0, 1, 2, 3, 4] [] rfl rfl (by decide +kernel) (by decide +kernel) (va_runS (As := [.ref (h 180), .int (nI s9), .int (nI 2), .int (x &&& (((nI 1) <<< ((nI k) &&& 31)) ^^^ (-1)))]) (rest := [.long (z6 * (((J 0) 1) k)), .long z4]) ⟨hx, hb, hml, hown, hts⟩ (k_det_2 l dC dI h cs H.size I L A Q G J s9 (x &&& (((nI 1) <<< ((nI k) &&& 31)) ^^^ (-1))) (by first | assumption | omega | exact hs4)) (va_cwS 4 hts gX2_determinant_X2_determinant rfl rfl rfl (by decide +kernel) ⟨Nat.le_of_ble_eq_true rfl, Nat.le_of_ble_eq_true rfl⟩) (xpS (wc := (wSq h cs I L A Q G J)) hP hD hK hN [0, 1, 2, 3, 4] rfl (by decide) _) rfl rfl hl.1 rfl (lv_room (Nat.le_of_ble_eq_true rfl)) dX2_determinant_69 ⟨Nat.zero_le _, Nat.zero_le _⟩) (fun r_6 u_5 H locs hw hP hD hS => ?_)
              obtain ⟨hf_7, rfl⟩ := hw
              have hP : va_P (dC, dI) vwCl (wSq h cs I L A Q G J) H := hP
              have hD : va_D A0 (wSq h cs I L A Q G J) := hD
              obtain rfl := hf_7
              refine lv_lmul hx hb dX2_determinant_72 ?_
              refine lv_ladd hx hb dX2_determinant_73 ?_
              refine lv_lstore (lv' := [(4, .long (z4 + ((z6 * (((J 0) 1) k)) * ((lpD (J 0) s9 2 2) (x &&& (((nI 1) <<< ((nI k) &&& 31)) ^^^ (-1))))))), (0, .ref (h 180)), (1, .int (nI s9)), (2, .int (nI 1)), (3, .int x), (6, .long z6), (8, .int (nI k))]) hx hb dX2_determinant_74 hl (by decide) rfl (fun ls hl => ?_)
              refine lv_lload hx hb dX2_determinant_76 (lv_at hl 5 rfl) ?_
              refine lv_lneg hx hb dX2_determinant_78 ?_
              refine lv_lstore (lv' := [(6, .long (-z6)), (4, .long (z4 + ((z6 * (((J 0) 1) k)) * ((lpD (J 0) s9 2 2) (x &&& (((nI 1) <<< ((nI k) &&& 31)) ^^^ (-1))))))), (0, .ref (h 180)), (1, .int (nI s9)), (2, .int (nI 1)), (3, .int x), (8, .int (nI k))]) hx hb dX2_determinant_79 hl (by decide) rfl (fun ls hl => ?_)
              refine lv_iinc (v := nI (k + 1)) (lv' := [(8, .int (nI (k + 1))), (6, .long (-z6)), (4, .long (z4 + ((z6 * (((J 0) 1) k)) * ((lpD (J 0) s9 2 2) (x &&& (((nI 1) <<< ((nI k) &&& 31)) ^^^ (-1))))))), (0, .ref (h 180)), (1, .int (nI s9)), (2, .int (nI 1)), (3, .int x)]) hx hb dX2_determinant_81 hl (k := 6) rfl (nI_1 _) (by decide) rfl (fun ls hl => ?_)
              refine lv_goto (tgt := 16) hx hb dX2_determinant_84 (by decide) ?_
              exact ih_16 (k + 1) (z4 + ((z6 * (((J 0) 1) k)) * ((lpD (J 0) s9 2 2) (x &&& (((nI 1) <<< ((nI k) &&& 31)) ^^^ (-1)))))) (-z6) (by omega) (by first | assumption | omega) (by first | rfl | (rw [lp_b hbit]; exact hz4) | (rw [lp_1 hbit, if_pos hwk]; exact hz4) | (rw [lp_1 hbit, if_neg hwk, ← hz4, ← hz6])) (by first | rfl | (rw [lp_b hbit]; exact hz6) | (rw [lp_2 hbit, ← hz6])) _ _ _ hP hD hS (lv_sub hl [3, 4, 5, 6, 2, 1, 0] rfl)
          · skip
            have hbit : bt1 x k = nI 0 := c_28_2
            refine lv_goto (tgt := 81) hx hb dX2_determinant_31 (by decide) ?_
            refine lv_iinc (v := nI (k + 1)) (lv' := [(8, .int (nI (k + 1))), (0, .ref (h 180)), (1, .int (nI s9)), (2, .int (nI 1)), (3, .int x), (4, .long z4), (6, .long z6)]) hx hb dX2_determinant_81 hl (k := 6) rfl (nI_1 _) (by decide) rfl (fun ls hl => ?_)
            refine lv_goto (tgt := 16) hx hb dX2_determinant_84 (by decide) ?_
            exact ih_16 (k + 1) z4 z6 (by omega) (by first | assumption | omega) (by first | rfl | (rw [lp_b hbit]; exact hz4) | (rw [lp_1 hbit, if_pos hwk]; exact hz4) | (rw [lp_1 hbit, if_neg hwk, ← hz4, ← hz6])) (by first | rfl | (rw [lp_b hbit]; exact hz6) | (rw [lp_2 hbit, ← hz6])) _ _ _ hP hD hS (lv_sub hl [1, 2, 3, 4, 5, 6, 0] rfl)
    exact cut_16 _ 0 (0 : Int64) (1 : Int64) (Nat.lt_succ_self _) (by first | assumption | omega) (by first | rfl | (rw [lp_b hbit]; exact hz4) | (rw [lp_1 hbit, if_pos hwk]; exact hz4) | (rw [lp_1 hbit, if_neg hwk, ← hz4, ← hz6])) (by first | rfl | (rw [lp_b hbit]; exact hz6) | (rw [lp_2 hbit, ← hz6])) _ _ _ hP hD hS (lv_sub hl [3, 4, 5, 6, 2, 1, 0] rfl)
  · skip
    refine lv_lconst (v := 1) hx hb dX2_determinant_5 rfl ?_
    exact xr_l (v := (1 : Int64)) hx hb hr hlocks hK hS dX2_determinant_6 (I, L, A, Q, G, J) ⟨(by rw [lpD, if_pos (by omega)]), rfl⟩ hP hD
set_option maxHeartbeats 4000000 in
set_option maxRecDepth 100000 in
theorem k_det_0 (l : Launch) (dC : Nat → ClassId) (dI : Nat → Nat → Nat) (h : Nat → Nat) (cs : Nat → ClassId) (sz : Nat) (I : Nat → Int32) (L : Nat → Int64) (A : Nat → Nat → Int32) (Q : Nat → Nat → Int64) (G : Nat → Nat → Nat → Int32) (J : Nat → Nat → Nat → Int64) (s9 : Nat) (x : Int32) (hs4 : s9 ≤ 4) : Met l yX2_determinant wsX2_determinant ({ frames := 4, cells := 0, slots := 0, locals := 112 }) (va_Pc [.ref (h 180), .int (nI s9), .int (nI 0), .int x] (xPre (dC, dI) (wSq h cs I L A Q G J) (tysA cs) sz)) (va_Ql (fun (r : Int64) (u : CS) => (r = lpD (J 0) s9 4 0 x) ∧ u = (I, L, A, Q, G, J)) (xB (dC, dI) (tysA cs) (va_A (wSq h cs I L A Q G J) sz) (fun u : CS => wSq h cs u.1 u.2.1 u.2.2.1 u.2.2.2.1 u.2.2.2.2.1 u.2.2.2.2.2)) (va_A (wSq h cs I L A Q G J) sz)) 0 0 (va_A (wSq h cs I L A Q G J) sz) := by
  refine Met.ofW (cc := cX2_determinant) (maxL := 9) (ret := (some .long)) (by decide) rfl ?_
  intro p e s m args below meth c s₁ B hml hv
  obtain ⟨rfl, hsz, hP, hK, hD0, hN⟩ := hv
  have hx := B.exec
  have hb := B.bytes
  have hr := B.returns
  have hts := atoms_spec (ws := wsX2_determinant) B.pre
  have hown : s.vm.findClass RX2 = some m.cls := findClass_of_methodNamed B.named
  have hlocks := B.notSynchronized
  subst hsz
  have hD := hD0.self (sz := s.heap.size)
  generalize hAe : va_A (wSq h cs I L A Q G J) s.heap.size = A0 at hD ⊢
  have hA : ∀ q : Nat, s.heap.size ≤ q → A0 q := fun q h => by rw [← hAe]; exact Or.inr h
  have hl := lv_entry ([.ref (h 180), .int (nI s9), .int (nI 0), .int x]) (n := 9) (Nat.le_of_ble_eq_true rfl)
  rw [lg_entry_eq]
  generalize (lg_sl ([.ref (h 180), .int (nI s9), .int (nI 0), .int x]) ++ List.replicate (9 - (lg_sl ([.ref (h 180), .int (nI s9), .int (nI 0), .int x])).length) Slot.unset).toArray = ls at hl ⊢
  have hl : lv_has ls 9 [(0, .ref (h 180)), (1, .int (nI s9)), (2, .int (nI 0)), (3, .int x)] := hl
  generalize hH : s.heap = H at hP ⊢
  have hS : va_S A0 s.heap H [] := by rw [← hH]; exact va_S.rf
  refine lv_iload_n hx hb dX2_determinant_0 rfl (lv_at hl 2 rfl) ?_
  refine lv_iload_n hx hb dX2_determinant_1 rfl (lv_at hl 1 rfl) ?_
  refine xn_lt (tgt := 7) hx hb dX2_determinant_2 (by decide) (by omega) (by omega) (fun c_2_0 => ?_) (fun c_2_0 => ?_)
  · skip
    refine lv_lconst (v := 0) hx hb dX2_determinant_7 rfl ?_
    refine lv_lstore (lv' := [(4, .long (0 : Int64)), (0, .ref (h 180)), (1, .int (nI s9)), (2, .int (nI 0)), (3, .int x)]) hx hb dX2_determinant_8 hl (by decide) rfl (fun ls hl => ?_)
    refine lv_lconst (v := 1) hx hb dX2_determinant_10 rfl ?_
    refine lv_lstore (lv' := [(6, .long (1 : Int64)), (4, .long (0 : Int64)), (0, .ref (h 180)), (1, .int (nI s9)), (2, .int (nI 0)), (3, .int x)]) hx hb dX2_determinant_11 hl (by decide) rfl (fun ls hl => ?_)
    refine lv_iconst (v := nI 0) hx hb dX2_determinant_13 (by decide) ?_
    refine lv_istore (lv' := [(8, .int (nI 0)), (6, .long (1 : Int64)), (4, .long (0 : Int64)), (0, .ref (h 180)), (1, .int (nI s9)), (2, .int (nI 0)), (3, .int x)]) hx hb dX2_determinant_14 hl (by decide) rfl (fun ls hl => ?_)
    have cut_16 : ∀ (nf : Nat) (k : Nat) (z4 : Int64) (z6 : Int64), (s9 - k) < nf → (k ≤ s9) → (z4 = (lpS (lpD (J 0) s9 3 1) (J 0 0) x k).1) → (z6 = (lpS (lpD (J 0) s9 3 1) (J 0 0) x k).2) → ∀ (H : Heap) (locs : List Loc) (ls : Array Slot), va_P (dC, dI) vwCl (wSq h cs I L A Q G J) H → va_D A0 (wSq h cs I L A Q G J) → va_S A0 s.heap H locs → lv_has ls 9 [(0, .ref (h 180)), (1, .int (nI s9)), (2, .int (nI 0)), (3, .int x), (4, .long z4), (6, .long z6), (8, .int (nI k))] → W p l e (headSpec wsX2_determinant ({ frames := 4, cells := 0, slots := 0, locals := 112 })).room s m ([.ref (h 180), .int (nI s9), .int (nI 0), .int x] : List Value).toArray below meth c H locs 0 0 (MQ below (va_Ql (fun (r : Int64) (u : CS) => (r = lpD (J 0) s9 4 0 x) ∧ u = (I, L, A, Q, G, J)) (xB (dC, dI) (tysA cs) A0 (fun u : CS => wSq h cs u.1 u.2.1 u.2.2.1 u.2.2.2.1 u.2.2.2.2.1 u.2.2.2.2.2)) A0) ([.ref (h 180), .int (nI s9), .int (nI 0), .int x] : List Value).toArray s 0 0 A0) (F0 m 16 ls []) := by
      intro nf
      induction nf with
      | zero => intro k z4 z6 hm; exact absurd hm (Nat.not_lt_zero _)
      | succ nf ih_16 =>
        intro k z4 z6 hm_16 hk16 hz4 hz6 H locs ls hP hD hS hl
        refine lv_iload hx hb dX2_determinant_16 (lv_at hl 6 rfl) ?_
        refine lv_iload_n hx hb dX2_determinant_18 rfl (lv_at hl 1 rfl) ?_
        refine xn_ge (tgt := 87) hx hb dX2_determinant_19 (by decide) (by omega) (by omega) (fun c_19_1 => ?_) (fun c_19_1 => ?_)
        · skip
          refine lv_lload hx hb dX2_determinant_87 (lv_at hl 4 rfl) ?_
          exact xr_l (v := z4) hx hb hr hlocks hK hS dX2_determinant_89 (I, L, A, Q, G, J) ⟨(by rw [lpD, if_neg (by omega), hz4, show s9 = k by omega]), rfl⟩ hP hD
        · skip
          refine lv_iload_n hx hb dX2_determinant_22 rfl (lv_at hl 3 rfl) ?_
          refine lv_iload hx hb dX2_determinant_23 (lv_at hl 6 rfl) ?_
          refine lv_ishr hx hb dX2_determinant_25 ?_
          refine lv_iconst (v := nI 1) hx hb dX2_determinant_26 (by decide) ?_
          refine lv_iand hx hb dX2_determinant_27 ?_
          refine lv_if_ne (tgt := 34) hx hb dX2_determinant_28 (by decide) (fun c_28_2 => ?_) (fun c_28_2 => ?_)
          · skip
            have hbit : ¬ bt1 x k = nI 0 := c_28_2
            refine lv_aload_n hx hb dX2_determinant_34 rfl (lv_at hl 0 rfl) ?_
            refine lv_iload_n hx hb dX2_determinant_35 rfl (lv_at hl 2 rfl) ?_
            refine xa_aald (b := h 181) hx hb hK hP 0 4 rfl rfl rfl (by omega) (by decide) (if_pos (by omega)) dX2_determinant_36 ?_
            refine lv_iload hx hb dX2_determinant_37 (lv_at hl 6 rfl) ?_
            refine xa_lald hx hb hK hP 1 1 rfl rfl (by omega) (by decide) dX2_determinant_39 ?_
            refine lv_lconst (v := 0) hx hb dX2_determinant_40 rfl ?_
            refine xl_eq (tgt := 76) hx hb dX2_determinant_41 dX2_determinant_42 (by decide) (fun c_41_3 => ?_) (fun c_41_3 => ?_)
            · skip
              have hwk : J 0 0 k = 0 := c_41_3
              refine lv_lload hx hb dX2_determinant_76 (lv_at hl 5 rfl) ?_
              refine lv_lneg hx hb dX2_determinant_78 ?_
              refine lv_lstore (lv' := [(6, .long (-z6)), (0, .ref (h 180)), (1, .int (nI s9)), (2, .int (nI 0)), (3, .int x), (4, .long z4), (8, .int (nI k))]) hx hb dX2_determinant_79 hl (by decide) rfl (fun ls hl => ?_)
              refine lv_iinc (v := nI (k + 1)) (lv' := [(8, .int (nI (k + 1))), (6, .long (-z6)), (0, .ref (h 180)), (1, .int (nI s9)), (2, .int (nI 0)), (3, .int x), (4, .long z4)]) hx hb dX2_determinant_81 hl (k := 6) rfl (nI_1 _) (by decide) rfl (fun ls hl => ?_)
              refine lv_goto (tgt := 16) hx hb dX2_determinant_84 (by decide) ?_
              exact ih_16 (k + 1) z4 (-z6) (by omega) (by first | assumption | omega) (by first | rfl | (rw [lp_b hbit]; exact hz4) | (rw [lp_1 hbit, if_pos hwk]; exact hz4) | (rw [lp_1 hbit, if_neg hwk, ← hz4, ← hz6])) (by first | rfl | (rw [lp_b hbit]; exact hz6) | (rw [lp_2 hbit, ← hz6])) _ _ _ hP hD hS (lv_sub hl [2, 3, 4, 5, 6, 1, 0] rfl)
            · skip
              have hwk : ¬ J 0 0 k = 0 := c_41_3
              refine lv_lload hx hb dX2_determinant_45 (lv_at hl 4 rfl) ?_
              refine lv_lload hx hb dX2_determinant_47 (lv_at hl 5 rfl) ?_
              refine lv_aload_n hx hb dX2_determinant_49 rfl (lv_at hl 0 rfl) ?_
              refine lv_iload_n hx hb dX2_determinant_50 rfl (lv_at hl 2 rfl) ?_
              refine xa_aald (b := h 181) hx hb hK hP 0 4 rfl rfl rfl (by omega) (by decide) (if_pos (by omega)) dX2_determinant_51 ?_
              refine lv_iload hx hb dX2_determinant_52 (lv_at hl 6 rfl) ?_
              refine xa_lald hx hb hK hP 1 1 rfl rfl (by omega) (by decide) dX2_determinant_54 ?_
              refine lv_lmul hx hb dX2_determinant_55 ?_
              refine lv_aload_n hx hb dX2_determinant_56 rfl (lv_at hl 0 rfl) ?_
              refine lv_iload_n hx hb dX2_determinant_57 rfl (lv_at hl 1 rfl) ?_
              refine lv_iload_n hx hb dX2_determinant_58 rfl (lv_at hl 2 rfl) ?_
              refine lv_iconst (v := nI 1) hx hb dX2_determinant_59 (by decide) ?_
              refine lv_iadd hx hb dX2_determinant_60 ?_
              refine xt_i (y := nI 1) (by decide +kernel) ?_
              refine lv_iload_n hx hb dX2_determinant_61 rfl (lv_at hl 3 rfl) ?_
              refine lv_iconst (v := nI 1) hx hb dX2_determinant_62 (by decide) ?_
              refine lv_iload hx hb dX2_determinant_63 (lv_at hl 6 rfl) ?_
              refine lv_ishl hx hb dX2_determinant_65 ?_
              refine lv_iconst (v := (-1)) hx hb dX2_determinant_66 (by decide) ?_
              refine lv_ixor hx hb dX2_determinant_67 ?_
              refine lv_iand hx hb dX2_determinant_68 ?_
              refine xj_l (wc := (wSq h cs I L A Q G J)) (wr := ([] : va_W)) hP hD hS hA [0, 1, 2, 3, 4] [] rfl rfl (by decide +kernel) (by decide +kernel) (va_runS (As := [.ref (h 180), .int (nI s9), .int (nI 1), .int (x &&& (((nI 1) <<< ((nI k) &&& 31)) ^^^ (-1)))]) (rest := [.long (z6 * (((J 0) 0) k)), .long z4]) ⟨hx, hb, hml, hown, hts⟩ (k_det_1 l dC dI h cs H.size I L A Q G J s9 (x &&& (((nI 1) <<< ((nI k) &&& 31)) ^^^ (-1))) (by first | assumption | omega | exact hs4)) (va_cwS 4 hts gX2_determinant_X2_determinant rfl rfl rfl (by decide +kernel) ⟨Nat.le_of_ble_eq_true rfl, Nat.le_of_ble_eq_true rfl⟩) (xpS (wc := (wSq h cs I L A Q G J)) hP hD hK hN [0, 1, 2, 3, 4] rfl (by decide) _) rfl rfl hl.1 rfl (lv_room (Nat.le_of_ble_eq_true rfl)) dX2_determinant_69 ⟨Nat.zero_le _, Nat.zero_le _⟩) (fun r_6 u_5 H locs hw hP hD hS => ?_)
              obtain ⟨hf_7, rfl⟩ := hw
              have hP : va_P (dC, dI) vwCl (wSq h cs I L A Q G J) H := hP
              have hD : va_D A0 (wSq h cs I L A Q G J) := hD
              obtain rfl := hf_7
              refine lv_lmul hx hb dX2_determinant_72 ?_
              refine lv_ladd hx hb dX2_determinant_73 ?_
              refine lv_lstore (lv' := [(4, .long (z4 + ((z6 * (((J 0) 0) k)) * ((lpD (J 0) s9 3 1) (x &&& (((nI 1) <<< ((nI k) &&& 31)) ^^^ (-1))))))), (0, .ref (h 180)), (1, .int (nI s9)), (2, .int (nI 0)), (3, .int x), (6, .long z6), (8, .int (nI k))]) hx hb dX2_determinant_74 hl (by decide) rfl (fun ls hl => ?_)
              refine lv_lload hx hb dX2_determinant_76 (lv_at hl 5 rfl) ?_
              refine lv_lneg hx hb dX2_determinant_78 ?_
              refine lv_lstore (lv' := [(6, .long (-z6)), (4, .long (z4 + ((z6 * (((J 0) 0) k)) * ((lpD (J 0) s9 3 1) (x &&& (((nI 1) <<< ((nI k) &&& 31)) ^^^ (-1))))))), (0, .ref (h 180)), (1, .int (nI s9)), (2, .int (nI 0)), (3, .int x), (8, .int (nI k))]) hx hb dX2_determinant_79 hl (by decide) rfl (fun ls hl => ?_)
              refine lv_iinc (v := nI (k + 1)) (lv' := [(8, .int (nI (k + 1))), (6, .long (-z6)), (4, .long (z4 + ((z6 * (((J 0) 0) k)) * ((lpD (J 0) s9 3 1) (x &&& (((nI 1) <<< ((nI k) &&& 31)) ^^^ (-1))))))), (0, .ref (h 180)), (1, .int (nI s9)), (2, .int (nI 0)), (3, .int x)]) hx hb dX2_determinant_81 hl (k := 6) rfl (nI_1 _) (by decide) rfl (fun ls hl => ?_)
              refine lv_goto (tgt := 16) hx hb dX2_determinant_84 (by decide) ?_
              exact ih_16 (k + 1) (z4 + ((z6 * (((J 0) 0) k)) * ((lpD (J 0) s9 3 1) (x &&& (((nI 1) <<< ((nI k) &&& 31)) ^^^ (-1)))))) (-z6) (by omega) (by first | assumption | omega) (by first | rfl | (rw [lp_b hbit]; exact hz4) | (rw [lp_1 hbit, if_pos hwk]; exact hz4) | (rw [lp_1 hbit, if_neg hwk, ← hz4, ← hz6])) (by first | rfl | (rw [lp_b hbit]; exact hz6) | (rw [lp_2 hbit, ← hz6])) _ _ _ hP hD hS (lv_sub hl [3, 4, 5, 6, 2, 1, 0] rfl)
          · skip
            have hbit : bt1 x k = nI 0 := c_28_2
            refine lv_goto (tgt := 81) hx hb dX2_determinant_31 (by decide) ?_
            refine lv_iinc (v := nI (k + 1)) (lv' := [(8, .int (nI (k + 1))), (0, .ref (h 180)), (1, .int (nI s9)), (2, .int (nI 0)), (3, .int x), (4, .long z4), (6, .long z6)]) hx hb dX2_determinant_81 hl (k := 6) rfl (nI_1 _) (by decide) rfl (fun ls hl => ?_)
            refine lv_goto (tgt := 16) hx hb dX2_determinant_84 (by decide) ?_
            exact ih_16 (k + 1) z4 z6 (by omega) (by first | assumption | omega) (by first | rfl | (rw [lp_b hbit]; exact hz4) | (rw [lp_1 hbit, if_pos hwk]; exact hz4) | (rw [lp_1 hbit, if_neg hwk, ← hz4, ← hz6])) (by first | rfl | (rw [lp_b hbit]; exact hz6) | (rw [lp_2 hbit, ← hz6])) _ _ _ hP hD hS (lv_sub hl [1, 2, 3, 4, 5, 6, 0] rfl)
    exact cut_16 _ 0 (0 : Int64) (1 : Int64) (Nat.lt_succ_self _) (by first | assumption | omega) (by first | rfl | (rw [lp_b hbit]; exact hz4) | (rw [lp_1 hbit, if_pos hwk]; exact hz4) | (rw [lp_1 hbit, if_neg hwk, ← hz4, ← hz6])) (by first | rfl | (rw [lp_b hbit]; exact hz6) | (rw [lp_2 hbit, ← hz6])) _ _ _ hP hD hS (lv_sub hl [3, 4, 5, 6, 2, 1, 0] rfl)
  · skip
    refine lv_lconst (v := 1) hx hb dX2_determinant_5 rfl ?_
    exact xr_l (v := (1 : Int64)) hx hb hr hlocks hK hS dX2_determinant_6 (I, L, A, Q, G, J) ⟨(by rw [lpD, if_pos (by omega)]), rfl⟩ hP hD
set_option maxRecDepth 20000 in
theorem ggX2_worthOf_X9_product : GoodIn wsX2_worthOf wsX9_product := goodIn_r _ [8] rfl (by decide +kernel)
set_option maxRecDepth 20000 in
theorem gX2_worthOf_X9_product_n40 : GoodIn wsX2_worthOf (wsX9_product) := ggX2_worthOf_X9_product
set_option maxRecDepth 20000 in
theorem ggX2_worthOf_X2_determinant : GoodIn wsX2_worthOf wsX2_determinant := goodIn_r _ [12, 9, 10, 11] rfl (by decide +kernel)
set_option maxRecDepth 20000 in
theorem gX2_worthOf_X2_determinant : GoodIn wsX2_worthOf (va_wsS RX2 44 yX2_determinant wsX2_determinant) := goodIn_app (goodIn_of _ (by decide +kernel)) ggX2_worthOf_X2_determinant
theorem bdX2_worthOf_0 : (decode cX2_worthOf 0 = .ok (.iconst 0, 1)) ∧ (decode cX2_worthOf 1 = .ok (.istore_n 3, 1)) ∧ (decode cX2_worthOf 2 = .ok (.iconst 0, 1)) ∧ (decode cX2_worthOf 3 = .ok (.istore 4, 2)) ∧ (decode cX2_worthOf 5 = .ok (.iload 4, 2)) ∧ (decode cX2_worthOf 7 = .ok (.aload_n 1, 1)) ∧ (decode cX2_worthOf 8 = .ok (.getfield 27, 3)) ∧ (decode cX2_worthOf 11 = .ok (.if_icmp .ge 30, 3)) ∧ (decode cX2_worthOf 14 = .ok (.iload_n 2, 1)) ∧ (decode cX2_worthOf 15 = .ok (.iload 4, 2)) ∧ (decode cX2_worthOf 17 = .ok (.ishr, 1)) ∧ (decode cX2_worthOf 18 = .ok (.iconst 1, 1)) ∧ (decode cX2_worthOf 19 = .ok (.iand, 1)) ∧ (decode cX2_worthOf 20 = .ok (.iconst 1, 1)) ∧ (decode cX2_worthOf 21 = .ok (.if_icmp .ne 14, 3)) ∧ (decode cX2_worthOf 24 = .ok (.aload_n 0, 1)) := by decide +kernel
theorem dX2_worthOf_0 : decode cX2_worthOf 0 = .ok (.iconst 0, 1) := bdX2_worthOf_0.1
theorem dX2_worthOf_1 : decode cX2_worthOf 1 = .ok (.istore_n 3, 1) := bdX2_worthOf_0.2.1
theorem dX2_worthOf_2 : decode cX2_worthOf 2 = .ok (.iconst 0, 1) := bdX2_worthOf_0.2.2.1
theorem dX2_worthOf_3 : decode cX2_worthOf 3 = .ok (.istore 4, 2) := bdX2_worthOf_0.2.2.2.1
theorem dX2_worthOf_5 : decode cX2_worthOf 5 = .ok (.iload 4, 2) := bdX2_worthOf_0.2.2.2.2.1
theorem dX2_worthOf_7 : decode cX2_worthOf 7 = .ok (.aload_n 1, 1) := bdX2_worthOf_0.2.2.2.2.2.1
theorem dX2_worthOf_8 : decode cX2_worthOf 8 = .ok (.getfield 27, 3) := bdX2_worthOf_0.2.2.2.2.2.2.1
theorem dX2_worthOf_11 : decode cX2_worthOf 11 = .ok (.if_icmp .ge 30, 3) := bdX2_worthOf_0.2.2.2.2.2.2.2.1
theorem dX2_worthOf_14 : decode cX2_worthOf 14 = .ok (.iload_n 2, 1) := bdX2_worthOf_0.2.2.2.2.2.2.2.2.1
theorem dX2_worthOf_15 : decode cX2_worthOf 15 = .ok (.iload 4, 2) := bdX2_worthOf_0.2.2.2.2.2.2.2.2.2.1
theorem dX2_worthOf_17 : decode cX2_worthOf 17 = .ok (.ishr, 1) := bdX2_worthOf_0.2.2.2.2.2.2.2.2.2.2.1
theorem dX2_worthOf_18 : decode cX2_worthOf 18 = .ok (.iconst 1, 1) := bdX2_worthOf_0.2.2.2.2.2.2.2.2.2.2.2.1
theorem dX2_worthOf_19 : decode cX2_worthOf 19 = .ok (.iand, 1) := bdX2_worthOf_0.2.2.2.2.2.2.2.2.2.2.2.2.1
theorem dX2_worthOf_20 : decode cX2_worthOf 20 = .ok (.iconst 1, 1) := bdX2_worthOf_0.2.2.2.2.2.2.2.2.2.2.2.2.2.1
theorem dX2_worthOf_21 : decode cX2_worthOf 21 = .ok (.if_icmp .ne 14, 3) := bdX2_worthOf_0.2.2.2.2.2.2.2.2.2.2.2.2.2.2.1
theorem dX2_worthOf_24 : decode cX2_worthOf 24 = .ok (.aload_n 0, 1) := bdX2_worthOf_0.2.2.2.2.2.2.2.2.2.2.2.2.2.2.2
theorem bdX2_worthOf_25 : (decode cX2_worthOf 25 = .ok (.getfield 20, 3)) ∧ (decode cX2_worthOf 28 = .ok (.iload_n 3, 1)) ∧ (decode cX2_worthOf 29 = .ok (.iload 4, 2)) ∧ (decode cX2_worthOf 31 = .ok (.iastore, 1)) ∧ (decode cX2_worthOf 32 = .ok (.iinc 3 1, 3)) ∧ (decode cX2_worthOf 35 = .ok (.iinc 4 1, 3)) ∧ (decode cX2_worthOf 38 = .ok (.goto (-33), 3)) ∧ (decode cX2_worthOf 41 = .ok (.iconst 0, 1)) ∧ (decode cX2_worthOf 42 = .ok (.istore 4, 2)) ∧ (decode cX2_worthOf 44 = .ok (.iload 4, 2)) ∧ (decode cX2_worthOf 46 = .ok (.iload_n 3, 1)) ∧ (decode cX2_worthOf 47 = .ok (.if_icmp .ge 60, 3)) ∧ (decode cX2_worthOf 50 = .ok (.iconst 0, 1)) ∧ (decode cX2_worthOf 51 = .ok (.istore 5, 2)) ∧ (decode cX2_worthOf 53 = .ok (.iload 5, 2)) ∧ (decode cX2_worthOf 55 = .ok (.iload_n 3, 1)) := by decide +kernel
theorem dX2_worthOf_25 : decode cX2_worthOf 25 = .ok (.getfield 20, 3) := bdX2_worthOf_25.1
theorem dX2_worthOf_28 : decode cX2_worthOf 28 = .ok (.iload_n 3, 1) := bdX2_worthOf_25.2.1
theorem dX2_worthOf_29 : decode cX2_worthOf 29 = .ok (.iload 4, 2) := bdX2_worthOf_25.2.2.1
theorem dX2_worthOf_31 : decode cX2_worthOf 31 = .ok (.iastore, 1) := bdX2_worthOf_25.2.2.2.1
theorem dX2_worthOf_32 : decode cX2_worthOf 32 = .ok (.iinc 3 1, 3) := bdX2_worthOf_25.2.2.2.2.1
theorem dX2_worthOf_35 : decode cX2_worthOf 35 = .ok (.iinc 4 1, 3) := bdX2_worthOf_25.2.2.2.2.2.1
theorem dX2_worthOf_38 : decode cX2_worthOf 38 = .ok (.goto (-33), 3) := bdX2_worthOf_25.2.2.2.2.2.2.1
theorem dX2_worthOf_41 : decode cX2_worthOf 41 = .ok (.iconst 0, 1) := bdX2_worthOf_25.2.2.2.2.2.2.2.1
theorem dX2_worthOf_42 : decode cX2_worthOf 42 = .ok (.istore 4, 2) := bdX2_worthOf_25.2.2.2.2.2.2.2.2.1
theorem dX2_worthOf_44 : decode cX2_worthOf 44 = .ok (.iload 4, 2) := bdX2_worthOf_25.2.2.2.2.2.2.2.2.2.1
theorem dX2_worthOf_46 : decode cX2_worthOf 46 = .ok (.iload_n 3, 1) := bdX2_worthOf_25.2.2.2.2.2.2.2.2.2.2.1
theorem dX2_worthOf_47 : decode cX2_worthOf 47 = .ok (.if_icmp .ge 60, 3) := bdX2_worthOf_25.2.2.2.2.2.2.2.2.2.2.2.1
theorem dX2_worthOf_50 : decode cX2_worthOf 50 = .ok (.iconst 0, 1) := bdX2_worthOf_25.2.2.2.2.2.2.2.2.2.2.2.2.1
theorem dX2_worthOf_51 : decode cX2_worthOf 51 = .ok (.istore 5, 2) := bdX2_worthOf_25.2.2.2.2.2.2.2.2.2.2.2.2.2.1
theorem dX2_worthOf_53 : decode cX2_worthOf 53 = .ok (.iload 5, 2) := bdX2_worthOf_25.2.2.2.2.2.2.2.2.2.2.2.2.2.2.1
theorem dX2_worthOf_55 : decode cX2_worthOf 55 = .ok (.iload_n 3, 1) := bdX2_worthOf_25.2.2.2.2.2.2.2.2.2.2.2.2.2.2.2
theorem bdX2_worthOf_56 : (decode cX2_worthOf 56 = .ok (.if_icmp .ge 45, 3)) ∧ (decode cX2_worthOf 59 = .ok (.aload_n 0, 1)) ∧ (decode cX2_worthOf 60 = .ok (.getfield 11, 3)) ∧ (decode cX2_worthOf 63 = .ok (.iload 4, 2)) ∧ (decode cX2_worthOf 65 = .ok (.aaload, 1)) ∧ (decode cX2_worthOf 66 = .ok (.iload 5, 2)) ∧ (decode cX2_worthOf 68 = .ok (.aload_n 1, 1)) ∧ (decode cX2_worthOf 69 = .ok (.getfield 33, 3)) ∧ (decode cX2_worthOf 72 = .ok (.aload_n 1, 1)) ∧ (decode cX2_worthOf 73 = .ok (.getfield 37, 3)) ∧ (decode cX2_worthOf 76 = .ok (.aload_n 0, 1)) ∧ (decode cX2_worthOf 77 = .ok (.getfield 20, 3)) ∧ (decode cX2_worthOf 80 = .ok (.iload 4, 2)) ∧ (decode cX2_worthOf 82 = .ok (.iaload, 1)) ∧ (decode cX2_worthOf 83 = .ok (.aload_n 0, 1)) ∧ (decode cX2_worthOf 84 = .ok (.getfield 20, 3)) := by decide +kernel
theorem dX2_worthOf_56 : decode cX2_worthOf 56 = .ok (.if_icmp .ge 45, 3) := bdX2_worthOf_56.1
theorem dX2_worthOf_59 : decode cX2_worthOf 59 = .ok (.aload_n 0, 1) := bdX2_worthOf_56.2.1
theorem dX2_worthOf_60 : decode cX2_worthOf 60 = .ok (.getfield 11, 3) := bdX2_worthOf_56.2.2.1
theorem dX2_worthOf_63 : decode cX2_worthOf 63 = .ok (.iload 4, 2) := bdX2_worthOf_56.2.2.2.1
theorem dX2_worthOf_65 : decode cX2_worthOf 65 = .ok (.aaload, 1) := bdX2_worthOf_56.2.2.2.2.1
theorem dX2_worthOf_66 : decode cX2_worthOf 66 = .ok (.iload 5, 2) := bdX2_worthOf_56.2.2.2.2.2.1
theorem dX2_worthOf_68 : decode cX2_worthOf 68 = .ok (.aload_n 1, 1) := bdX2_worthOf_56.2.2.2.2.2.2.1
theorem dX2_worthOf_69 : decode cX2_worthOf 69 = .ok (.getfield 33, 3) := bdX2_worthOf_56.2.2.2.2.2.2.2.1
theorem dX2_worthOf_72 : decode cX2_worthOf 72 = .ok (.aload_n 1, 1) := bdX2_worthOf_56.2.2.2.2.2.2.2.2.1
theorem dX2_worthOf_73 : decode cX2_worthOf 73 = .ok (.getfield 37, 3) := bdX2_worthOf_56.2.2.2.2.2.2.2.2.2.1
theorem dX2_worthOf_76 : decode cX2_worthOf 76 = .ok (.aload_n 0, 1) := bdX2_worthOf_56.2.2.2.2.2.2.2.2.2.2.1
theorem dX2_worthOf_77 : decode cX2_worthOf 77 = .ok (.getfield 20, 3) := bdX2_worthOf_56.2.2.2.2.2.2.2.2.2.2.2.1
theorem dX2_worthOf_80 : decode cX2_worthOf 80 = .ok (.iload 4, 2) := bdX2_worthOf_56.2.2.2.2.2.2.2.2.2.2.2.2.1
theorem dX2_worthOf_82 : decode cX2_worthOf 82 = .ok (.iaload, 1) := bdX2_worthOf_56.2.2.2.2.2.2.2.2.2.2.2.2.2.1
theorem dX2_worthOf_83 : decode cX2_worthOf 83 = .ok (.aload_n 0, 1) := bdX2_worthOf_56.2.2.2.2.2.2.2.2.2.2.2.2.2.2.1
theorem dX2_worthOf_84 : decode cX2_worthOf 84 = .ok (.getfield 20, 3) := bdX2_worthOf_56.2.2.2.2.2.2.2.2.2.2.2.2.2.2.2
theorem bdX2_worthOf_87 : (decode cX2_worthOf 87 = .ok (.iload 5, 2)) ∧ (decode cX2_worthOf 89 = .ok (.iaload, 1)) ∧ (decode cX2_worthOf 90 = .ok (.invokestatic 40, 3)) ∧ (decode cX2_worthOf 93 = .ok (.i2l, 1)) ∧ (decode cX2_worthOf 94 = .ok (.lastore, 1)) ∧ (decode cX2_worthOf 95 = .ok (.iinc 5 1, 3)) ∧ (decode cX2_worthOf 98 = .ok (.goto (-45), 3)) ∧ (decode cX2_worthOf 101 = .ok (.iinc 4 1, 3)) ∧ (decode cX2_worthOf 104 = .ok (.goto (-60), 3)) ∧ (decode cX2_worthOf 107 = .ok (.aload_n 0, 1)) ∧ (decode cX2_worthOf 108 = .ok (.getfield 11, 3)) ∧ (decode cX2_worthOf 111 = .ok (.iload_n 3, 1)) ∧ (decode cX2_worthOf 112 = .ok (.iconst 0, 1)) ∧ (decode cX2_worthOf 113 = .ok (.iconst 1, 1)) ∧ (decode cX2_worthOf 114 = .ok (.iload_n 3, 1)) ∧ (decode cX2_worthOf 115 = .ok (.ishl, 1)) := by decide +kernel
theorem dX2_worthOf_87 : decode cX2_worthOf 87 = .ok (.iload 5, 2) := bdX2_worthOf_87.1
theorem dX2_worthOf_89 : decode cX2_worthOf 89 = .ok (.iaload, 1) := bdX2_worthOf_87.2.1
theorem dX2_worthOf_90 : decode cX2_worthOf 90 = .ok (.invokestatic 40, 3) := bdX2_worthOf_87.2.2.1
theorem dX2_worthOf_93 : decode cX2_worthOf 93 = .ok (.i2l, 1) := bdX2_worthOf_87.2.2.2.1
theorem dX2_worthOf_94 : decode cX2_worthOf 94 = .ok (.lastore, 1) := bdX2_worthOf_87.2.2.2.2.1
theorem dX2_worthOf_95 : decode cX2_worthOf 95 = .ok (.iinc 5 1, 3) := bdX2_worthOf_87.2.2.2.2.2.1
theorem dX2_worthOf_98 : decode cX2_worthOf 98 = .ok (.goto (-45), 3) := bdX2_worthOf_87.2.2.2.2.2.2.1
theorem dX2_worthOf_101 : decode cX2_worthOf 101 = .ok (.iinc 4 1, 3) := bdX2_worthOf_87.2.2.2.2.2.2.2.1
theorem dX2_worthOf_104 : decode cX2_worthOf 104 = .ok (.goto (-60), 3) := bdX2_worthOf_87.2.2.2.2.2.2.2.2.1
theorem dX2_worthOf_107 : decode cX2_worthOf 107 = .ok (.aload_n 0, 1) := bdX2_worthOf_87.2.2.2.2.2.2.2.2.2.1
theorem dX2_worthOf_108 : decode cX2_worthOf 108 = .ok (.getfield 11, 3) := bdX2_worthOf_87.2.2.2.2.2.2.2.2.2.2.1
theorem dX2_worthOf_111 : decode cX2_worthOf 111 = .ok (.iload_n 3, 1) := bdX2_worthOf_87.2.2.2.2.2.2.2.2.2.2.2.1
theorem dX2_worthOf_112 : decode cX2_worthOf 112 = .ok (.iconst 0, 1) := bdX2_worthOf_87.2.2.2.2.2.2.2.2.2.2.2.2.1
theorem dX2_worthOf_113 : decode cX2_worthOf 113 = .ok (.iconst 1, 1) := bdX2_worthOf_87.2.2.2.2.2.2.2.2.2.2.2.2.2.1
theorem dX2_worthOf_114 : decode cX2_worthOf 114 = .ok (.iload_n 3, 1) := bdX2_worthOf_87.2.2.2.2.2.2.2.2.2.2.2.2.2.2.1
theorem dX2_worthOf_115 : decode cX2_worthOf 115 = .ok (.ishl, 1) := bdX2_worthOf_87.2.2.2.2.2.2.2.2.2.2.2.2.2.2.2
theorem bdX2_worthOf_116 : (decode cX2_worthOf 116 = .ok (.iconst 1, 1)) ∧ (decode cX2_worthOf 117 = .ok (.isub, 1)) ∧ (decode cX2_worthOf 118 = .ok (.invokestatic 44, 3)) ∧ (decode cX2_worthOf 121 = .ok (.lreturn, 1)) := by decide +kernel
theorem dX2_worthOf_116 : decode cX2_worthOf 116 = .ok (.iconst 1, 1) := bdX2_worthOf_116.1
theorem dX2_worthOf_117 : decode cX2_worthOf 117 = .ok (.isub, 1) := bdX2_worthOf_116.2.1
theorem dX2_worthOf_118 : decode cX2_worthOf 118 = .ok (.invokestatic 44, 3) := bdX2_worthOf_116.2.2.1
theorem dX2_worthOf_121 : decode cX2_worthOf 121 = .ok (.lreturn, 1) := bdX2_worthOf_116.2.2.2
set_option maxHeartbeats 4000000 in
set_option maxRecDepth 100000 in
theorem k_X2_worthOf (l : Launch) (dC : Nat → ClassId) (dI : Nat → Nat → Nat) (h : Nat → Nat) (cs : Nat → ClassId) (sz : Nat) (I : Nat → Int32) (L : Nat → Int64) (A : Nat → Nat → Int32) (Q : Nat → Nat → Int64) (G : Nat → Nat → Nat → Int32) (J : Nat → Nat → Nat → Int64) (x : Int32) (R M : Nat) (hR : I 120 = nI R) (hR1 : 1 ≤ R) (hR5 : R ≤ 5) (hM : I 121 = nI M) (hM1 : 1 ≤ M) (hM4 : M ≤ 4) : Met l yX2_worthOf wsX2_worthOf ({ frames := 5, cells := 0, slots := 0, locals := 140 }) (va_Pc [.ref (h 106), .ref (h 101), .int x] (xPre (dC, dI) (wLm h cs I L A Q G J) (tysA cs) sz)) (va_Ql (fun (r : Int64) (u : CS) => ∃ a186 : Nat → Int32, ∃ j0 : Nat → Nat → Int64, (r = lpD (gramC (G 0) R M x) (selC x M) 4 0 (nI 1 <<< (nI (selC x M) &&& 31) - nI 1)) ∧ u = (I, L, (va_up A 186 a186), Q, G, (va_up J 0 j0))) (xB (dC, dI) (tysA cs) (va_A (wLm h cs I L A Q G J) sz) (fun u : CS => wLm h cs u.1 u.2.1 u.2.2.1 u.2.2.2.1 u.2.2.2.2.1 u.2.2.2.2.2)) (va_A (wLm h cs I L A Q G J) sz)) 0 0 (va_A (wLm h cs I L A Q G J) sz) := by
  refine Met.ofW (cc := cX2_worthOf) (maxL := 6) (ret := (some .long)) (by decide) rfl ?_
  intro p e s m args below meth c s₁ B hml hv
  obtain ⟨rfl, hsz, hP, hK, hD0, hN⟩ := hv
  have hx := B.exec
  have hb := B.bytes
  have hr := B.returns
  have hts := atoms_spec (ws := wsX2_worthOf) B.pre
  have hown : s.vm.findClass RX2 = some m.cls := findClass_of_methodNamed B.named
  have hlocks := B.notSynchronized
  subst hsz
  have hD := hD0.self (sz := s.heap.size)
  generalize hAe : va_A (wLm h cs I L A Q G J) s.heap.size = A0 at hD ⊢
  have hA : ∀ q : Nat, s.heap.size ≤ q → A0 q := fun q h => by rw [← hAe]; exact Or.inr h
  have hl := lv_entry ([.ref (h 106), .ref (h 101), .int x]) (n := 6) (Nat.le_of_ble_eq_true rfl)
  rw [lg_entry_eq]
  generalize (lg_sl ([.ref (h 106), .ref (h 101), .int x]) ++ List.replicate (6 - (lg_sl ([.ref (h 106), .ref (h 101), .int x])).length) Slot.unset).toArray = ls at hl ⊢
  have hl : lv_has ls 6 [(0, .ref (h 106)), (1, .ref (h 101)), (2, .int x)] := hl
  generalize hH : s.heap = H at hP ⊢
  have hS : va_S A0 s.heap H [] := by rw [← hH]; exact va_S.rf
  have hinX3 : ∀ w ∈ wsX30, w ∈ wsX2_worthOf := by decide +kernel
  have hinX2 : ∀ w ∈ wsX20, w ∈ wsX2_worthOf := by decide +kernel
  refine lv_iconst (v := nI 0) hx hb dX2_worthOf_0 (by decide) ?_
  refine lv_istore_n (lv' := [(3, .int (nI 0)), (0, .ref (h 106)), (1, .ref (h 101)), (2, .int x)]) hx hb dX2_worthOf_1 rfl hl (by decide) rfl (fun ls hl => ?_)
  refine lv_iconst (v := nI 0) hx hb dX2_worthOf_2 (by decide) ?_
  refine lv_istore (lv' := [(4, .int (nI 0)), (3, .int (nI 0)), (0, .ref (h 106)), (1, .ref (h 101)), (2, .int x)]) hx hb dX2_worthOf_3 hl (by decide) rfl (fun ls hl => ?_)
  have cut_5 : ∀ (nf : Nat) (s3 : Nat) (k : Nat) (f6 : Nat → Int32), (M - k) < nf → (k ≤ M) → (s3 = selC x k) → (s3 ≤ k) → (∀ q : Nat, q < s3 → f6 q = nI (selI x q M) ∧ selI x q M < 4) → ∀ (H : Heap) (locs : List Loc) (ls : Array Slot), va_P (dC, dI) vwCl (wLm h cs I L (va_up A 186 f6) Q G J) H → va_D A0 (wLm h cs I L (va_up A 186 f6) Q G J) → va_S A0 s.heap H locs → lv_has ls 6 [(0, .ref (h 106)), (1, .ref (h 101)), (2, .int x), (3, .int (nI s3)), (4, .int (nI k))] → W p l e (headSpec wsX2_worthOf ({ frames := 5, cells := 0, slots := 0, locals := 140 })).room s m ([.ref (h 106), .ref (h 101), .int x] : List Value).toArray below meth c H locs 0 0 (MQ below (va_Ql (fun (r : Int64) (u : CS) => ∃ a186 : Nat → Int32, ∃ j0 : Nat → Nat → Int64, (r = lpD (gramC (G 0) R M x) (selC x M) 4 0 (nI 1 <<< (nI (selC x M) &&& 31) - nI 1)) ∧ u = (I, L, (va_up A 186 a186), Q, G, (va_up J 0 j0))) (xB (dC, dI) (tysA cs) A0 (fun u : CS => wLm h cs u.1 u.2.1 u.2.2.1 u.2.2.2.1 u.2.2.2.2.1 u.2.2.2.2.2)) A0) ([.ref (h 106), .ref (h 101), .int x] : List Value).toArray s 0 0 A0) (F0 m 5 ls []) := by
    intro nf
    induction nf with
    | zero => intro s3 k f6 hm; exact absurd hm (Nat.not_lt_zero _)
    | succ nf ih_5 =>
      intro s3 k f6 hm_5 hk5 hs5 hs5b hp5 H locs ls hP hD hS hl
      refine lv_iload hx hb dX2_worthOf_5 (lv_at hl 4 rfl) ?_
      refine lv_aload_n hx hb dX2_worthOf_7 rfl (lv_at hl 1 rfl) ?_
      refine va_get (D := (dC, dI)) (ci := 3) (v := .int (I 121)) (C := RX3) (T := TX3) (N := 6) hx hb hts hinX3 hown hK hP 9 rfl rfl 1 (by decide) (hts (.fieldLink RX2 27 "MixedWords$Mix" "width" "I") (by decide +kernel)) (fun _ h9 => h9) rfl dX2_worthOf_8 ?_
      refine xt_i (y := nI M) (hM) ?_
      refine xn_ge (tgt := 41) hx hb dX2_worthOf_11 (by decide) (by omega) (by omega) (fun c_11_0 => ?_) (fun c_11_0 => ?_)
      · skip
        refine lv_iconst (v := nI 0) hx hb dX2_worthOf_41 (by decide) ?_
        refine lv_istore (lv' := [(4, .int (nI 0)), (0, .ref (h 106)), (1, .ref (h 101)), (2, .int x), (3, .int (nI s3))]) hx hb dX2_worthOf_42 hl (by decide) rfl (fun ls hl => ?_)
        have cut_44 : ∀ (nf : Nat) (i4 : Nat) (jj : Nat → Nat → Int64), (s3 - i4) < nf → (i4 ≤ s3) → (∀ q : Nat, q < s3 → f6 q = nI (selI x q M) ∧ selI x q M < 4) → (∀ a b : Nat, b < s3 → (a < i4 ∨ (a = i4 ∧ b < 0)) → jj a b = gramC (G 0) R M x a b) → ∀ (H : Heap) (locs : List Loc) (ls : Array Slot), va_P (dC, dI) vwCl (wLm h cs I L (va_up A 186 f6) Q G (va_up J 0 jj)) H → va_D A0 (wLm h cs I L (va_up A 186 f6) Q G (va_up J 0 jj)) → va_S A0 s.heap H locs → lv_has ls 6 [(0, .ref (h 106)), (1, .ref (h 101)), (2, .int x), (3, .int (nI s3)), (4, .int (nI i4))] → W p l e (headSpec wsX2_worthOf ({ frames := 5, cells := 0, slots := 0, locals := 140 })).room s m ([.ref (h 106), .ref (h 101), .int x] : List Value).toArray below meth c H locs 0 0 (MQ below (va_Ql (fun (r : Int64) (u : CS) => ∃ a186 : Nat → Int32, ∃ j0 : Nat → Nat → Int64, (r = lpD (gramC (G 0) R M x) (selC x M) 4 0 (nI 1 <<< (nI (selC x M) &&& 31) - nI 1)) ∧ u = (I, L, (va_up A 186 a186), Q, G, (va_up J 0 j0))) (xB (dC, dI) (tysA cs) A0 (fun u : CS => wLm h cs u.1 u.2.1 u.2.2.1 u.2.2.2.1 u.2.2.2.2.1 u.2.2.2.2.2)) A0) ([.ref (h 106), .ref (h 101), .int x] : List Value).toArray s 0 0 A0) (F0 m 44 ls []) := by
          intro nf
          induction nf with
          | zero => intro i4 jj hm; exact absurd hm (Nat.not_lt_zero _)
          | succ nf ih_44 =>
            intro i4 jj hm_44 hi44 hp44 hq44 H locs ls hP hD hS hl
            refine lv_iload hx hb dX2_worthOf_44 (lv_at hl 4 rfl) ?_
            refine lv_iload_n hx hb dX2_worthOf_46 rfl (lv_at hl 3 rfl) ?_
            refine xn_ge (tgt := 107) hx hb dX2_worthOf_47 (by decide) (by omega) (by omega) (fun c_47_1 => ?_) (fun c_47_1 => ?_)
            · skip
              refine lv_aload_n hx hb dX2_worthOf_107 rfl (lv_at hl 0 rfl) ?_
              refine va_get (D := (dC, dI)) (ci := 2) (v := .ref (h 180)) (C := RX2) (T := TX2) (N := 5) hx hb hts hinX2 hown hK hP 0 rfl rfl 0 (by decide) (hts (.fieldLink RX2 11 "MixedWords$Least" "square" "[[J") (by decide +kernel)) (fun _ h9 => h9) rfl dX2_worthOf_108 ?_
              refine lv_iload_n hx hb dX2_worthOf_111 rfl (lv_at hl 3 rfl) ?_
              refine lv_iconst (v := nI 0) hx hb dX2_worthOf_112 (by decide) ?_
              refine lv_iconst (v := nI 1) hx hb dX2_worthOf_113 (by decide) ?_
              refine lv_iload_n hx hb dX2_worthOf_114 rfl (lv_at hl 3 rfl) ?_
              refine lv_ishl hx hb dX2_worthOf_115 ?_
              refine lv_iconst (v := nI 1) hx hb dX2_worthOf_116 (by decide) ?_
              refine lv_isub hx hb dX2_worthOf_117 ?_
              refine xj_l (wc := (wSq h cs I L (va_up A 186 f6) Q G (va_up J 0 jj))) (wr := [(h 106, .inr (2, [.ref (h 180), .ref (h 185), .ref (h 186), .ref (h 187), .long (L 188)])), (h 185, .inl (cs 1, 4, .inr (.inl (Q 185)))), (h 186, .inl (cs 0, 4, .inl f6)), (h 187, .inl (cs 1, 4, .inr (.inl (Q 187)))), (h 101, .inr (3, [.int (I 120), .int (I 121), .int (I 122), .int (I 123), .ref (h 130), .ref (h 136)])), (h 130, .inl (cs 3, 5, .inr (.inr (.inr (.inr (fun i => if i < 5 then some (h (i + 131)) else none)))))), (h 131, .inl (cs 0, 4, .inl ((G 0) 0))), (h 132, .inl (cs 0, 4, .inl ((G 0) 1))), (h 133, .inl (cs 0, 4, .inl ((G 0) 2))), (h 134, .inl (cs 0, 4, .inl ((G 0) 3))), (h 135, .inl (cs 0, 4, .inl ((G 0) 4))), (h 136, .inl (cs 0, 5, .inl (A 136)))]) hP hD hS hA [1, 2, 3, 4, 5] [0, 6, 7, 8, 9, 10, 11, 12, 13, 14, 15, 16] rfl rfl (by decide +kernel) (by decide +kernel) (va_runS (As := [.ref (h 180), .int (nI s3), .int (nI 0), .int (((nI 1) <<< ((nI s3) &&& 31)) - (nI 1))]) (rest := []) ⟨hx, hb, hml, hown, hts⟩ (k_det_0 l dC dI h cs H.size I L (va_up A 186 f6) Q G (va_up J 0 jj) s3 (((nI 1) <<< ((nI s3) &&& 31)) - (nI 1)) (by first | assumption | omega)) (va_cwS 4 hts gX2_worthOf_X2_determinant rfl rfl rfl (by decide +kernel) ⟨Nat.le_of_ble_eq_true rfl, Nat.le_of_ble_eq_true rfl⟩) (xpS (wc := (wSq h cs I L (va_up A 186 f6) Q G (va_up J 0 jj))) hP hD hK hN [1, 2, 3, 4, 5] rfl (by decide) _) rfl rfl hl.1 rfl (lv_room (Nat.le_of_ble_eq_true rfl)) dX2_worthOf_118 ⟨Nat.zero_le _, Nat.zero_le _⟩) (fun r_4 u_3 H locs hw hP hD hS => ?_)
              obtain ⟨hf_5, rfl⟩ := hw
              have hP : va_P (dC, dI) vwCl (wLm h cs I L (va_up A 186 f6) Q G (va_up J 0 jj)) H := xP_sub hP [0, 12, 13, 14, 15, 16, 1, 2, 3, 4, 5, 6, 7, 8, 9, 10, 11] rfl
              have hD : va_D A0 (wLm h cs I L (va_up A 186 f6) Q G (va_up J 0 jj)) := hD.sub [0, 12, 13, 14, 15, 16, 1, 2, 3, 4, 5, 6, 7, 8, 9, 10, 11] (by decide +kernel) rfl
              have hdet := hf_5
              exact xr_l (v := r_4) hx hb hr hlocks hK hS dX2_worthOf_121 (I, L, (va_up A 186 f6), Q, G, (va_up J 0 jj)) ⟨f6, jj, (by have es : s3 = selC x M := (by rw [hs5, show k = M by omega]); rw [hdet, ← es]; exact lpD_c (fun a b ha hb => hq44 a b hb (Or.inl (by omega))) _ _ _), rfl⟩ hP hD
            · skip
              refine lv_iconst (v := nI 0) hx hb dX2_worthOf_50 (by decide) ?_
              refine lv_istore (lv' := [(5, .int (nI 0)), (0, .ref (h 106)), (1, .ref (h 101)), (2, .int x), (3, .int (nI s3)), (4, .int (nI i4))]) hx hb dX2_worthOf_51 hl (by decide) rfl (fun ls hl => ?_)
              have cut_53 : ∀ (nf : Nat) (j5 : Nat) (j2 : Nat → Nat → Int64), (s3 - j5) < nf → (j5 ≤ s3) → (∀ a b : Nat, b < s3 → (a < i4 ∨ (a = i4 ∧ b < j5)) → j2 a b = gramC (G 0) R M x a b) → ∀ (H : Heap) (locs : List Loc) (ls : Array Slot), va_P (dC, dI) vwCl (wLm h cs I L (va_up A 186 f6) Q G (va_up J 0 j2)) H → va_D A0 (wLm h cs I L (va_up A 186 f6) Q G (va_up J 0 j2)) → va_S A0 s.heap H locs → lv_has ls 6 [(0, .ref (h 106)), (1, .ref (h 101)), (2, .int x), (3, .int (nI s3)), (4, .int (nI i4)), (5, .int (nI j5))] → W p l e (headSpec wsX2_worthOf ({ frames := 5, cells := 0, slots := 0, locals := 140 })).room s m ([.ref (h 106), .ref (h 101), .int x] : List Value).toArray below meth c H locs 0 0 (MQ below (va_Ql (fun (r : Int64) (u : CS) => ∃ a186 : Nat → Int32, ∃ j0 : Nat → Nat → Int64, (r = lpD (gramC (G 0) R M x) (selC x M) 4 0 (nI 1 <<< (nI (selC x M) &&& 31) - nI 1)) ∧ u = (I, L, (va_up A 186 a186), Q, G, (va_up J 0 j0))) (xB (dC, dI) (tysA cs) A0 (fun u : CS => wLm h cs u.1 u.2.1 u.2.2.1 u.2.2.2.1 u.2.2.2.2.1 u.2.2.2.2.2)) A0) ([.ref (h 106), .ref (h 101), .int x] : List Value).toArray s 0 0 A0) (F0 m 53 ls []) := by
                intro nf
                induction nf with
                | zero => intro j5 j2 hm; exact absurd hm (Nat.not_lt_zero _)
                | succ nf ih_53 =>
                  intro j5 j2 hm_53 hj53 hq53 H locs ls hP hD hS hl
                  refine lv_iload hx hb dX2_worthOf_53 (lv_at hl 5 rfl) ?_
                  refine lv_iload_n hx hb dX2_worthOf_55 rfl (lv_at hl 3 rfl) ?_
                  refine xn_ge (tgt := 101) hx hb dX2_worthOf_56 (by decide) (by omega) (by omega) (fun c_56_5 => ?_) (fun c_56_5 => ?_)
                  · skip
                    refine lv_iinc (v := nI (i4 + 1)) (lv' := [(4, .int (nI (i4 + 1))), (0, .ref (h 106)), (1, .ref (h 101)), (2, .int x), (3, .int (nI s3)), (5, .int (nI j5))]) hx hb dX2_worthOf_101 hl (k := 4) rfl (nI_1 _) (by decide) rfl (fun ls hl => ?_)
                    refine lv_goto (tgt := 44) hx hb dX2_worthOf_104 (by decide) ?_
                    exact ih_44 (i4 + 1) j2 (by omega) (by first | assumption | omega) (by first | assumption | omega) (by first | (intro a b hb hab; omega) | exact (fun a b hb hab => hq53 a b hb (by omega))) _ _ _ hP hD hS (lv_sub hl [1, 2, 3, 4, 0] rfl)
                  · skip
                    refine lv_aload_n hx hb dX2_worthOf_59 rfl (lv_at hl 0 rfl) ?_
                    refine va_get (D := (dC, dI)) (ci := 2) (v := .ref (h 180)) (C := RX2) (T := TX2) (N := 5) hx hb hts hinX2 hown hK hP 0 rfl rfl 0 (by decide) (hts (.fieldLink RX2 11 "MixedWords$Least" "square" "[[J") (by decide +kernel)) (fun _ h9 => h9) rfl dX2_worthOf_60 ?_
                    refine lv_iload hx hb dX2_worthOf_63 (lv_at hl 4 rfl) ?_
                    refine xa_aald (b := h (i4 + 181)) hx hb hK hP 1 4 rfl rfl rfl (by omega) (by decide) (if_pos (by omega)) dX2_worthOf_65 ?_
                    refine lv_iload hx hb dX2_worthOf_66 (lv_at hl 5 rfl) ?_
                    refine lv_aload_n hx hb dX2_worthOf_68 rfl (lv_at hl 1 rfl) ?_
                    refine va_get (D := (dC, dI)) (ci := 3) (v := .ref (h 130)) (C := RX3) (T := TX3) (N := 6) hx hb hts hinX3 hown hK hP 9 rfl rfl 4 (by decide) (hts (.fieldLink RX2 33 "MixedWords$Mix" "cells" "[[I") (by decide +kernel)) (fun _ h9 => h9) rfl dX2_worthOf_69 ?_
                    refine lv_aload_n hx hb dX2_worthOf_72 rfl (lv_at hl 1 rfl) ?_
                    refine va_get (D := (dC, dI)) (ci := 3) (v := .int (I 120)) (C := RX3) (T := TX3) (N := 6) hx hb hts hinX3 hown hK hP 9 rfl rfl 0 (by decide) (hts (.fieldLink RX2 37 "MixedWords$Mix" "height" "I") (by decide +kernel)) (fun _ h9 => h9) rfl dX2_worthOf_73 ?_
                    refine xt_i (y := nI R) (hR) ?_
                    refine lv_aload_n hx hb dX2_worthOf_76 rfl (lv_at hl 0 rfl) ?_
                    refine va_get (D := (dC, dI)) (ci := 2) (v := .ref (h 186)) (C := RX2) (T := TX2) (N := 5) hx hb hts hinX2 hown hK hP 0 rfl rfl 2 (by decide) (hts (.fieldLink RX2 20 "MixedWords$Least" "picked" "[I") (by decide +kernel)) (fun _ h9 => h9) rfl dX2_worthOf_77 ?_
                    refine lv_iload hx hb dX2_worthOf_80 (lv_at hl 4 rfl) ?_
                    refine xa_iald hx hb hK hP 7 0 rfl rfl (by omega) (by decide) dX2_worthOf_82 ?_
                    obtain ⟨e83, hv83⟩ := hp44 i4 (by omega)
                    refine xt_i (y := nI (selI x i4 M)) (e83) ?_
                    refine lv_aload_n hx hb dX2_worthOf_83 rfl (lv_at hl 0 rfl) ?_
                    refine va_get (D := (dC, dI)) (ci := 2) (v := .ref (h 186)) (C := RX2) (T := TX2) (N := 5) hx hb hts hinX2 hown hK hP 0 rfl rfl 2 (by decide) (hts (.fieldLink RX2 20 "MixedWords$Least" "picked" "[I") (by decide +kernel)) (fun _ h9 => h9) rfl dX2_worthOf_84 ?_
                    refine lv_iload hx hb dX2_worthOf_87 (lv_at hl 5 rfl) ?_
                    refine xa_iald hx hb hK hP 7 0 rfl rfl (by omega) (by decide) dX2_worthOf_89 ?_
                    obtain ⟨e90, hv90⟩ := hp44 j5 (by omega)
                    refine xt_i (y := nI (selI x j5 M)) (e90) ?_
                    refine xj_i (wc := (wGrid (fun k => h (k + 129)) cs I L (va_up A 186 f6) Q (fun _ => G 0) (va_up J 0 j2))) (wr := [(h 106, .inr (2, [.ref (h 180), .ref (h 185), .ref (h 186), .ref (h 187), .long (L 188)])), (h 180, .inl (cs 4, 4, .inr (.inr (.inr (.inr (fun i => if i < 4 then some (h (i + 181)) else none)))))), (h 181, .inl (cs 1, 4, .inr (.inl (j2 0)))), (h 182, .inl (cs 1, 4, .inr (.inl (j2 1)))), (h 183, .inl (cs 1, 4, .inr (.inl (j2 2)))), (h 184, .inl (cs 1, 4, .inr (.inl (j2 3)))), (h 185, .inl (cs 1, 4, .inr (.inl (Q 185)))), (h 186, .inl (cs 0, 4, .inl f6)), (h 187, .inl (cs 1, 4, .inr (.inl (Q 187)))), (h 101, .inr (3, [.int (I 120), .int (I 121), .int (I 122), .int (I 123), .ref (h 130), .ref (h 136)])), (h 136, .inl (cs 0, 5, .inl (A 136)))]) hP hD hS hA [10, 11, 12, 13, 14, 15] [0, 1, 2, 3, 4, 5, 6, 7, 8, 9, 16] rfl rfl (by decide +kernel) (by decide +kernel) (va_runSN (As := [.ref (h 130), .int (nI R), .int (nI (selI x i4 M)), .int (nI (selI x j5 M))]) (rest := [.int (nI j5), .ref (h (i4 + 181))]) ⟨hx, hb, hml, hown, hts⟩ (k_X9_product l dC dI (fun k => h (k + 129)) cs H.size I L (va_up A 186 f6) Q (fun _ => G 0) (va_up J 0 j2) R (selI x i4 M) (selI x j5 M) (by first | assumption | omega) (by first | assumption | omega) (by first | assumption | omega)) ⟨va_cnB (host := "MixedWords") 4 hts gX2_worthOf_X9_product_n40 rfl rfl rfl hN.2.2.2.2.2.1 (hts (.initialized RX9) (by decide +kernel)) (by decide +kernel) ⟨Nat.le_of_ble_eq_true rfl, Nat.le_of_ble_eq_true rfl⟩, hts (.static yX9_product) (by decide +kernel), trivial⟩ (xpS (wc := (wGrid (fun k => h (k + 129)) cs I L (va_up A 186 f6) Q (fun _ => G 0) (va_up J 0 j2))) hP hD hK hN [10, 11, 12, 13, 14, 15] rfl (by decide) _) rfl rfl hl.1 rfl (lv_room (Nat.le_of_ble_eq_true rfl)) dX2_worthOf_90 ⟨Nat.zero_le _, Nat.zero_le _⟩) (fun r_8 u_7 H locs hw hP hD hS => ?_)
                    obtain ⟨hf_9, rfl⟩ := hw
                    have hP : va_P (dC, dI) vwCl (wLm h cs I L (va_up A 186 f6) Q G (va_up J 0 j2)) H := xP_sub hP [0, 1, 2, 3, 4, 5, 6, 7, 8, 9, 11, 12, 13, 14, 15, 16, 10] rfl
                    have hD : va_D A0 (wLm h cs I L (va_up A 186 f6) Q G (va_up J 0 j2)) := hD.sub [0, 1, 2, 3, 4, 5, 6, 7, 8, 9, 11, 12, 13, 14, 15, 16, 10] (by decide +kernel) rfl
                    obtain rfl := hf_9
                    refine lv_i2l (v := (prodF (G 0) (selI x i4 M) (selI x j5 M) R).toInt64) hx hb dX2_worthOf_93 rfl ?_
                    refine xa_last hx hb hK hP hD hS (2 + i4) 1 (wLm_atJ0 (by omega)) rfl (by omega) (by decide) dX2_worthOf_94 (fun H locs hP hD hS => ?_)
                    rw [wLm_setJ0 (by omega)] at hP hD
                    have hP : va_P (dC, dI) vwCl (wLm h cs I L (va_up A 186 f6) Q G (va_up J 0 (va_up j2 i4 (vp_updL (j2 i4) j5 ((prodF (G 0) (selI x i4 M) (selI x j5 M) R).toInt64))))) H := hP
                    have hD : va_D A0 (wLm h cs I L (va_up A 186 f6) Q G (va_up J 0 (va_up j2 i4 (vp_updL (j2 i4) j5 ((prodF (G 0) (selI x i4 M) (selI x j5 M) R).toInt64))))) := hD
                    refine lv_iinc (v := nI (j5 + 1)) (lv' := [(5, .int (nI (j5 + 1))), (0, .ref (h 106)), (1, .ref (h 101)), (2, .int x), (3, .int (nI s3)), (4, .int (nI i4))]) hx hb dX2_worthOf_95 hl (k := 5) rfl (nI_1 _) (by decide) rfl (fun ls hl => ?_)
                    refine lv_goto (tgt := 53) hx hb dX2_worthOf_98 (by decide) ?_
                    exact ih_53 (j5 + 1) (va_up j2 i4 (vp_updL (j2 i4) j5 ((prodF (G 0) (selI x i4 M) (selI x j5 M) R).toInt64))) (by omega) (by first | assumption | omega) (by first | exact hq44 | exact sq_s (by omega) rfl hq53) _ _ _ hP hD hS (lv_sub hl [1, 2, 3, 4, 5, 0] rfl)
              exact cut_53 _ 0 jj (Nat.lt_succ_self _) (by first | assumption | omega) (by first | exact hq44 | exact sq_s (by omega) rfl hq53) _ _ _ hP hD hS (lv_sub hl [1, 2, 3, 4, 5, 0] rfl)
        exact cut_44 _ 0 (J 0) (Nat.lt_succ_self _) (by first | assumption | omega) (by first | assumption | omega) (by first | (intro a b hb hab; omega) | exact (fun a b hb hab => hq53 a b hb (by omega))) _ _ _ hP hD hS (lv_sub hl [1, 2, 3, 4, 0] rfl)
      · skip
        refine lv_iload_n hx hb dX2_worthOf_14 rfl (lv_at hl 2 rfl) ?_
        refine lv_iload hx hb dX2_worthOf_15 (lv_at hl 4 rfl) ?_
        refine lv_ishr hx hb dX2_worthOf_17 ?_
        refine lv_iconst (v := nI 1) hx hb dX2_worthOf_18 (by decide) ?_
        refine lv_iand hx hb dX2_worthOf_19 ?_
        refine lv_iconst (v := nI 1) hx hb dX2_worthOf_20 (by decide) ?_
        refine lv_icmp_ne (tgt := 35) hx hb dX2_worthOf_21 (by decide) (fun c_21_9 => ?_) (fun c_21_9 => ?_)
        · skip
          have hbi : ¬ bt1 x k = nI 1 := c_21_9
          refine lv_iinc (v := nI (k + 1)) (lv' := [(4, .int (nI (k + 1))), (0, .ref (h 106)), (1, .ref (h 101)), (2, .int x), (3, .int (nI s3))]) hx hb dX2_worthOf_35 hl (k := 4) rfl (nI_1 _) (by decide) rfl (fun ls hl => ?_)
          refine lv_goto (tgt := 5) hx hb dX2_worthOf_38 (by decide) ?_
          exact ih_5 s3 (k + 1) f6 (by omega) (by first | assumption | omega) (by first | rfl | (rw [selC_yes hbi]; omega) | (rw [selC_no hbi]; exact hs5)) (by first | assumption | omega) (by first | exact (fun q h => absurd h (Nat.not_lt_zero q)) | (subst hs5; exact pkd_s hM4 (by omega) hbi hp5) | exact hp5) _ _ _ hP hD hS (lv_sub hl [1, 2, 3, 4, 0] rfl)
        · skip
          have hbi : bt1 x k = nI 1 := c_21_9
          refine lv_aload_n hx hb dX2_worthOf_24 rfl (lv_at hl 0 rfl) ?_
          refine va_get (D := (dC, dI)) (ci := 2) (v := .ref (h 186)) (C := RX2) (T := TX2) (N := 5) hx hb hts hinX2 hown hK hP 0 rfl rfl 2 (by decide) (hts (.fieldLink RX2 20 "MixedWords$Least" "picked" "[I") (by decide +kernel)) (fun _ h9 => h9) rfl dX2_worthOf_25 ?_
          refine lv_iload_n hx hb dX2_worthOf_28 rfl (lv_at hl 3 rfl) ?_
          refine lv_iload hx hb dX2_worthOf_29 (lv_at hl 4 rfl) ?_
          refine xa_iast hx hb hK hP hD hS 7 0 rfl rfl (by omega) (by decide) dX2_worthOf_31 (fun H locs hP hD hS => ?_)
          have hP : va_P (dC, dI) vwCl (wLm h cs I L (va_up A 186 (upd f6 s3 (nI k))) Q G J) H := hP
          have hD : va_D A0 (wLm h cs I L (va_up A 186 (upd f6 s3 (nI k))) Q G J) := hD
          refine lv_iinc (v := nI (s3 + 1)) (lv' := [(3, .int (nI (s3 + 1))), (0, .ref (h 106)), (1, .ref (h 101)), (2, .int x), (4, .int (nI k))]) hx hb dX2_worthOf_32 hl (k := 3) rfl (nI_1 _) (by decide) rfl (fun ls hl => ?_)
          refine lv_iinc (v := nI (k + 1)) (lv' := [(4, .int (nI (k + 1))), (3, .int (nI (s3 + 1))), (0, .ref (h 106)), (1, .ref (h 101)), (2, .int x)]) hx hb dX2_worthOf_35 hl (k := 4) rfl (nI_1 _) (by decide) rfl (fun ls hl => ?_)
          refine lv_goto (tgt := 5) hx hb dX2_worthOf_38 (by decide) ?_
          exact ih_5 (s3 + 1) (k + 1) (upd f6 s3 (nI k)) (by omega) (by first | assumption | omega) (by first | rfl | (rw [selC_yes hbi]; omega) | (rw [selC_no hbi]; exact hs5)) (by first | assumption | omega) (by first | exact (fun q h => absurd h (Nat.not_lt_zero q)) | (subst hs5; exact pkd_s hM4 (by omega) hbi hp5) | exact hp5) _ _ _ hP hD hS (lv_sub hl [2, 3, 4, 1, 0] rfl)
  exact cut_5 _ 0 0 (A 186) (Nat.lt_succ_self _) (by first | assumption | omega) (by first | rfl | (rw [selC_yes hbi]; omega) | (rw [selC_no hbi]; exact hs5)) (by first | assumption | omega) (by first | exact (fun q h => absurd h (Nat.not_lt_zero q)) | (subst hs5; exact pkd_s hM4 (by omega) hbi hp5) | exact hp5) _ _ _ hP hD hS (lv_sub hl [2, 3, 4, 1, 0] rfl)
theorem bdX2_swapRight_0 : (decode cX2_swapRight 0 = .ok (.iconst 0, 1)) ∧ (decode cX2_swapRight 1 = .ok (.istore_n 3, 1)) ∧ (decode cX2_swapRight 2 = .ok (.iload_n 3, 1)) ∧ (decode cX2_swapRight 3 = .ok (.iload_n 2, 1)) ∧ (decode cX2_swapRight 4 = .ok (.if_icmp .ge 41, 3)) ∧ (decode cX2_swapRight 7 = .ok (.aload_n 0, 1)) ∧ (decode cX2_swapRight 8 = .ok (.getfield 11, 3)) ∧ (decode cX2_swapRight 11 = .ok (.iload_n 3, 1)) ∧ (decode cX2_swapRight 12 = .ok (.aaload, 1)) ∧ (decode cX2_swapRight 13 = .ok (.iload_n 1, 1)) ∧ (decode cX2_swapRight 14 = .ok (.laload, 1)) ∧ (decode cX2_swapRight 15 = .ok (.lstore 4, 2)) ∧ (decode cX2_swapRight 17 = .ok (.aload_n 0, 1)) ∧ (decode cX2_swapRight 18 = .ok (.getfield 11, 3)) ∧ (decode cX2_swapRight 21 = .ok (.iload_n 3, 1)) ∧ (decode cX2_swapRight 22 = .ok (.aaload, 1)) := by decide +kernel
theorem dX2_swapRight_0 : decode cX2_swapRight 0 = .ok (.iconst 0, 1) := bdX2_swapRight_0.1
theorem dX2_swapRight_1 : decode cX2_swapRight 1 = .ok (.istore_n 3, 1) := bdX2_swapRight_0.2.1
theorem dX2_swapRight_2 : decode cX2_swapRight 2 = .ok (.iload_n 3, 1) := bdX2_swapRight_0.2.2.1
theorem dX2_swapRight_3 : decode cX2_swapRight 3 = .ok (.iload_n 2, 1) := bdX2_swapRight_0.2.2.2.1
theorem dX2_swapRight_4 : decode cX2_swapRight 4 = .ok (.if_icmp .ge 41, 3) := bdX2_swapRight_0.2.2.2.2.1
theorem dX2_swapRight_7 : decode cX2_swapRight 7 = .ok (.aload_n 0, 1) := bdX2_swapRight_0.2.2.2.2.2.1
theorem dX2_swapRight_8 : decode cX2_swapRight 8 = .ok (.getfield 11, 3) := bdX2_swapRight_0.2.2.2.2.2.2.1
theorem dX2_swapRight_11 : decode cX2_swapRight 11 = .ok (.iload_n 3, 1) := bdX2_swapRight_0.2.2.2.2.2.2.2.1
theorem dX2_swapRight_12 : decode cX2_swapRight 12 = .ok (.aaload, 1) := bdX2_swapRight_0.2.2.2.2.2.2.2.2.1
theorem dX2_swapRight_13 : decode cX2_swapRight 13 = .ok (.iload_n 1, 1) := bdX2_swapRight_0.2.2.2.2.2.2.2.2.2.1
theorem dX2_swapRight_14 : decode cX2_swapRight 14 = .ok (.laload, 1) := bdX2_swapRight_0.2.2.2.2.2.2.2.2.2.2.1
theorem dX2_swapRight_15 : decode cX2_swapRight 15 = .ok (.lstore 4, 2) := bdX2_swapRight_0.2.2.2.2.2.2.2.2.2.2.2.1
theorem dX2_swapRight_17 : decode cX2_swapRight 17 = .ok (.aload_n 0, 1) := bdX2_swapRight_0.2.2.2.2.2.2.2.2.2.2.2.2.1
theorem dX2_swapRight_18 : decode cX2_swapRight 18 = .ok (.getfield 11, 3) := bdX2_swapRight_0.2.2.2.2.2.2.2.2.2.2.2.2.2.1
theorem dX2_swapRight_21 : decode cX2_swapRight 21 = .ok (.iload_n 3, 1) := bdX2_swapRight_0.2.2.2.2.2.2.2.2.2.2.2.2.2.2.1
theorem dX2_swapRight_22 : decode cX2_swapRight 22 = .ok (.aaload, 1) := bdX2_swapRight_0.2.2.2.2.2.2.2.2.2.2.2.2.2.2.2
theorem bdX2_swapRight_23 : (decode cX2_swapRight 23 = .ok (.iload_n 1, 1)) ∧ (decode cX2_swapRight 24 = .ok (.aload_n 0, 1)) ∧ (decode cX2_swapRight 25 = .ok (.getfield 16, 3)) ∧ (decode cX2_swapRight 28 = .ok (.iload_n 3, 1)) ∧ (decode cX2_swapRight 29 = .ok (.laload, 1)) ∧ (decode cX2_swapRight 30 = .ok (.lastore, 1)) ∧ (decode cX2_swapRight 31 = .ok (.aload_n 0, 1)) ∧ (decode cX2_swapRight 32 = .ok (.getfield 16, 3)) ∧ (decode cX2_swapRight 35 = .ok (.iload_n 3, 1)) ∧ (decode cX2_swapRight 36 = .ok (.lload 4, 2)) ∧ (decode cX2_swapRight 38 = .ok (.lastore, 1)) ∧ (decode cX2_swapRight 39 = .ok (.iinc 3 1, 3)) ∧ (decode cX2_swapRight 42 = .ok (.goto (-40), 3)) ∧ (decode cX2_swapRight 45 = .ok (.return_, 1)) := by decide +kernel
theorem dX2_swapRight_23 : decode cX2_swapRight 23 = .ok (.iload_n 1, 1) := bdX2_swapRight_23.1
theorem dX2_swapRight_24 : decode cX2_swapRight 24 = .ok (.aload_n 0, 1) := bdX2_swapRight_23.2.1
theorem dX2_swapRight_25 : decode cX2_swapRight 25 = .ok (.getfield 16, 3) := bdX2_swapRight_23.2.2.1
theorem dX2_swapRight_28 : decode cX2_swapRight 28 = .ok (.iload_n 3, 1) := bdX2_swapRight_23.2.2.2.1
theorem dX2_swapRight_29 : decode cX2_swapRight 29 = .ok (.laload, 1) := bdX2_swapRight_23.2.2.2.2.1
theorem dX2_swapRight_30 : decode cX2_swapRight 30 = .ok (.lastore, 1) := bdX2_swapRight_23.2.2.2.2.2.1
theorem dX2_swapRight_31 : decode cX2_swapRight 31 = .ok (.aload_n 0, 1) := bdX2_swapRight_23.2.2.2.2.2.2.1
theorem dX2_swapRight_32 : decode cX2_swapRight 32 = .ok (.getfield 16, 3) := bdX2_swapRight_23.2.2.2.2.2.2.2.1
theorem dX2_swapRight_35 : decode cX2_swapRight 35 = .ok (.iload_n 3, 1) := bdX2_swapRight_23.2.2.2.2.2.2.2.2.1
theorem dX2_swapRight_36 : decode cX2_swapRight 36 = .ok (.lload 4, 2) := bdX2_swapRight_23.2.2.2.2.2.2.2.2.2.1
theorem dX2_swapRight_38 : decode cX2_swapRight 38 = .ok (.lastore, 1) := bdX2_swapRight_23.2.2.2.2.2.2.2.2.2.2.1
theorem dX2_swapRight_39 : decode cX2_swapRight 39 = .ok (.iinc 3 1, 3) := bdX2_swapRight_23.2.2.2.2.2.2.2.2.2.2.2.1
theorem dX2_swapRight_42 : decode cX2_swapRight 42 = .ok (.goto (-40), 3) := bdX2_swapRight_23.2.2.2.2.2.2.2.2.2.2.2.2.1
theorem dX2_swapRight_45 : decode cX2_swapRight 45 = .ok (.return_, 1) := bdX2_swapRight_23.2.2.2.2.2.2.2.2.2.2.2.2.2
set_option maxHeartbeats 4000000 in
set_option maxRecDepth 100000 in
theorem k_X2_swapRight (l : Launch) (dC : Nat → ClassId) (dI : Nat → Nat → Nat) (h : Nat → Nat) (cs : Nat → ClassId) (sz : Nat) (I : Nat → Int32) (L : Nat → Int64) (A : Nat → Nat → Int32) (Q : Nat → Nat → Int64) (G : Nat → Nat → Nat → Int32) (J : Nat → Nat → Nat → Int64) (cl w9 : Nat) (hcl : cl < 4) (hw4 : w9 ≤ 4) : Met l yX2_swapRight wsX2_swapRight ({ frames := 0, cells := 0, slots := 0, locals := 0 }) (va_Pc [.ref (h 106), .int (nI cl), .int (nI w9)] (xPre (dC, dI) (wLs h cs I L A Q G J) (tysA cs) sz)) (va_Qv (fun (u : CS) => ∃ q185 : Nat → Int64, ∃ j0 : Nat → Nat → Int64, (True) ∧ u = (I, L, A, (va_up Q 185 q185), G, (va_up J 0 j0))) (xB (dC, dI) (tysA cs) (va_A (wLs h cs I L A Q G J) sz) (fun u : CS => wLs h cs u.1 u.2.1 u.2.2.1 u.2.2.2.1 u.2.2.2.2.1 u.2.2.2.2.2)) (va_A (wLs h cs I L A Q G J) sz)) 0 0 (va_A (wLs h cs I L A Q G J) sz) := by
  refine Met.ofW (cc := cX2_swapRight) (maxL := 6) (ret := none) (by decide) rfl ?_
  intro p e s m args below meth c s₁ B hml hv
  obtain ⟨rfl, hsz, hP, hK, hD0, hN⟩ := hv
  have hx := B.exec
  have hb := B.bytes
  have hr := B.returns
  have hts := atoms_spec (ws := wsX2_swapRight) B.pre
  have hown : s.vm.findClass RX2 = some m.cls := findClass_of_methodNamed B.named
  have hlocks := B.notSynchronized
  subst hsz
  have hD := hD0.self (sz := s.heap.size)
  generalize hAe : va_A (wLs h cs I L A Q G J) s.heap.size = A0 at hD ⊢
  have hA : ∀ q : Nat, s.heap.size ≤ q → A0 q := fun q h => by rw [← hAe]; exact Or.inr h
  have hl := lv_entry ([.ref (h 106), .int (nI cl), .int (nI w9)]) (n := 6) (Nat.le_of_ble_eq_true rfl)
  rw [lg_entry_eq]
  generalize (lg_sl ([.ref (h 106), .int (nI cl), .int (nI w9)]) ++ List.replicate (6 - (lg_sl ([.ref (h 106), .int (nI cl), .int (nI w9)])).length) Slot.unset).toArray = ls at hl ⊢
  have hl : lv_has ls 6 [(0, .ref (h 106)), (1, .int (nI cl)), (2, .int (nI w9))] := hl
  generalize hH : s.heap = H at hP ⊢
  have hS : va_S A0 s.heap H [] := by rw [← hH]; exact va_S.rf
  have hinX2 : ∀ w ∈ wsX20, w ∈ wsX2_swapRight := by decide +kernel
  refine lv_iconst (v := nI 0) hx hb dX2_swapRight_0 (by decide) ?_
  refine lv_istore_n (lv' := [(3, .int (nI 0)), (0, .ref (h 106)), (1, .int (nI cl)), (2, .int (nI w9))]) hx hb dX2_swapRight_1 rfl hl (by decide) rfl (fun ls hl => ?_)
  have cut_2 : ∀ (nf : Nat) (k : Nat) (jj : Nat → Nat → Int64) (ff : Nat → Int64), (w9 - k) < nf → (k ≤ w9) → ∀ (H : Heap) (locs : List Loc) (ls : Array Slot), va_P (dC, dI) vwCl (wLs h cs I L A (va_up Q 185 ff) G (va_up J 0 jj)) H → va_D A0 (wLs h cs I L A (va_up Q 185 ff) G (va_up J 0 jj)) → va_S A0 s.heap H locs → lv_has ls 6 [(0, .ref (h 106)), (1, .int (nI cl)), (2, .int (nI w9)), (3, .int (nI k))] → W p l e (headSpec wsX2_swapRight ({ frames := 0, cells := 0, slots := 0, locals := 0 })).room s m ([.ref (h 106), .int (nI cl), .int (nI w9)] : List Value).toArray below meth c H locs 0 0 (MQ below (va_Qv (fun (u : CS) => ∃ q185 : Nat → Int64, ∃ j0 : Nat → Nat → Int64, (True) ∧ u = (I, L, A, (va_up Q 185 q185), G, (va_up J 0 j0))) (xB (dC, dI) (tysA cs) A0 (fun u : CS => wLs h cs u.1 u.2.1 u.2.2.1 u.2.2.2.1 u.2.2.2.2.1 u.2.2.2.2.2)) A0) ([.ref (h 106), .int (nI cl), .int (nI w9)] : List Value).toArray s 0 0 A0) (F0 m 2 ls []) := by
    intro nf
    induction nf with
    | zero => intro k jj ff hm; exact absurd hm (Nat.not_lt_zero _)
    | succ nf ih_2 =>
      intro k jj ff hm_2 hk2 H locs ls hP hD hS hl
      refine lv_iload_n hx hb dX2_swapRight_2 rfl (lv_at hl 3 rfl) ?_
      refine lv_iload_n hx hb dX2_swapRight_3 rfl (lv_at hl 2 rfl) ?_
      refine xn_ge (tgt := 45) hx hb dX2_swapRight_4 (by decide) (by omega) (by omega) (fun c_4_0 => ?_) (fun c_4_0 => ?_)
      · skip
        exact xr_v hx hb hr hlocks hK hS dX2_swapRight_45 (I, L, A, (va_up Q 185 ff), G, (va_up J 0 jj)) ⟨ff, jj, trivial, rfl⟩ hP hD
      · skip
        refine lv_aload_n hx hb dX2_swapRight_7 rfl (lv_at hl 0 rfl) ?_
        refine va_get (D := (dC, dI)) (ci := 2) (v := .ref (h 180)) (C := RX2) (T := TX2) (N := 5) hx hb hts hinX2 hown hK hP 0 rfl rfl 0 (by decide) (hts (.fieldLink RX2 11 "MixedWords$Least" "square" "[[J") (by decide +kernel)) (fun _ h9 => h9) rfl dX2_swapRight_8 ?_
        refine lv_iload_n hx hb dX2_swapRight_11 rfl (lv_at hl 3 rfl) ?_
        refine xa_aald (b := h (k + 181)) hx hb hK hP 1 4 rfl rfl rfl (by omega) (by decide) (if_pos (by omega)) dX2_swapRight_12 ?_
        refine lv_iload_n hx hb dX2_swapRight_13 rfl (lv_at hl 1 rfl) ?_
        refine xa_lald hx hb hK hP (2 + k) 1 (wLs_atJ0 (by omega)) rfl (by omega) (by decide) dX2_swapRight_14 ?_
        refine lv_topl (fun x_2 ex_2 => ?_)
        refine lv_lstore (lv' := [(4, .long x_2), (0, .ref (h 106)), (1, .int (nI cl)), (2, .int (nI w9)), (3, .int (nI k))]) hx hb dX2_swapRight_15 hl (by decide) rfl (fun ls hl => ?_)
        refine lv_aload_n hx hb dX2_swapRight_17 rfl (lv_at hl 1 rfl) ?_
        refine va_get (D := (dC, dI)) (ci := 2) (v := .ref (h 180)) (C := RX2) (T := TX2) (N := 5) hx hb hts hinX2 hown hK hP 0 rfl rfl 0 (by decide) (hts (.fieldLink RX2 11 "MixedWords$Least" "square" "[[J") (by decide +kernel)) (fun _ h9 => h9) rfl dX2_swapRight_18 ?_
        refine lv_iload_n hx hb dX2_swapRight_21 rfl (lv_at hl 4 rfl) ?_
        refine xa_aald (b := h (k + 181)) hx hb hK hP 1 4 rfl rfl rfl (by omega) (by decide) (if_pos (by omega)) dX2_swapRight_22 ?_
        refine lv_iload_n hx hb dX2_swapRight_23 rfl (lv_at hl 2 rfl) ?_
        refine lv_aload_n hx hb dX2_swapRight_24 rfl (lv_at hl 1 rfl) ?_
        refine va_get (D := (dC, dI)) (ci := 2) (v := .ref (h 185)) (C := RX2) (T := TX2) (N := 5) hx hb hts hinX2 hown hK hP 0 rfl rfl 1 (by decide) (hts (.fieldLink RX2 16 "MixedWords$Least" "right" "[J") (by decide +kernel)) (fun _ h9 => h9) rfl dX2_swapRight_25 ?_
        refine lv_iload_n hx hb dX2_swapRight_28 rfl (lv_at hl 4 rfl) ?_
        refine xa_lald hx hb hK hP 6 1 rfl rfl (by omega) (by decide) dX2_swapRight_29 ?_
        refine xa_last hx hb hK hP hD hS (2 + k) 1 (wLs_atJ0 (by omega)) rfl (by omega) (by decide) dX2_swapRight_30 (fun H locs hP hD hS => ?_)
        rw [wLs_setJ0 (by omega)] at hP hD
        have hP : va_P (dC, dI) vwCl (wLs h cs I L A (va_up Q 185 ff) G (va_up J 0 (va_up jj k (vp_updL (jj k) cl (ff k))))) H := hP
        have hD : va_D A0 (wLs h cs I L A (va_up Q 185 ff) G (va_up J 0 (va_up jj k (vp_updL (jj k) cl (ff k))))) := hD
        refine lv_aload_n hx hb dX2_swapRight_31 rfl (lv_at hl 1 rfl) ?_
        refine va_get (D := (dC, dI)) (ci := 2) (v := .ref (h 185)) (C := RX2) (T := TX2) (N := 5) hx hb hts hinX2 hown hK hP 0 rfl rfl 1 (by decide) (hts (.fieldLink RX2 16 "MixedWords$Least" "right" "[J") (by decide +kernel)) (fun _ h9 => h9) rfl dX2_swapRight_32 ?_
        refine lv_iload_n hx hb dX2_swapRight_35 rfl (lv_at hl 4 rfl) ?_
        refine lv_lload hx hb dX2_swapRight_36 (lv_at hl 0 rfl) ?_
        refine xa_last hx hb hK hP hD hS 6 1 rfl rfl (by omega) (by decide) dX2_swapRight_38 (fun H locs hP hD hS => ?_)
        have hP : va_P (dC, dI) vwCl (wLs h cs I L A (va_up Q 185 (vp_updL ff k x_2)) G (va_up J 0 (va_up jj k (vp_updL (jj k) cl (ff k))))) H := hP
        have hD : va_D A0 (wLs h cs I L A (va_up Q 185 (vp_updL ff k x_2)) G (va_up J 0 (va_up jj k (vp_updL (jj k) cl (ff k))))) := hD
        refine lv_iinc (v := nI (k + 1)) (lv' := [(3, .int (nI (k + 1))), (4, .long x_2), (0, .ref (h 106)), (1, .int (nI cl)), (2, .int (nI w9))]) hx hb dX2_swapRight_39 hl (k := 4) rfl (nI_1 _) (by decide) rfl (fun ls hl => ?_)
        refine lv_goto (tgt := 2) hx hb dX2_swapRight_42 (by decide) ?_
        exact ih_2 (k + 1) (va_up jj k (vp_updL (jj k) cl (ff k))) (vp_updL ff k x_2) (by omega) (by first | assumption | omega) _ _ _ hP hD hS (lv_sub hl [2, 3, 4, 0] rfl)
  exact cut_2 _ 0 (J 0) (Q 185) (Nat.lt_succ_self _) (by first | assumption | omega) _ _ _ hP hD hS (lv_sub hl [1, 2, 3, 0] rfl)
set_option maxRecDepth 20000 in
theorem ggX2_solve_X9_product : GoodIn wsX2_solve wsX9_product := goodIn_r _ [7] rfl (by decide +kernel)
set_option maxRecDepth 20000 in
theorem gX2_solve_X9_product_n40 : GoodIn wsX2_solve (wsX9_product) := ggX2_solve_X9_product
set_option maxRecDepth 20000 in
theorem ggX2_solve_X2_determinant : GoodIn wsX2_solve wsX2_determinant := goodIn_r _ [11, 8, 9, 10] rfl (by decide +kernel)
set_option maxRecDepth 20000 in
theorem gX2_solve_X2_determinant : GoodIn wsX2_solve (va_wsS RX2 44 yX2_determinant wsX2_determinant) := goodIn_app (goodIn_of _ (by decide +kernel)) ggX2_solve_X2_determinant
set_option maxRecDepth 20000 in
theorem ggX2_solve_X2_swapRight : GoodIn wsX2_solve wsX2_swapRight := goodIn_r _ [15, 2, 1, 16, 17, 18, 19, 20] rfl (by decide +kernel)
set_option maxRecDepth 20000 in
theorem gX2_solve_X2_swapRight : GoodIn wsX2_solve (wsV RX2 52 RX2 yX2_swapRight wsX2_swapRight) := goodIn_app (goodIn_of _ (by decide +kernel)) ggX2_solve_X2_swapRight
theorem bdX2_solve_0 : (decode cX2_solve 0 = .ok (.iconst 0, 1)) ∧ (decode cX2_solve 1 = .ok (.istore 5, 2)) ∧ (decode cX2_solve 3 = .ok (.iload 5, 2)) ∧ (decode cX2_solve 5 = .ok (.iload 4, 2)) ∧ (decode cX2_solve 7 = .ok (.if_icmp .ge 91, 3)) ∧ (decode cX2_solve 10 = .ok (.aload_n 0, 1)) ∧ (decode cX2_solve 11 = .ok (.getfield 16, 3)) ∧ (decode cX2_solve 14 = .ok (.iload 5, 2)) ∧ (decode cX2_solve 16 = .ok (.lconst 0, 1)) ∧ (decode cX2_solve 17 = .ok (.lastore, 1)) ∧ (decode cX2_solve 18 = .ok (.iconst 0, 1)) ∧ (decode cX2_solve 19 = .ok (.istore 6, 2)) ∧ (decode cX2_solve 21 = .ok (.iload 6, 2)) ∧ (decode cX2_solve 23 = .ok (.iload_n 3, 1)) ∧ (decode cX2_solve 24 = .ok (.if_icmp .ge 32, 3)) ∧ (decode cX2_solve 27 = .ok (.aload_n 0, 1)) := by decide +kernel
theorem dX2_solve_0 : decode cX2_solve 0 = .ok (.iconst 0, 1) := bdX2_solve_0.1
theorem dX2_solve_1 : decode cX2_solve 1 = .ok (.istore 5, 2) := bdX2_solve_0.2.1
theorem dX2_solve_3 : decode cX2_solve 3 = .ok (.iload 5, 2) := bdX2_solve_0.2.2.1
theorem dX2_solve_5 : decode cX2_solve 5 = .ok (.iload 4, 2) := bdX2_solve_0.2.2.2.1
theorem dX2_solve_7 : decode cX2_solve 7 = .ok (.if_icmp .ge 91, 3) := bdX2_solve_0.2.2.2.2.1
theorem dX2_solve_10 : decode cX2_solve 10 = .ok (.aload_n 0, 1) := bdX2_solve_0.2.2.2.2.2.1
theorem dX2_solve_11 : decode cX2_solve 11 = .ok (.getfield 16, 3) := bdX2_solve_0.2.2.2.2.2.2.1
theorem dX2_solve_14 : decode cX2_solve 14 = .ok (.iload 5, 2) := bdX2_solve_0.2.2.2.2.2.2.2.1
theorem dX2_solve_16 : decode cX2_solve 16 = .ok (.lconst 0, 1) := bdX2_solve_0.2.2.2.2.2.2.2.2.1
theorem dX2_solve_17 : decode cX2_solve 17 = .ok (.lastore, 1) := bdX2_solve_0.2.2.2.2.2.2.2.2.2.1
theorem dX2_solve_18 : decode cX2_solve 18 = .ok (.iconst 0, 1) := bdX2_solve_0.2.2.2.2.2.2.2.2.2.2.1
theorem dX2_solve_19 : decode cX2_solve 19 = .ok (.istore 6, 2) := bdX2_solve_0.2.2.2.2.2.2.2.2.2.2.2.1
theorem dX2_solve_21 : decode cX2_solve 21 = .ok (.iload 6, 2) := bdX2_solve_0.2.2.2.2.2.2.2.2.2.2.2.2.1
theorem dX2_solve_23 : decode cX2_solve 23 = .ok (.iload_n 3, 1) := bdX2_solve_0.2.2.2.2.2.2.2.2.2.2.2.2.2.1
theorem dX2_solve_24 : decode cX2_solve 24 = .ok (.if_icmp .ge 32, 3) := bdX2_solve_0.2.2.2.2.2.2.2.2.2.2.2.2.2.2.1
theorem dX2_solve_27 : decode cX2_solve 27 = .ok (.aload_n 0, 1) := bdX2_solve_0.2.2.2.2.2.2.2.2.2.2.2.2.2.2.2
theorem bdX2_solve_28 : (decode cX2_solve 28 = .ok (.getfield 16, 3)) ∧ (decode cX2_solve 31 = .ok (.iload 5, 2)) ∧ (decode cX2_solve 33 = .ok (.dup2, 1)) ∧ (decode cX2_solve 34 = .ok (.laload, 1)) ∧ (decode cX2_solve 35 = .ok (.aload_n 1, 1)) ∧ (decode cX2_solve 36 = .ok (.iload 6, 2)) ∧ (decode cX2_solve 38 = .ok (.aaload, 1)) ∧ (decode cX2_solve 39 = .ok (.iload 5, 2)) ∧ (decode cX2_solve 41 = .ok (.iaload, 1)) ∧ (decode cX2_solve 42 = .ok (.aload_n 2, 1)) ∧ (decode cX2_solve 43 = .ok (.iload 6, 2)) ∧ (decode cX2_solve 45 = .ok (.iaload, 1)) ∧ (decode cX2_solve 46 = .ok (.imul, 1)) ∧ (decode cX2_solve 47 = .ok (.i2l, 1)) ∧ (decode cX2_solve 48 = .ok (.ladd, 1)) ∧ (decode cX2_solve 49 = .ok (.lastore, 1)) := by decide +kernel
theorem dX2_solve_28 : decode cX2_solve 28 = .ok (.getfield 16, 3) := bdX2_solve_28.1
theorem dX2_solve_31 : decode cX2_solve 31 = .ok (.iload 5, 2) := bdX2_solve_28.2.1
theorem dX2_solve_33 : decode cX2_solve 33 = .ok (.dup2, 1) := bdX2_solve_28.2.2.1
theorem dX2_solve_34 : decode cX2_solve 34 = .ok (.laload, 1) := bdX2_solve_28.2.2.2.1
theorem dX2_solve_35 : decode cX2_solve 35 = .ok (.aload_n 1, 1) := bdX2_solve_28.2.2.2.2.1
theorem dX2_solve_36 : decode cX2_solve 36 = .ok (.iload 6, 2) := bdX2_solve_28.2.2.2.2.2.1
theorem dX2_solve_38 : decode cX2_solve 38 = .ok (.aaload, 1) := bdX2_solve_28.2.2.2.2.2.2.1
theorem dX2_solve_39 : decode cX2_solve 39 = .ok (.iload 5, 2) := bdX2_solve_28.2.2.2.2.2.2.2.1
theorem dX2_solve_41 : decode cX2_solve 41 = .ok (.iaload, 1) := bdX2_solve_28.2.2.2.2.2.2.2.2.1
theorem dX2_solve_42 : decode cX2_solve 42 = .ok (.aload_n 2, 1) := bdX2_solve_28.2.2.2.2.2.2.2.2.2.1
theorem dX2_solve_43 : decode cX2_solve 43 = .ok (.iload 6, 2) := bdX2_solve_28.2.2.2.2.2.2.2.2.2.2.1
theorem dX2_solve_45 : decode cX2_solve 45 = .ok (.iaload, 1) := bdX2_solve_28.2.2.2.2.2.2.2.2.2.2.2.1
theorem dX2_solve_46 : decode cX2_solve 46 = .ok (.imul, 1) := bdX2_solve_28.2.2.2.2.2.2.2.2.2.2.2.2.1
theorem dX2_solve_47 : decode cX2_solve 47 = .ok (.i2l, 1) := bdX2_solve_28.2.2.2.2.2.2.2.2.2.2.2.2.2.1
theorem dX2_solve_48 : decode cX2_solve 48 = .ok (.ladd, 1) := bdX2_solve_28.2.2.2.2.2.2.2.2.2.2.2.2.2.2.1
theorem dX2_solve_49 : decode cX2_solve 49 = .ok (.lastore, 1) := bdX2_solve_28.2.2.2.2.2.2.2.2.2.2.2.2.2.2.2
theorem bdX2_solve_50 : (decode cX2_solve 50 = .ok (.iinc 6 1, 3)) ∧ (decode cX2_solve 53 = .ok (.goto (-32), 3)) ∧ (decode cX2_solve 56 = .ok (.iconst 0, 1)) ∧ (decode cX2_solve 57 = .ok (.istore 6, 2)) ∧ (decode cX2_solve 59 = .ok (.iload 6, 2)) ∧ (decode cX2_solve 61 = .ok (.iload 4, 2)) ∧ (decode cX2_solve 63 = .ok (.if_icmp .ge 29, 3)) ∧ (decode cX2_solve 66 = .ok (.aload_n 0, 1)) ∧ (decode cX2_solve 67 = .ok (.getfield 11, 3)) ∧ (decode cX2_solve 70 = .ok (.iload 5, 2)) ∧ (decode cX2_solve 72 = .ok (.aaload, 1)) ∧ (decode cX2_solve 73 = .ok (.iload 6, 2)) ∧ (decode cX2_solve 75 = .ok (.aload_n 1, 1)) ∧ (decode cX2_solve 76 = .ok (.iload_n 3, 1)) ∧ (decode cX2_solve 77 = .ok (.iload 5, 2)) ∧ (decode cX2_solve 79 = .ok (.iload 6, 2)) := by decide +kernel
theorem dX2_solve_50 : decode cX2_solve 50 = .ok (.iinc 6 1, 3) := bdX2_solve_50.1
theorem dX2_solve_53 : decode cX2_solve 53 = .ok (.goto (-32), 3) := bdX2_solve_50.2.1
theorem dX2_solve_56 : decode cX2_solve 56 = .ok (.iconst 0, 1) := bdX2_solve_50.2.2.1
theorem dX2_solve_57 : decode cX2_solve 57 = .ok (.istore 6, 2) := bdX2_solve_50.2.2.2.1
theorem dX2_solve_59 : decode cX2_solve 59 = .ok (.iload 6, 2) := bdX2_solve_50.2.2.2.2.1
theorem dX2_solve_61 : decode cX2_solve 61 = .ok (.iload 4, 2) := bdX2_solve_50.2.2.2.2.2.1
theorem dX2_solve_63 : decode cX2_solve 63 = .ok (.if_icmp .ge 29, 3) := bdX2_solve_50.2.2.2.2.2.2.1
theorem dX2_solve_66 : decode cX2_solve 66 = .ok (.aload_n 0, 1) := bdX2_solve_50.2.2.2.2.2.2.2.1
theorem dX2_solve_67 : decode cX2_solve 67 = .ok (.getfield 11, 3) := bdX2_solve_50.2.2.2.2.2.2.2.2.1
theorem dX2_solve_70 : decode cX2_solve 70 = .ok (.iload 5, 2) := bdX2_solve_50.2.2.2.2.2.2.2.2.2.1
theorem dX2_solve_72 : decode cX2_solve 72 = .ok (.aaload, 1) := bdX2_solve_50.2.2.2.2.2.2.2.2.2.2.1
theorem dX2_solve_73 : decode cX2_solve 73 = .ok (.iload 6, 2) := bdX2_solve_50.2.2.2.2.2.2.2.2.2.2.2.1
theorem dX2_solve_75 : decode cX2_solve 75 = .ok (.aload_n 1, 1) := bdX2_solve_50.2.2.2.2.2.2.2.2.2.2.2.2.1
theorem dX2_solve_76 : decode cX2_solve 76 = .ok (.iload_n 3, 1) := bdX2_solve_50.2.2.2.2.2.2.2.2.2.2.2.2.2.1
theorem dX2_solve_77 : decode cX2_solve 77 = .ok (.iload 5, 2) := bdX2_solve_50.2.2.2.2.2.2.2.2.2.2.2.2.2.2.1
theorem dX2_solve_79 : decode cX2_solve 79 = .ok (.iload 6, 2) := bdX2_solve_50.2.2.2.2.2.2.2.2.2.2.2.2.2.2.2
theorem bdX2_solve_81 : (decode cX2_solve 81 = .ok (.invokestatic 40, 3)) ∧ (decode cX2_solve 84 = .ok (.i2l, 1)) ∧ (decode cX2_solve 85 = .ok (.lastore, 1)) ∧ (decode cX2_solve 86 = .ok (.iinc 6 1, 3)) ∧ (decode cX2_solve 89 = .ok (.goto (-30), 3)) ∧ (decode cX2_solve 92 = .ok (.iinc 5 1, 3)) ∧ (decode cX2_solve 95 = .ok (.goto (-92), 3)) ∧ (decode cX2_solve 98 = .ok (.aload_n 0, 1)) ∧ (decode cX2_solve 99 = .ok (.aload_n 0, 1)) ∧ (decode cX2_solve 100 = .ok (.getfield 11, 3)) ∧ (decode cX2_solve 103 = .ok (.iload 4, 2)) ∧ (decode cX2_solve 105 = .ok (.iconst 0, 1)) ∧ (decode cX2_solve 106 = .ok (.iconst 1, 1)) ∧ (decode cX2_solve 107 = .ok (.iload 4, 2)) ∧ (decode cX2_solve 109 = .ok (.ishl, 1)) ∧ (decode cX2_solve 110 = .ok (.iconst 1, 1)) := by decide +kernel
theorem dX2_solve_81 : decode cX2_solve 81 = .ok (.invokestatic 40, 3) := bdX2_solve_81.1
theorem dX2_solve_84 : decode cX2_solve 84 = .ok (.i2l, 1) := bdX2_solve_81.2.1
theorem dX2_solve_85 : decode cX2_solve 85 = .ok (.lastore, 1) := bdX2_solve_81.2.2.1
theorem dX2_solve_86 : decode cX2_solve 86 = .ok (.iinc 6 1, 3) := bdX2_solve_81.2.2.2.1
theorem dX2_solve_89 : decode cX2_solve 89 = .ok (.goto (-30), 3) := bdX2_solve_81.2.2.2.2.1
theorem dX2_solve_92 : decode cX2_solve 92 = .ok (.iinc 5 1, 3) := bdX2_solve_81.2.2.2.2.2.1
theorem dX2_solve_95 : decode cX2_solve 95 = .ok (.goto (-92), 3) := bdX2_solve_81.2.2.2.2.2.2.1
theorem dX2_solve_98 : decode cX2_solve 98 = .ok (.aload_n 0, 1) := bdX2_solve_81.2.2.2.2.2.2.2.1
theorem dX2_solve_99 : decode cX2_solve 99 = .ok (.aload_n 0, 1) := bdX2_solve_81.2.2.2.2.2.2.2.2.1
theorem dX2_solve_100 : decode cX2_solve 100 = .ok (.getfield 11, 3) := bdX2_solve_81.2.2.2.2.2.2.2.2.2.1
theorem dX2_solve_103 : decode cX2_solve 103 = .ok (.iload 4, 2) := bdX2_solve_81.2.2.2.2.2.2.2.2.2.2.1
theorem dX2_solve_105 : decode cX2_solve 105 = .ok (.iconst 0, 1) := bdX2_solve_81.2.2.2.2.2.2.2.2.2.2.2.1
theorem dX2_solve_106 : decode cX2_solve 106 = .ok (.iconst 1, 1) := bdX2_solve_81.2.2.2.2.2.2.2.2.2.2.2.2.1
theorem dX2_solve_107 : decode cX2_solve 107 = .ok (.iload 4, 2) := bdX2_solve_81.2.2.2.2.2.2.2.2.2.2.2.2.2.1
theorem dX2_solve_109 : decode cX2_solve 109 = .ok (.ishl, 1) := bdX2_solve_81.2.2.2.2.2.2.2.2.2.2.2.2.2.2.1
theorem dX2_solve_110 : decode cX2_solve 110 = .ok (.iconst 1, 1) := bdX2_solve_81.2.2.2.2.2.2.2.2.2.2.2.2.2.2.2
theorem bdX2_solve_111 : (decode cX2_solve 111 = .ok (.isub, 1)) ∧ (decode cX2_solve 112 = .ok (.invokestatic 44, 3)) ∧ (decode cX2_solve 115 = .ok (.putfield 48, 3)) ∧ (decode cX2_solve 118 = .ok (.iconst 0, 1)) ∧ (decode cX2_solve 119 = .ok (.istore 5, 2)) ∧ (decode cX2_solve 121 = .ok (.iload 5, 2)) ∧ (decode cX2_solve 123 = .ok (.iload 4, 2)) ∧ (decode cX2_solve 125 = .ok (.if_icmp .ge 48, 3)) ∧ (decode cX2_solve 128 = .ok (.aload_n 0, 1)) ∧ (decode cX2_solve 129 = .ok (.iload 5, 2)) ∧ (decode cX2_solve 131 = .ok (.iload 4, 2)) ∧ (decode cX2_solve 133 = .ok (.invokevirtual 52, 3)) ∧ (decode cX2_solve 136 = .ok (.aload_n 0, 1)) ∧ (decode cX2_solve 137 = .ok (.getfield 24, 3)) ∧ (decode cX2_solve 140 = .ok (.iload 5, 2)) ∧ (decode cX2_solve 142 = .ok (.aload_n 0, 1)) := by decide +kernel
theorem dX2_solve_111 : decode cX2_solve 111 = .ok (.isub, 1) := bdX2_solve_111.1
theorem dX2_solve_112 : decode cX2_solve 112 = .ok (.invokestatic 44, 3) := bdX2_solve_111.2.1
theorem dX2_solve_115 : decode cX2_solve 115 = .ok (.putfield 48, 3) := bdX2_solve_111.2.2.1
theorem dX2_solve_118 : decode cX2_solve 118 = .ok (.iconst 0, 1) := bdX2_solve_111.2.2.2.1
theorem dX2_solve_119 : decode cX2_solve 119 = .ok (.istore 5, 2) := bdX2_solve_111.2.2.2.2.1
theorem dX2_solve_121 : decode cX2_solve 121 = .ok (.iload 5, 2) := bdX2_solve_111.2.2.2.2.2.1
theorem dX2_solve_123 : decode cX2_solve 123 = .ok (.iload 4, 2) := bdX2_solve_111.2.2.2.2.2.2.1
theorem dX2_solve_125 : decode cX2_solve 125 = .ok (.if_icmp .ge 48, 3) := bdX2_solve_111.2.2.2.2.2.2.2.1
theorem dX2_solve_128 : decode cX2_solve 128 = .ok (.aload_n 0, 1) := bdX2_solve_111.2.2.2.2.2.2.2.2.1
theorem dX2_solve_129 : decode cX2_solve 129 = .ok (.iload 5, 2) := bdX2_solve_111.2.2.2.2.2.2.2.2.2.1
theorem dX2_solve_131 : decode cX2_solve 131 = .ok (.iload 4, 2) := bdX2_solve_111.2.2.2.2.2.2.2.2.2.2.1
theorem dX2_solve_133 : decode cX2_solve 133 = .ok (.invokevirtual 52, 3) := bdX2_solve_111.2.2.2.2.2.2.2.2.2.2.2.1
theorem dX2_solve_136 : decode cX2_solve 136 = .ok (.aload_n 0, 1) := bdX2_solve_111.2.2.2.2.2.2.2.2.2.2.2.2.1
theorem dX2_solve_137 : decode cX2_solve 137 = .ok (.getfield 24, 3) := bdX2_solve_111.2.2.2.2.2.2.2.2.2.2.2.2.2.1
theorem dX2_solve_140 : decode cX2_solve 140 = .ok (.iload 5, 2) := bdX2_solve_111.2.2.2.2.2.2.2.2.2.2.2.2.2.2.1
theorem dX2_solve_142 : decode cX2_solve 142 = .ok (.aload_n 0, 1) := bdX2_solve_111.2.2.2.2.2.2.2.2.2.2.2.2.2.2.2
theorem bdX2_solve_143 : (decode cX2_solve 143 = .ok (.getfield 11, 3)) ∧ (decode cX2_solve 146 = .ok (.iload 4, 2)) ∧ (decode cX2_solve 148 = .ok (.iconst 0, 1)) ∧ (decode cX2_solve 149 = .ok (.iconst 1, 1)) ∧ (decode cX2_solve 150 = .ok (.iload 4, 2)) ∧ (decode cX2_solve 152 = .ok (.ishl, 1)) ∧ (decode cX2_solve 153 = .ok (.iconst 1, 1)) ∧ (decode cX2_solve 154 = .ok (.isub, 1)) ∧ (decode cX2_solve 155 = .ok (.invokestatic 44, 3)) ∧ (decode cX2_solve 158 = .ok (.lastore, 1)) ∧ (decode cX2_solve 159 = .ok (.aload_n 0, 1)) ∧ (decode cX2_solve 160 = .ok (.iload 5, 2)) ∧ (decode cX2_solve 162 = .ok (.iload 4, 2)) ∧ (decode cX2_solve 164 = .ok (.invokevirtual 52, 3)) ∧ (decode cX2_solve 167 = .ok (.iinc 5 1, 3)) ∧ (decode cX2_solve 170 = .ok (.goto (-49), 3)) := by decide +kernel
theorem dX2_solve_143 : decode cX2_solve 143 = .ok (.getfield 11, 3) := bdX2_solve_143.1
theorem dX2_solve_146 : decode cX2_solve 146 = .ok (.iload 4, 2) := bdX2_solve_143.2.1
theorem dX2_solve_148 : decode cX2_solve 148 = .ok (.iconst 0, 1) := bdX2_solve_143.2.2.1
theorem dX2_solve_149 : decode cX2_solve 149 = .ok (.iconst 1, 1) := bdX2_solve_143.2.2.2.1
theorem dX2_solve_150 : decode cX2_solve 150 = .ok (.iload 4, 2) := bdX2_solve_143.2.2.2.2.1
theorem dX2_solve_152 : decode cX2_solve 152 = .ok (.ishl, 1) := bdX2_solve_143.2.2.2.2.2.1
theorem dX2_solve_153 : decode cX2_solve 153 = .ok (.iconst 1, 1) := bdX2_solve_143.2.2.2.2.2.2.1
theorem dX2_solve_154 : decode cX2_solve 154 = .ok (.isub, 1) := bdX2_solve_143.2.2.2.2.2.2.2.1
theorem dX2_solve_155 : decode cX2_solve 155 = .ok (.invokestatic 44, 3) := bdX2_solve_143.2.2.2.2.2.2.2.2.1
theorem dX2_solve_158 : decode cX2_solve 158 = .ok (.lastore, 1) := bdX2_solve_143.2.2.2.2.2.2.2.2.2.1
theorem dX2_solve_159 : decode cX2_solve 159 = .ok (.aload_n 0, 1) := bdX2_solve_143.2.2.2.2.2.2.2.2.2.2.1
theorem dX2_solve_160 : decode cX2_solve 160 = .ok (.iload 5, 2) := bdX2_solve_143.2.2.2.2.2.2.2.2.2.2.2.1
theorem dX2_solve_162 : decode cX2_solve 162 = .ok (.iload 4, 2) := bdX2_solve_143.2.2.2.2.2.2.2.2.2.2.2.2.1
theorem dX2_solve_164 : decode cX2_solve 164 = .ok (.invokevirtual 52, 3) := bdX2_solve_143.2.2.2.2.2.2.2.2.2.2.2.2.2.1
theorem dX2_solve_167 : decode cX2_solve 167 = .ok (.iinc 5 1, 3) := bdX2_solve_143.2.2.2.2.2.2.2.2.2.2.2.2.2.2.1
theorem dX2_solve_170 : decode cX2_solve 170 = .ok (.goto (-49), 3) := bdX2_solve_143.2.2.2.2.2.2.2.2.2.2.2.2.2.2.2
theorem dX2_solve_173 : decode cX2_solve 173 = .ok (.return_, 1) := by decide +kernel
set_option maxHeartbeats 4000000 in
set_option maxRecDepth 100000 in
theorem k_X2_solveM (l : Launch) (dC : Nat → ClassId) (dI : Nat → Nat → Nat) (h : Nat → Nat) (cs : Nat → ClassId) (sz : Nat) (I : Nat → Int32) (L : Nat → Int64) (A : Nat → Nat → Int32) (Q : Nat → Nat → Int64) (G : Nat → Nat → Nat → Int32) (J : Nat → Nat → Nat → Int64) (R M : Nat) (hR5 : R ≤ 5) (hM4 : M ≤ 4) : Met l yX2_solve wsX2_solve ({ frames := 5, cells := 0, slots := 0, locals := 140 }) (va_Pc [.ref (h 106), .ref (h 130), .ref (h 136), .int (nI R), .int (nI M)] (xPre (dC, dI) (wSv h cs I L A Q G J) (tysA cs) sz)) (va_Qv (fun (u : CS) => ∃ l188 : Int64, ∃ q185 : Nat → Int64, ∃ q187 : Nat → Int64, ∃ j0 : Nat → Nat → Int64, (True) ∧ u = (I, (va_up L 188 l188), A, (va_up (va_up Q 185 q185) 187 q187), G, (va_up J 0 j0))) (xB (dC, dI) (tysA cs) (va_A (wSv h cs I L A Q G J) sz) (fun u : CS => wSv h cs u.1 u.2.1 u.2.2.1 u.2.2.2.1 u.2.2.2.2.1 u.2.2.2.2.2)) (va_A (wSv h cs I L A Q G J) sz)) 0 0 (va_A (wSv h cs I L A Q G J) sz) := by
  refine Met.ofW (cc := cX2_solve) (maxL := 7) (ret := none) (by decide) rfl ?_
  intro p e s m args below meth c s₁ B hml hv
  obtain ⟨rfl, hsz, hP, hK, hD0, hN⟩ := hv
  have hx := B.exec
  have hb := B.bytes
  have hr := B.returns
  have hts := atoms_spec (ws := wsX2_solve) B.pre
  have hown : s.vm.findClass RX2 = some m.cls := findClass_of_methodNamed B.named
  have hlocks := B.notSynchronized
  subst hsz
  have hD := hD0.self (sz := s.heap.size)
  generalize hAe : va_A (wSv h cs I L A Q G J) s.heap.size = A0 at hD ⊢
  have hA : ∀ q : Nat, s.heap.size ≤ q → A0 q := fun q h => by rw [← hAe]; exact Or.inr h
  have hl := lv_entry ([.ref (h 106), .ref (h 130), .ref (h 136), .int (nI R), .int (nI M)]) (n := 7) (Nat.le_of_ble_eq_true rfl)
  rw [lg_entry_eq]
  generalize (lg_sl ([.ref (h 106), .ref (h 130), .ref (h 136), .int (nI R), .int (nI M)]) ++ List.replicate (7 - (lg_sl ([.ref (h 106), .ref (h 130), .ref (h 136), .int (nI R), .int (nI M)])).length) Slot.unset).toArray = ls at hl ⊢
  have hl : lv_has ls 7 [(0, .ref (h 106)), (1, .ref (h 130)), (2, .ref (h 136)), (3, .int (nI R)), (4, .int (nI M))] := hl
  generalize hH : s.heap = H at hP ⊢
  have hS : va_S A0 s.heap H [] := by rw [← hH]; exact va_S.rf
  have hinX2 : ∀ w ∈ wsX20, w ∈ wsX2_solve := by decide +kernel
  refine lv_iconst (v := nI 0) hx hb dX2_solve_0 (by decide) ?_
  refine lv_istore (lv' := [(5, .int (nI 0)), (0, .ref (h 106)), (1, .ref (h 130)), (2, .ref (h 136)), (3, .int (nI R)), (4, .int (nI M))]) hx hb dX2_solve_1 hl (by decide) rfl (fun ls hl => ?_)
  have cut_3 : ∀ (nf : Nat) (i5 : Nat) (jj : Nat → Nat → Int64) (ff : Nat → Int64), (M - i5) < nf → (i5 ≤ M) → ∀ (H : Heap) (locs : List Loc) (ls : Array Slot), va_P (dC, dI) vwCl (wSv h cs I L A (va_up Q 185 ff) G (va_up J 0 jj)) H → va_D A0 (wSv h cs I L A (va_up Q 185 ff) G (va_up J 0 jj)) → va_S A0 s.heap H locs → lv_has ls 7 [(0, .ref (h 106)), (1, .ref (h 130)), (2, .ref (h 136)), (3, .int (nI R)), (4, .int (nI M)), (5, .int (nI i5))] → W p l e (headSpec wsX2_solve ({ frames := 5, cells := 0, slots := 0, locals := 140 })).room s m ([.ref (h 106), .ref (h 130), .ref (h 136), .int (nI R), .int (nI M)] : List Value).toArray below meth c H locs 0 0 (MQ below (va_Qv (fun (u : CS) => ∃ l188 : Int64, ∃ q185 : Nat → Int64, ∃ q187 : Nat → Int64, ∃ j0 : Nat → Nat → Int64, (True) ∧ u = (I, (va_up L 188 l188), A, (va_up (va_up Q 185 q185) 187 q187), G, (va_up J 0 j0))) (xB (dC, dI) (tysA cs) A0 (fun u : CS => wSv h cs u.1 u.2.1 u.2.2.1 u.2.2.2.1 u.2.2.2.2.1 u.2.2.2.2.2)) A0) ([.ref (h 106), .ref (h 130), .ref (h 136), .int (nI R), .int (nI M)] : List Value).toArray s 0 0 A0) (F0 m 3 ls []) := by
    intro nf
    induction nf with
    | zero => intro i5 jj ff hm; exact absurd hm (Nat.not_lt_zero _)
    | succ nf ih_3 =>
      intro i5 jj ff hm_3 hi3 H locs ls hP hD hS hl
      refine lv_iload hx hb dX2_solve_3 (lv_at hl 5 rfl) ?_
      refine lv_iload hx hb dX2_solve_5 (lv_at hl 4 rfl) ?_
      refine xn_ge (tgt := 98) hx hb dX2_solve_7 (by decide) (by omega) (by omega) (fun c_7_0 => ?_) (fun c_7_0 => ?_)
      · skip
        refine lv_aload_n hx hb dX2_solve_98 rfl (lv_at hl 0 rfl) ?_
        refine lv_aload_n hx hb dX2_solve_99 rfl (lv_at hl 0 rfl) ?_
        refine va_get (D := (dC, dI)) (ci := 2) (v := .ref (h 180)) (C := RX2) (T := TX2) (N := 5) hx hb hts hinX2 hown hK hP 0 rfl rfl 0 (by decide) (hts (.fieldLink RX2 11 "MixedWords$Least" "square" "[[J") (by decide +kernel)) (fun _ h9 => h9) rfl dX2_solve_100 ?_
        refine lv_iload hx hb dX2_solve_103 (lv_at hl 4 rfl) ?_
        refine lv_iconst (v := nI 0) hx hb dX2_solve_105 (by decide) ?_
        refine lv_iconst (v := nI 1) hx hb dX2_solve_106 (by decide) ?_
        refine lv_iload hx hb dX2_solve_107 (lv_at hl 4 rfl) ?_
        refine lv_ishl hx hb dX2_solve_109 ?_
        refine lv_iconst (v := nI 1) hx hb dX2_solve_110 (by decide) ?_
        refine lv_isub hx hb dX2_solve_111 ?_
        refine xj_l (wc := (wSq h cs I L A (va_up Q 185 ff) G (va_up J 0 jj))) (wr := [(h 106, .inr (2, [.ref (h 180), .ref (h 185), .ref (h 186), .ref (h 187), .long (L 188)])), (h 185, .inl (cs 1, 4, .inr (.inl ff))), (h 186, .inl (cs 0, 4, .inl (A 186))), (h 187, .inl (cs 1, 4, .inr (.inl (Q 187)))), (h 130, .inl (cs 3, 5, .inr (.inr (.inr (.inr (fun i => if i < 5 then some (h (i + 131)) else none)))))), (h 131, .inl (cs 0, 4, .inl ((G 0) 0))), (h 132, .inl (cs 0, 4, .inl ((G 0) 1))), (h 133, .inl (cs 0, 4, .inl ((G 0) 2))), (h 134, .inl (cs 0, 4, .inl ((G 0) 3))), (h 135, .inl (cs 0, 4, .inl ((G 0) 4))), (h 136, .inl (cs 0, 5, .inl (A 136)))]) hP hD hS hA [1, 2, 3, 4, 5] [0, 6, 7, 8, 9, 10, 11, 12, 13, 14, 15] rfl rfl (by decide +kernel) (by decide +kernel) (va_runS (As := [.ref (h 180), .int (nI M), .int (nI 0), .int (((nI 1) <<< ((nI M) &&& 31)) - (nI 1))]) (rest := [.ref (h 106)]) ⟨hx, hb, hml, hown, hts⟩ (k_det_0 l dC dI h cs H.size I L A (va_up Q 185 ff) G (va_up J 0 jj) M (((nI 1) <<< ((nI M) &&& 31)) - (nI 1)) (by first | assumption | omega)) (va_cwS 4 hts gX2_solve_X2_determinant rfl rfl rfl (by decide +kernel) ⟨Nat.le_of_ble_eq_true rfl, Nat.le_of_ble_eq_true rfl⟩) (xpS (wc := (wSq h cs I L A (va_up Q 185 ff) G (va_up J 0 jj))) hP hD hK hN [1, 2, 3, 4, 5] rfl (by decide) _) rfl rfl hl.1 rfl (lv_room (Nat.le_of_ble_eq_true rfl)) dX2_solve_112 ⟨Nat.zero_le _, Nat.zero_le _⟩) (fun r_3 u_2 H locs hw hP hD hS => ?_)
        obtain ⟨hf_4, rfl⟩ := hw
        have hP : va_P (dC, dI) vwCl (wSv h cs I L A (va_up Q 185 ff) G (va_up J 0 jj)) H := xP_sub hP [0, 11, 12, 13, 14, 15, 1, 2, 3, 4, 5, 6, 7, 8, 9, 10] rfl
        have hD : va_D A0 (wSv h cs I L A (va_up Q 185 ff) G (va_up J 0 jj)) := hD.sub [0, 11, 12, 13, 14, 15, 1, 2, 3, 4, 5, 6, 7, 8, 9, 10] (by decide +kernel) rfl
        refine va_put (D := (dC, dI)) (ci := 2) (v := .long r_3) (ty := .long) (C := RX2) (T := TX2) (N := 5) hx hb hts hinX2 tyX2 tyX2_ok nmX2 hown hK hP hD hS 0 rfl rfl 4 (by decide) (hts (.fieldLink RX2 48 "MixedWords$Least" "below" "J") (by decide +kernel)) (fun _ h9 => h9) rfl (by decide +kernel) rfl rfl (Nat.le_of_ble_eq_true rfl) dX2_solve_115 (fun H locs hP hD hS => ?_)
        have hP : va_P (dC, dI) vwCl (wSv h cs I (va_up L 188 r_3) A (va_up Q 185 ff) G (va_up J 0 jj)) H := hP
        have hD : va_D A0 (wSv h cs I (va_up L 188 r_3) A (va_up Q 185 ff) G (va_up J 0 jj)) := hD
        refine lv_iconst (v := nI 0) hx hb dX2_solve_118 (by decide) ?_
        refine lv_istore (lv' := [(5, .int (nI 0)), (0, .ref (h 106)), (1, .ref (h 130)), (2, .ref (h 136)), (3, .int (nI R)), (4, .int (nI M))]) hx hb dX2_solve_119 hl (by decide) rfl (fun ls hl => ?_)
        have cut_121 : ∀ (nf : Nat) (c5 : Nat) (j3 : Nat → Nat → Int64) (f3 : Nat → Int64) (f4 : Nat → Int64), (M - c5) < nf → (c5 ≤ M) → ∀ (H : Heap) (locs : List Loc) (ls : Array Slot), va_P (dC, dI) vwCl (wSv h cs I (va_up L 188 r_3) A (va_up (va_up Q 185 f3) 187 f4) G (va_up J 0 j3)) H → va_D A0 (wSv h cs I (va_up L 188 r_3) A (va_up (va_up Q 185 f3) 187 f4) G (va_up J 0 j3)) → va_S A0 s.heap H locs → lv_has ls 7 [(0, .ref (h 106)), (1, .ref (h 130)), (2, .ref (h 136)), (3, .int (nI R)), (4, .int (nI M)), (5, .int (nI c5))] → W p l e (headSpec wsX2_solve ({ frames := 5, cells := 0, slots := 0, locals := 140 })).room s m ([.ref (h 106), .ref (h 130), .ref (h 136), .int (nI R), .int (nI M)] : List Value).toArray below meth c H locs 0 0 (MQ below (va_Qv (fun (u : CS) => ∃ l188 : Int64, ∃ q185 : Nat → Int64, ∃ q187 : Nat → Int64, ∃ j0 : Nat → Nat → Int64, (True) ∧ u = (I, (va_up L 188 l188), A, (va_up (va_up Q 185 q185) 187 q187), G, (va_up J 0 j0))) (xB (dC, dI) (tysA cs) A0 (fun u : CS => wSv h cs u.1 u.2.1 u.2.2.1 u.2.2.2.1 u.2.2.2.2.1 u.2.2.2.2.2)) A0) ([.ref (h 106), .ref (h 130), .ref (h 136), .int (nI R), .int (nI M)] : List Value).toArray s 0 0 A0) (F0 m 121 ls []) := by
          intro nf
          induction nf with
          | zero => intro c5 j3 f3 f4 hm; exact absurd hm (Nat.not_lt_zero _)
          | succ nf ih_121 =>
            intro c5 j3 f3 f4 hm_121 hc121 H locs ls hP hD hS hl
            refine lv_iload hx hb dX2_solve_121 (lv_at hl 5 rfl) ?_
            refine lv_iload hx hb dX2_solve_123 (lv_at hl 4 rfl) ?_
            refine xn_ge (tgt := 173) hx hb dX2_solve_125 (by decide) (by omega) (by omega) (fun c_125_4 => ?_) (fun c_125_4 => ?_)
            · skip
              exact xr_v hx hb hr hlocks hK hS dX2_solve_173 (I, (va_up L 188 r_3), A, (va_up (va_up Q 185 f3) 187 f4), G, (va_up J 0 j3)) ⟨r_3, f3, f4, j3, trivial, rfl⟩ hP hD
            · skip
              refine lv_aload_n hx hb dX2_solve_128 rfl (lv_at hl 0 rfl) ?_
              refine lv_iload hx hb dX2_solve_129 (lv_at hl 5 rfl) ?_
              refine lv_iload hx hb dX2_solve_131 (lv_at hl 4 rfl) ?_
              refine xj_v (wc := (wLs h cs I (va_up L 188 r_3) A (va_up (va_up Q 185 f3) 187 f4) G (va_up J 0 j3))) (wr := [(h 130, .inl (cs 3, 5, .inr (.inr (.inr (.inr (fun i => if i < 5 then some (h (i + 131)) else none)))))), (h 131, .inl (cs 0, 4, .inl ((G 0) 0))), (h 132, .inl (cs 0, 4, .inl ((G 0) 1))), (h 133, .inl (cs 0, 4, .inl ((G 0) 2))), (h 134, .inl (cs 0, 4, .inl ((G 0) 3))), (h 135, .inl (cs 0, 4, .inl ((G 0) 4))), (h 136, .inl (cs 0, 5, .inl (A 136)))]) hP hD hS hA [0, 1, 2, 3, 4, 5, 6, 7, 8] [9, 10, 11, 12, 13, 14, 15] rfl rfl (by decide +kernel) (by decide +kernel) (va_runV (As := [.int (nI c5), .int (nI M)]) (rest := []) ⟨hx, hb, hml, hown, hts⟩ (k_X2_swapRight l dC dI h cs H.size I (va_up L 188 r_3) A (va_up (va_up Q 185 f3) 187 f4) G (va_up J 0 j3) c5 M (by first | assumption | omega) (by first | assumption | omega)) (cwV 2 hts gX2_solve_X2_swapRight rfl rfl rfl (by decide +kernel) ⟨Nat.le_of_ble_eq_true rfl, Nat.le_of_ble_eq_true rfl⟩) (xpV (wc := (wLs h cs I (va_up L 188 r_3) A (va_up (va_up Q 185 f3) 187 f4) G (va_up J 0 j3))) hP hD hK hN [0, 1, 2, 3, 4, 5, 6, 7, 8] rfl (by decide) 0 (ci := 2) rfl rfl _) rfl rfl hl.1 rfl (lv_room (Nat.le_of_ble_eq_true rfl)) dX2_solve_133 ⟨Nat.zero_le _, Nat.zero_le _⟩) (fun u_6 H locs hw hP hD hS => ?_)
              obtain ⟨q185_8, j0_9, hf_10, rfl⟩ := hw
              have hP : va_P (dC, dI) vwCl (wSv h cs I (va_up L 188 r_3) A (va_up (va_up Q 187 f4) 185 q185_8) G (va_up J 0 j0_9)) H := xP_sub hP [7, 8, 9, 10, 11, 12, 13, 14, 15, 0, 1, 2, 3, 4, 5, 6] rfl
              have hD : va_D A0 (wSv h cs I (va_up L 188 r_3) A (va_up (va_up Q 187 f4) 185 q185_8) G (va_up J 0 j0_9)) := hD.sub [7, 8, 9, 10, 11, 12, 13, 14, 15, 0, 1, 2, 3, 4, 5, 6] (by decide +kernel) rfl
              refine lv_aload_n hx hb dX2_solve_136 rfl (lv_at hl 0 rfl) ?_
              refine va_get (D := (dC, dI)) (ci := 2) (v := .ref (h 187)) (C := RX2) (T := TX2) (N := 5) hx hb hts hinX2 hown hK hP 0 rfl rfl 3 (by decide) (hts (.fieldLink RX2 24 "MixedWords$Least" "above" "[J") (by decide +kernel)) (fun _ h9 => h9) rfl dX2_solve_137 ?_
              refine lv_iload hx hb dX2_solve_140 (lv_at hl 5 rfl) ?_
              refine lv_aload_n hx hb dX2_solve_142 rfl (lv_at hl 0 rfl) ?_
              refine va_get (D := (dC, dI)) (ci := 2) (v := .ref (h 180)) (C := RX2) (T := TX2) (N := 5) hx hb hts hinX2 hown hK hP 0 rfl rfl 0 (by decide) (hts (.fieldLink RX2 11 "MixedWords$Least" "square" "[[J") (by decide +kernel)) (fun _ h9 => h9) rfl dX2_solve_143 ?_
              refine lv_iload hx hb dX2_solve_146 (lv_at hl 4 rfl) ?_
              refine lv_iconst (v := nI 0) hx hb dX2_solve_148 (by decide) ?_
              refine lv_iconst (v := nI 1) hx hb dX2_solve_149 (by decide) ?_
              refine lv_iload hx hb dX2_solve_150 (lv_at hl 4 rfl) ?_
              refine lv_ishl hx hb dX2_solve_152 ?_
              refine lv_iconst (v := nI 1) hx hb dX2_solve_153 (by decide) ?_
              refine lv_isub hx hb dX2_solve_154 ?_
              refine xj_l (wc := (wSq h cs I (va_up L 188 r_3) A (va_up (va_up Q 187 f4) 185 q185_8) G (va_up J 0 j0_9))) (wr := [(h 106, .inr (2, [.ref (h 180), .ref (h 185), .ref (h 186), .ref (h 187), .long (r_3)])), (h 185, .inl (cs 1, 4, .inr (.inl q185_8))), (h 186, .inl (cs 0, 4, .inl (A 186))), (h 187, .inl (cs 1, 4, .inr (.inl f4))), (h 130, .inl (cs 3, 5, .inr (.inr (.inr (.inr (fun i => if i < 5 then some (h (i + 131)) else none)))))), (h 131, .inl (cs 0, 4, .inl ((G 0) 0))), (h 132, .inl (cs 0, 4, .inl ((G 0) 1))), (h 133, .inl (cs 0, 4, .inl ((G 0) 2))), (h 134, .inl (cs 0, 4, .inl ((G 0) 3))), (h 135, .inl (cs 0, 4, .inl ((G 0) 4))), (h 136, .inl (cs 0, 5, .inl (A 136)))]) hP hD hS hA [1, 2, 3, 4, 5] [0, 6, 7, 8, 9, 10, 11, 12, 13, 14, 15] rfl rfl (by decide +kernel) (by decide +kernel) (va_runS (As := [.ref (h 180), .int (nI M), .int (nI 0), .int (((nI 1) <<< ((nI M) &&& 31)) - (nI 1))]) (rest := [.int (nI c5), .ref (h 187)]) ⟨hx, hb, hml, hown, hts⟩ (k_det_0 l dC dI h cs H.size I (va_up L 188 r_3) A (va_up (va_up Q 187 f4) 185 q185_8) G (va_up J 0 j0_9) M (((nI 1) <<< ((nI M) &&& 31)) - (nI 1)) (by first | assumption | omega)) (va_cwS 4 hts gX2_solve_X2_determinant rfl rfl rfl (by decide +kernel) ⟨Nat.le_of_ble_eq_true rfl, Nat.le_of_ble_eq_true rfl⟩) (xpS (wc := (wSq h cs I (va_up L 188 r_3) A (va_up (va_up Q 187 f4) 185 q185_8) G (va_up J 0 j0_9))) hP hD hK hN [1, 2, 3, 4, 5] rfl (by decide) _) rfl rfl hl.1 rfl (lv_room (Nat.le_of_ble_eq_true rfl)) dX2_solve_155 ⟨Nat.zero_le _, Nat.zero_le _⟩) (fun r_12 u_11 H locs hw hP hD hS => ?_)
              obtain ⟨hf_13, rfl⟩ := hw
              have hP : va_P (dC, dI) vwCl (wSv h cs I (va_up L 188 r_3) A (va_up (va_up Q 187 f4) 185 q185_8) G (va_up J 0 j0_9)) H := xP_sub hP [0, 11, 12, 13, 14, 15, 1, 2, 3, 4, 5, 6, 7, 8, 9, 10] rfl
              have hD : va_D A0 (wSv h cs I (va_up L 188 r_3) A (va_up (va_up Q 187 f4) 185 q185_8) G (va_up J 0 j0_9)) := hD.sub [0, 11, 12, 13, 14, 15, 1, 2, 3, 4, 5, 6, 7, 8, 9, 10] (by decide +kernel) rfl
              refine xa_last hx hb hK hP hD hS 8 1 rfl rfl (by omega) (by decide) dX2_solve_158 (fun H locs hP hD hS => ?_)
              have hP : va_P (dC, dI) vwCl (wSv h cs I (va_up L 188 r_3) A (va_up (va_up Q 185 q185_8) 187 (vp_updL f4 c5 r_12)) G (va_up J 0 j0_9)) H := hP
              have hD : va_D A0 (wSv h cs I (va_up L 188 r_3) A (va_up (va_up Q 185 q185_8) 187 (vp_updL f4 c5 r_12)) G (va_up J 0 j0_9)) := hD
              refine lv_aload_n hx hb dX2_solve_159 rfl (lv_at hl 0 rfl) ?_
              refine lv_iload hx hb dX2_solve_160 (lv_at hl 5 rfl) ?_
              refine lv_iload hx hb dX2_solve_162 (lv_at hl 4 rfl) ?_
              refine xj_v (wc := (wLs h cs I (va_up L 188 r_3) A (va_up (va_up Q 185 q185_8) 187 (vp_updL f4 c5 r_12)) G (va_up J 0 j0_9))) (wr := [(h 130, .inl (cs 3, 5, .inr (.inr (.inr (.inr (fun i => if i < 5 then some (h (i + 131)) else none)))))), (h 131, .inl (cs 0, 4, .inl ((G 0) 0))), (h 132, .inl (cs 0, 4, .inl ((G 0) 1))), (h 133, .inl (cs 0, 4, .inl ((G 0) 2))), (h 134, .inl (cs 0, 4, .inl ((G 0) 3))), (h 135, .inl (cs 0, 4, .inl ((G 0) 4))), (h 136, .inl (cs 0, 5, .inl (A 136)))]) hP hD hS hA [0, 1, 2, 3, 4, 5, 6, 7, 8] [9, 10, 11, 12, 13, 14, 15] rfl rfl (by decide +kernel) (by decide +kernel) (va_runV (As := [.int (nI c5), .int (nI M)]) (rest := []) ⟨hx, hb, hml, hown, hts⟩ (k_X2_swapRight l dC dI h cs H.size I (va_up L 188 r_3) A (va_up (va_up Q 185 q185_8) 187 (vp_updL f4 c5 r_12)) G (va_up J 0 j0_9) c5 M (by first | assumption | omega) (by first | assumption | omega)) (cwV 2 hts gX2_solve_X2_swapRight rfl rfl rfl (by decide +kernel) ⟨Nat.le_of_ble_eq_true rfl, Nat.le_of_ble_eq_true rfl⟩) (xpV (wc := (wLs h cs I (va_up L 188 r_3) A (va_up (va_up Q 185 q185_8) 187 (vp_updL f4 c5 r_12)) G (va_up J 0 j0_9))) hP hD hK hN [0, 1, 2, 3, 4, 5, 6, 7, 8] rfl (by decide) 0 (ci := 2) rfl rfl _) rfl rfl hl.1 rfl (lv_room (Nat.le_of_ble_eq_true rfl)) dX2_solve_164 ⟨Nat.zero_le _, Nat.zero_le _⟩) (fun u_14 H locs hw hP hD hS => ?_)
              obtain ⟨q185_16, j0_17, hf_18, rfl⟩ := hw
              have hP : va_P (dC, dI) vwCl (wSv h cs I (va_up L 188 r_3) A (va_up (va_up Q 187 (vp_updL f4 c5 r_12)) 185 q185_16) G (va_up J 0 j0_17)) H := xP_sub hP [7, 8, 9, 10, 11, 12, 13, 14, 15, 0, 1, 2, 3, 4, 5, 6] rfl
              have hD : va_D A0 (wSv h cs I (va_up L 188 r_3) A (va_up (va_up Q 187 (vp_updL f4 c5 r_12)) 185 q185_16) G (va_up J 0 j0_17)) := hD.sub [7, 8, 9, 10, 11, 12, 13, 14, 15, 0, 1, 2, 3, 4, 5, 6] (by decide +kernel) rfl
              refine lv_iinc (v := nI (c5 + 1)) (lv' := [(5, .int (nI (c5 + 1))), (0, .ref (h 106)), (1, .ref (h 130)), (2, .ref (h 136)), (3, .int (nI R)), (4, .int (nI M))]) hx hb dX2_solve_167 hl (k := 5) rfl (nI_1 _) (by decide) rfl (fun ls hl => ?_)
              refine lv_goto (tgt := 121) hx hb dX2_solve_170 (by decide) ?_
              exact ih_121 (c5 + 1) j0_17 q185_16 (vp_updL f4 c5 r_12) (by omega) (by first | assumption | omega) _ _ _ hP hD hS (lv_sub hl [1, 2, 3, 4, 5, 0] rfl)
        exact cut_121 _ 0 jj ff (Q 187) (Nat.lt_succ_self _) (by first | assumption | omega) _ _ _ hP hD hS (lv_sub hl [1, 2, 3, 4, 5, 0] rfl)
      · skip
        refine lv_aload_n hx hb dX2_solve_10 rfl (lv_at hl 0 rfl) ?_
        refine va_get (D := (dC, dI)) (ci := 2) (v := .ref (h 185)) (C := RX2) (T := TX2) (N := 5) hx hb hts hinX2 hown hK hP 0 rfl rfl 1 (by decide) (hts (.fieldLink RX2 16 "MixedWords$Least" "right" "[J") (by decide +kernel)) (fun _ h9 => h9) rfl dX2_solve_11 ?_
        refine lv_iload hx hb dX2_solve_14 (lv_at hl 5 rfl) ?_
        refine lv_lconst (v := 0) hx hb dX2_solve_16 rfl ?_
        refine xa_last hx hb hK hP hD hS 6 1 rfl rfl (by omega) (by decide) dX2_solve_17 (fun H locs hP hD hS => ?_)
        have hP : va_P (dC, dI) vwCl (wSv h cs I L A (va_up Q 185 (vp_updL ff i5 (0 : Int64))) G (va_up J 0 jj)) H := hP
        have hD : va_D A0 (wSv h cs I L A (va_up Q 185 (vp_updL ff i5 (0 : Int64))) G (va_up J 0 jj)) := hD
        refine lv_iconst (v := nI 0) hx hb dX2_solve_18 (by decide) ?_
        refine lv_istore (lv' := [(6, .int (nI 0)), (0, .ref (h 106)), (1, .ref (h 130)), (2, .ref (h 136)), (3, .int (nI R)), (4, .int (nI M)), (5, .int (nI i5))]) hx hb dX2_solve_19 hl (by decide) rfl (fun ls hl => ?_)
        have cut_21 : ∀ (nf : Nat) (k6 : Nat) (f2 : Nat → Int64), (R - k6) < nf → (k6 ≤ R) → ∀ (H : Heap) (locs : List Loc) (ls : Array Slot), va_P (dC, dI) vwCl (wSv h cs I L A (va_up Q 185 f2) G (va_up J 0 jj)) H → va_D A0 (wSv h cs I L A (va_up Q 185 f2) G (va_up J 0 jj)) → va_S A0 s.heap H locs → lv_has ls 7 [(0, .ref (h 106)), (1, .ref (h 130)), (2, .ref (h 136)), (3, .int (nI R)), (4, .int (nI M)), (5, .int (nI i5)), (6, .int (nI k6))] → W p l e (headSpec wsX2_solve ({ frames := 5, cells := 0, slots := 0, locals := 140 })).room s m ([.ref (h 106), .ref (h 130), .ref (h 136), .int (nI R), .int (nI M)] : List Value).toArray below meth c H locs 0 0 (MQ below (va_Qv (fun (u : CS) => ∃ l188 : Int64, ∃ q185 : Nat → Int64, ∃ q187 : Nat → Int64, ∃ j0 : Nat → Nat → Int64, (True) ∧ u = (I, (va_up L 188 l188), A, (va_up (va_up Q 185 q185) 187 q187), G, (va_up J 0 j0))) (xB (dC, dI) (tysA cs) A0 (fun u : CS => wSv h cs u.1 u.2.1 u.2.2.1 u.2.2.2.1 u.2.2.2.2.1 u.2.2.2.2.2)) A0) ([.ref (h 106), .ref (h 130), .ref (h 136), .int (nI R), .int (nI M)] : List Value).toArray s 0 0 A0) (F0 m 21 ls []) := by
          intro nf
          induction nf with
          | zero => intro k6 f2 hm; exact absurd hm (Nat.not_lt_zero _)
          | succ nf ih_21 =>
            intro k6 f2 hm_21 hk21 H locs ls hP hD hS hl
            refine lv_iload hx hb dX2_solve_21 (lv_at hl 6 rfl) ?_
            refine lv_iload_n hx hb dX2_solve_23 rfl (lv_at hl 3 rfl) ?_
            refine xn_ge (tgt := 56) hx hb dX2_solve_24 (by decide) (by omega) (by omega) (fun c_24_18 => ?_) (fun c_24_18 => ?_)
            · skip
              refine lv_iconst (v := nI 0) hx hb dX2_solve_56 (by decide) ?_
              refine lv_istore (lv' := [(6, .int (nI 0)), (0, .ref (h 106)), (1, .ref (h 130)), (2, .ref (h 136)), (3, .int (nI R)), (4, .int (nI M)), (5, .int (nI i5))]) hx hb dX2_solve_57 hl (by decide) rfl (fun ls hl => ?_)
              have cut_59 : ∀ (nf : Nat) (j6 : Nat) (j2 : Nat → Nat → Int64), (M - j6) < nf → (j6 ≤ M) → ∀ (H : Heap) (locs : List Loc) (ls : Array Slot), va_P (dC, dI) vwCl (wSv h cs I L A (va_up Q 185 f2) G (va_up J 0 j2)) H → va_D A0 (wSv h cs I L A (va_up Q 185 f2) G (va_up J 0 j2)) → va_S A0 s.heap H locs → lv_has ls 7 [(0, .ref (h 106)), (1, .ref (h 130)), (2, .ref (h 136)), (3, .int (nI R)), (4, .int (nI M)), (5, .int (nI i5)), (6, .int (nI j6))] → W p l e (headSpec wsX2_solve ({ frames := 5, cells := 0, slots := 0, locals := 140 })).room s m ([.ref (h 106), .ref (h 130), .ref (h 136), .int (nI R), .int (nI M)] : List Value).toArray below meth c H locs 0 0 (MQ below (va_Qv (fun (u : CS) => ∃ l188 : Int64, ∃ q185 : Nat → Int64, ∃ q187 : Nat → Int64, ∃ j0 : Nat → Nat → Int64, (True) ∧ u = (I, (va_up L 188 l188), A, (va_up (va_up Q 185 q185) 187 q187), G, (va_up J 0 j0))) (xB (dC, dI) (tysA cs) A0 (fun u : CS => wSv h cs u.1 u.2.1 u.2.2.1 u.2.2.2.1 u.2.2.2.2.1 u.2.2.2.2.2)) A0) ([.ref (h 106), .ref (h 130), .ref (h 136), .int (nI R), .int (nI M)] : List Value).toArray s 0 0 A0) (F0 m 59 ls []) := by
                intro nf
                induction nf with
                | zero => intro j6 j2 hm; exact absurd hm (Nat.not_lt_zero _)
                | succ nf ih_59 =>
                  intro j6 j2 hm_59 hj59 H locs ls hP hD hS hl
                  refine lv_iload hx hb dX2_solve_59 (lv_at hl 6 rfl) ?_
                  refine lv_iload hx hb dX2_solve_61 (lv_at hl 4 rfl) ?_
                  refine xn_ge (tgt := 92) hx hb dX2_solve_63 (by decide) (by omega) (by omega) (fun c_63_19 => ?_) (fun c_63_19 => ?_)
                  · skip
                    refine lv_iinc (v := nI (i5 + 1)) (lv' := [(5, .int (nI (i5 + 1))), (0, .ref (h 106)), (1, .ref (h 130)), (2, .ref (h 136)), (3, .int (nI R)), (4, .int (nI M)), (6, .int (nI j6))]) hx hb dX2_solve_92 hl (k := 5) rfl (nI_1 _) (by decide) rfl (fun ls hl => ?_)
                    refine lv_goto (tgt := 3) hx hb dX2_solve_95 (by decide) ?_
                    exact ih_3 (i5 + 1) j2 f2 (by omega) (by first | assumption | omega) _ _ _ hP hD hS (lv_sub hl [1, 2, 3, 4, 5, 0] rfl)
                  · skip
                    refine lv_aload_n hx hb dX2_solve_66 rfl (lv_at hl 0 rfl) ?_
                    refine va_get (D := (dC, dI)) (ci := 2) (v := .ref (h 180)) (C := RX2) (T := TX2) (N := 5) hx hb hts hinX2 hown hK hP 0 rfl rfl 0 (by decide) (hts (.fieldLink RX2 11 "MixedWords$Least" "square" "[[J") (by decide +kernel)) (fun _ h9 => h9) rfl dX2_solve_67 ?_
                    refine lv_iload hx hb dX2_solve_70 (lv_at hl 5 rfl) ?_
                    refine xa_aald (b := h (i5 + 181)) hx hb hK hP 1 4 rfl rfl rfl (by omega) (by decide) (if_pos (by omega)) dX2_solve_72 ?_
                    refine lv_iload hx hb dX2_solve_73 (lv_at hl 6 rfl) ?_
                    refine lv_aload_n hx hb dX2_solve_75 rfl (lv_at hl 1 rfl) ?_
                    refine lv_iload_n hx hb dX2_solve_76 rfl (lv_at hl 3 rfl) ?_
                    refine lv_iload hx hb dX2_solve_77 (lv_at hl 5 rfl) ?_
                    refine lv_iload hx hb dX2_solve_79 (lv_at hl 6 rfl) ?_
                    refine xj_i (wc := (wGrid (fun k => h (k + 129)) cs I L A (va_up Q 185 f2) (fun _ => G 0) (va_up J 0 j2))) (wr := [(h 106, .inr (2, [.ref (h 180), .ref (h 185), .ref (h 186), .ref (h 187), .long (L 188)])), (h 180, .inl (cs 4, 4, .inr (.inr (.inr (.inr (fun i => if i < 4 then some (h (i + 181)) else none)))))), (h 181, .inl (cs 1, 4, .inr (.inl (j2 0)))), (h 182, .inl (cs 1, 4, .inr (.inl (j2 1)))), (h 183, .inl (cs 1, 4, .inr (.inl (j2 2)))), (h 184, .inl (cs 1, 4, .inr (.inl (j2 3)))), (h 185, .inl (cs 1, 4, .inr (.inl f2))), (h 186, .inl (cs 0, 4, .inl (A 186))), (h 187, .inl (cs 1, 4, .inr (.inl (Q 187)))), (h 136, .inl (cs 0, 5, .inl (A 136)))]) hP hD hS hA [9, 10, 11, 12, 13, 14] [0, 1, 2, 3, 4, 5, 6, 7, 8, 15] rfl rfl (by decide +kernel) (by decide +kernel) (va_runSN (As := [.ref (h 130), .int (nI R), .int (nI i5), .int (nI j6)]) (rest := [.int (nI j6), .ref (h (i5 + 181))]) ⟨hx, hb, hml, hown, hts⟩ (k_X9_product l dC dI (fun k => h (k + 129)) cs H.size I L A (va_up Q 185 f2) (fun _ => G 0) (va_up J 0 j2) R i5 j6 (by first | assumption | omega) (by first | assumption | omega) (by first | assumption | omega)) ⟨va_cnB (host := "MixedWords") 4 hts gX2_solve_X9_product_n40 rfl rfl rfl hN.2.2.2.2.2.1 (hts (.initialized RX9) (by decide +kernel)) (by decide +kernel) ⟨Nat.le_of_ble_eq_true rfl, Nat.le_of_ble_eq_true rfl⟩, hts (.static yX9_product) (by decide +kernel), trivial⟩ (xpS (wc := (wGrid (fun k => h (k + 129)) cs I L A (va_up Q 185 f2) (fun _ => G 0) (va_up J 0 j2))) hP hD hK hN [9, 10, 11, 12, 13, 14] rfl (by decide) _) rfl rfl hl.1 rfl (lv_room (Nat.le_of_ble_eq_true rfl)) dX2_solve_81 ⟨Nat.zero_le _, Nat.zero_le _⟩) (fun r_22 u_21 H locs hw hP hD hS => ?_)
                    obtain ⟨hf_23, rfl⟩ := hw
                    have hP : va_P (dC, dI) vwCl (wSv h cs I L A (va_up Q 185 f2) G (va_up J 0 j2)) H := xP_sub hP [0, 1, 2, 3, 4, 5, 6, 7, 8, 10, 11, 12, 13, 14, 15, 9] rfl
                    have hD : va_D A0 (wSv h cs I L A (va_up Q 185 f2) G (va_up J 0 j2)) := hD.sub [0, 1, 2, 3, 4, 5, 6, 7, 8, 10, 11, 12, 13, 14, 15, 9] (by decide +kernel) rfl
                    obtain rfl := hf_23
                    refine lv_i2l (v := (prodF (G 0) i5 j6 R).toInt64) hx hb dX2_solve_84 rfl ?_
                    refine xa_last hx hb hK hP hD hS (2 + i5) 1 (wSv_atJ0 (by omega)) rfl (by omega) (by decide) dX2_solve_85 (fun H locs hP hD hS => ?_)
                    rw [wSv_setJ0 (by omega)] at hP hD
                    have hP : va_P (dC, dI) vwCl (wSv h cs I L A (va_up Q 185 f2) G (va_up J 0 (va_up j2 i5 (vp_updL (j2 i5) j6 ((prodF (G 0) i5 j6 R).toInt64))))) H := hP
                    have hD : va_D A0 (wSv h cs I L A (va_up Q 185 f2) G (va_up J 0 (va_up j2 i5 (vp_updL (j2 i5) j6 ((prodF (G 0) i5 j6 R).toInt64))))) := hD
                    refine lv_iinc (v := nI (j6 + 1)) (lv' := [(6, .int (nI (j6 + 1))), (0, .ref (h 106)), (1, .ref (h 130)), (2, .ref (h 136)), (3, .int (nI R)), (4, .int (nI M)), (5, .int (nI i5))]) hx hb dX2_solve_86 hl (k := 6) rfl (nI_1 _) (by decide) rfl (fun ls hl => ?_)
                    refine lv_goto (tgt := 59) hx hb dX2_solve_89 (by decide) ?_
                    exact ih_59 (j6 + 1) (va_up j2 i5 (vp_updL (j2 i5) j6 ((prodF (G 0) i5 j6 R).toInt64))) (by omega) (by first | assumption | omega) _ _ _ hP hD hS (lv_sub hl [1, 2, 3, 4, 5, 6, 0] rfl)
              exact cut_59 _ 0 jj (Nat.lt_succ_self _) (by first | assumption | omega) _ _ _ hP hD hS (lv_sub hl [1, 2, 3, 4, 5, 6, 0] rfl)
            · skip
              refine lv_aload_n hx hb dX2_solve_27 rfl (lv_at hl 0 rfl) ?_
              refine va_get (D := (dC, dI)) (ci := 2) (v := .ref (h 185)) (C := RX2) (T := TX2) (N := 5) hx hb hts hinX2 hown hK hP 0 rfl rfl 1 (by decide) (hts (.fieldLink RX2 16 "MixedWords$Least" "right" "[J") (by decide +kernel)) (fun _ h9 => h9) rfl dX2_solve_28 ?_
              refine lv_iload hx hb dX2_solve_31 (lv_at hl 5 rfl) ?_
              refine lv_dup2_11 hx hb dX2_solve_33 rfl rfl ?_
              refine xa_lald hx hb hK hP 6 1 rfl rfl (by omega) (by decide) dX2_solve_34 ?_
              refine lv_aload_n hx hb dX2_solve_35 rfl (lv_at hl 1 rfl) ?_
              refine lv_iload hx hb dX2_solve_36 (lv_at hl 6 rfl) ?_
              refine xa_aald (b := h (k6 + 131)) hx hb hK hP 9 3 rfl rfl rfl (by omega) (by decide) (if_pos (by omega)) dX2_solve_38 ?_
              refine lv_iload hx hb dX2_solve_39 (lv_at hl 5 rfl) ?_
              refine xa_iald hx hb hK hP (10 + k6) 0 (wSv_atG0 (by omega)) rfl (by omega) (by decide) dX2_solve_41 ?_
              refine lv_aload_n hx hb dX2_solve_42 rfl (lv_at hl 2 rfl) ?_
              refine lv_iload hx hb dX2_solve_43 (lv_at hl 6 rfl) ?_
              refine xa_iald hx hb hK hP 15 0 rfl rfl (by omega) (by decide) dX2_solve_45 ?_
              refine lv_imul hx hb dX2_solve_46 ?_
              refine lv_i2l (v := ((((G 0) k6) i5) * (A 136 k6)).toInt64) hx hb dX2_solve_47 rfl ?_
              refine lv_ladd hx hb dX2_solve_48 ?_
              refine xa_last hx hb hK hP hD hS 6 1 rfl rfl (by omega) (by decide) dX2_solve_49 (fun H locs hP hD hS => ?_)
              have hP : va_P (dC, dI) vwCl (wSv h cs I L A (va_up Q 185 (vp_updL f2 i5 ((f2 i5) + (((((G 0) k6) i5) * (A 136 k6)).toInt64)))) G (va_up J 0 jj)) H := hP
              have hD : va_D A0 (wSv h cs I L A (va_up Q 185 (vp_updL f2 i5 ((f2 i5) + (((((G 0) k6) i5) * (A 136 k6)).toInt64)))) G (va_up J 0 jj)) := hD
              refine lv_iinc (v := nI (k6 + 1)) (lv' := [(6, .int (nI (k6 + 1))), (0, .ref (h 106)), (1, .ref (h 130)), (2, .ref (h 136)), (3, .int (nI R)), (4, .int (nI M)), (5, .int (nI i5))]) hx hb dX2_solve_50 hl (k := 6) rfl (nI_1 _) (by decide) rfl (fun ls hl => ?_)
              refine lv_goto (tgt := 21) hx hb dX2_solve_53 (by decide) ?_
              exact ih_21 (k6 + 1) (vp_updL f2 i5 ((f2 i5) + (((((G 0) k6) i5) * (A 136 k6)).toInt64))) (by omega) (by first | assumption | omega) _ _ _ hP hD hS (lv_sub hl [1, 2, 3, 4, 5, 6, 0] rfl)
        exact cut_21 _ 0 (vp_updL ff i5 (0 : Int64)) (Nat.lt_succ_self _) (by first | assumption | omega) _ _ _ hP hD hS (lv_sub hl [1, 2, 3, 4, 5, 6, 0] rfl)
  exact cut_3 _ 0 (J 0) (Q 185) (Nat.lt_succ_self _) (by first | assumption | omega) _ _ _ hP hD hS (lv_sub hl [1, 2, 3, 4, 5, 0] rfl)
set_option maxHeartbeats 4000000 in
set_option maxRecDepth 100000 in
theorem k_X2_solveL (l : Launch) (dC : Nat → ClassId) (dI : Nat → Nat → Nat) (h : Nat → Nat) (cs : Nat → ClassId) (sz : Nat) (I : Nat → Int32) (L : Nat → Int64) (A : Nat → Nat → Int32) (Q : Nat → Nat → Int64) (G : Nat → Nat → Nat → Int32) (J : Nat → Nat → Nat → Int64) (R M : Nat) (hR5 : R ≤ 5) (hM4 : M ≤ 4) : Met l yX2_solve wsX2_solve ({ frames := 5, cells := 0, slots := 0, locals := 140 }) (va_Pc [.ref (h 106), .ref (h 200), .ref (h 211), .int (nI R), .int (nI M)] (xPre (dC, dI) (wSl h cs I L A Q G J) (tysA cs) sz)) (va_Qv (fun (u : CS) => ∃ l188 : Int64, ∃ q185 : Nat → Int64, ∃ q187 : Nat → Int64, ∃ j0 : Nat → Nat → Int64, (True) ∧ u = (I, (va_up L 188 l188), A, (va_up (va_up Q 185 q185) 187 q187), G, (va_up J 0 j0))) (xB (dC, dI) (tysA cs) (va_A (wSl h cs I L A Q G J) sz) (fun u : CS => wSl h cs u.1 u.2.1 u.2.2.1 u.2.2.2.1 u.2.2.2.2.1 u.2.2.2.2.2)) (va_A (wSl h cs I L A Q G J) sz)) 0 0 (va_A (wSl h cs I L A Q G J) sz) := by
  refine Met.ofW (cc := cX2_solve) (maxL := 7) (ret := none) (by decide) rfl ?_
  intro p e s m args below meth c s₁ B hml hv
  obtain ⟨rfl, hsz, hP, hK, hD0, hN⟩ := hv
  have hx := B.exec
  have hb := B.bytes
  have hr := B.returns
  have hts := atoms_spec (ws := wsX2_solve) B.pre
  have hown : s.vm.findClass RX2 = some m.cls := findClass_of_methodNamed B.named
  have hlocks := B.notSynchronized
  subst hsz
  have hD := hD0.self (sz := s.heap.size)
  generalize hAe : va_A (wSl h cs I L A Q G J) s.heap.size = A0 at hD ⊢
  have hA : ∀ q : Nat, s.heap.size ≤ q → A0 q := fun q h => by rw [← hAe]; exact Or.inr h
  have hl := lv_entry ([.ref (h 106), .ref (h 200), .ref (h 211), .int (nI R), .int (nI M)]) (n := 7) (Nat.le_of_ble_eq_true rfl)
  rw [lg_entry_eq]
  generalize (lg_sl ([.ref (h 106), .ref (h 200), .ref (h 211), .int (nI R), .int (nI M)]) ++ List.replicate (7 - (lg_sl ([.ref (h 106), .ref (h 200), .ref (h 211), .int (nI R), .int (nI M)])).length) Slot.unset).toArray = ls at hl ⊢
  have hl : lv_has ls 7 [(0, .ref (h 106)), (1, .ref (h 200)), (2, .ref (h 211)), (3, .int (nI R)), (4, .int (nI M))] := hl
  generalize hH : s.heap = H at hP ⊢
  have hS : va_S A0 s.heap H [] := by rw [← hH]; exact va_S.rf
  have hinX2 : ∀ w ∈ wsX20, w ∈ wsX2_solve := by decide +kernel
  refine lv_iconst (v := nI 0) hx hb dX2_solve_0 (by decide) ?_
  refine lv_istore (lv' := [(5, .int (nI 0)), (0, .ref (h 106)), (1, .ref (h 200)), (2, .ref (h 211)), (3, .int (nI R)), (4, .int (nI M))]) hx hb dX2_solve_1 hl (by decide) rfl (fun ls hl => ?_)
  have cut_3 : ∀ (nf : Nat) (i5 : Nat) (jj : Nat → Nat → Int64) (ff : Nat → Int64), (M - i5) < nf → (i5 ≤ M) → ∀ (H : Heap) (locs : List Loc) (ls : Array Slot), va_P (dC, dI) vwCl (wSl h cs I L A (va_up Q 185 ff) G (va_up J 0 jj)) H → va_D A0 (wSl h cs I L A (va_up Q 185 ff) G (va_up J 0 jj)) → va_S A0 s.heap H locs → lv_has ls 7 [(0, .ref (h 106)), (1, .ref (h 200)), (2, .ref (h 211)), (3, .int (nI R)), (4, .int (nI M)), (5, .int (nI i5))] → W p l e (headSpec wsX2_solve ({ frames := 5, cells := 0, slots := 0, locals := 140 })).room s m ([.ref (h 106), .ref (h 200), .ref (h 211), .int (nI R), .int (nI M)] : List Value).toArray below meth c H locs 0 0 (MQ below (va_Qv (fun (u : CS) => ∃ l188 : Int64, ∃ q185 : Nat → Int64, ∃ q187 : Nat → Int64, ∃ j0 : Nat → Nat → Int64, (True) ∧ u = (I, (va_up L 188 l188), A, (va_up (va_up Q 185 q185) 187 q187), G, (va_up J 0 j0))) (xB (dC, dI) (tysA cs) A0 (fun u : CS => wSl h cs u.1 u.2.1 u.2.2.1 u.2.2.2.1 u.2.2.2.2.1 u.2.2.2.2.2)) A0) ([.ref (h 106), .ref (h 200), .ref (h 211), .int (nI R), .int (nI M)] : List Value).toArray s 0 0 A0) (F0 m 3 ls []) := by
    intro nf
    induction nf with
    | zero => intro i5 jj ff hm; exact absurd hm (Nat.not_lt_zero _)
    | succ nf ih_3 =>
      intro i5 jj ff hm_3 hi3 H locs ls hP hD hS hl
      refine lv_iload hx hb dX2_solve_3 (lv_at hl 5 rfl) ?_
      refine lv_iload hx hb dX2_solve_5 (lv_at hl 4 rfl) ?_
      refine xn_ge (tgt := 98) hx hb dX2_solve_7 (by decide) (by omega) (by omega) (fun c_7_0 => ?_) (fun c_7_0 => ?_)
      · skip
        refine lv_aload_n hx hb dX2_solve_98 rfl (lv_at hl 0 rfl) ?_
        refine lv_aload_n hx hb dX2_solve_99 rfl (lv_at hl 0 rfl) ?_
        refine va_get (D := (dC, dI)) (ci := 2) (v := .ref (h 180)) (C := RX2) (T := TX2) (N := 5) hx hb hts hinX2 hown hK hP 0 rfl rfl 0 (by decide) (hts (.fieldLink RX2 11 "MixedWords$Least" "square" "[[J") (by decide +kernel)) (fun _ h9 => h9) rfl dX2_solve_100 ?_
        refine lv_iload hx hb dX2_solve_103 (lv_at hl 4 rfl) ?_
        refine lv_iconst (v := nI 0) hx hb dX2_solve_105 (by decide) ?_
        refine lv_iconst (v := nI 1) hx hb dX2_solve_106 (by decide) ?_
        refine lv_iload hx hb dX2_solve_107 (lv_at hl 4 rfl) ?_
        refine lv_ishl hx hb dX2_solve_109 ?_
        refine lv_iconst (v := nI 1) hx hb dX2_solve_110 (by decide) ?_
        refine lv_isub hx hb dX2_solve_111 ?_
        refine xj_l (wc := (wSq h cs I L A (va_up Q 185 ff) G (va_up J 0 jj))) (wr := [(h 106, .inr (2, [.ref (h 180), .ref (h 185), .ref (h 186), .ref (h 187), .long (L 188)])), (h 185, .inl (cs 1, 4, .inr (.inl ff))), (h 186, .inl (cs 0, 4, .inl (A 186))), (h 187, .inl (cs 1, 4, .inr (.inl (Q 187)))), (h 200, .inl (cs 3, 5, .inr (.inr (.inr (.inr (fun i => if i < 5 then some (h (i + 201)) else none)))))), (h 201, .inl (cs 0, 4, .inl ((G 2) 0))), (h 202, .inl (cs 0, 4, .inl ((G 2) 1))), (h 203, .inl (cs 0, 4, .inl ((G 2) 2))), (h 204, .inl (cs 0, 4, .inl ((G 2) 3))), (h 205, .inl (cs 0, 4, .inl ((G 2) 4))), (h 211, .inl (cs 0, 5, .inl (A 211)))]) hP hD hS hA [1, 2, 3, 4, 5] [0, 6, 7, 8, 9, 10, 11, 12, 13, 14, 15] rfl rfl (by decide +kernel) (by decide +kernel) (va_runS (As := [.ref (h 180), .int (nI M), .int (nI 0), .int (((nI 1) <<< ((nI M) &&& 31)) - (nI 1))]) (rest := [.ref (h 106)]) ⟨hx, hb, hml, hown, hts⟩ (k_det_0 l dC dI h cs H.size I L A (va_up Q 185 ff) G (va_up J 0 jj) M (((nI 1) <<< ((nI M) &&& 31)) - (nI 1)) (by first | assumption | omega)) (va_cwS 4 hts gX2_solve_X2_determinant rfl rfl rfl (by decide +kernel) ⟨Nat.le_of_ble_eq_true rfl, Nat.le_of_ble_eq_true rfl⟩) (xpS (wc := (wSq h cs I L A (va_up Q 185 ff) G (va_up J 0 jj))) hP hD hK hN [1, 2, 3, 4, 5] rfl (by decide) _) rfl rfl hl.1 rfl (lv_room (Nat.le_of_ble_eq_true rfl)) dX2_solve_112 ⟨Nat.zero_le _, Nat.zero_le _⟩) (fun r_3 u_2 H locs hw hP hD hS => ?_)
        obtain ⟨hf_4, rfl⟩ := hw
        have hP : va_P (dC, dI) vwCl (wSl h cs I L A (va_up Q 185 ff) G (va_up J 0 jj)) H := xP_sub hP [0, 11, 12, 13, 14, 15, 1, 2, 3, 4, 5, 6, 7, 8, 9, 10] rfl
        have hD : va_D A0 (wSl h cs I L A (va_up Q 185 ff) G (va_up J 0 jj)) := hD.sub [0, 11, 12, 13, 14, 15, 1, 2, 3, 4, 5, 6, 7, 8, 9, 10] (by decide +kernel) rfl
        refine va_put (D := (dC, dI)) (ci := 2) (v := .long r_3) (ty := .long) (C := RX2) (T := TX2) (N := 5) hx hb hts hinX2 tyX2 tyX2_ok nmX2 hown hK hP hD hS 0 rfl rfl 4 (by decide) (hts (.fieldLink RX2 48 "MixedWords$Least" "below" "J") (by decide +kernel)) (fun _ h9 => h9) rfl (by decide +kernel) rfl rfl (Nat.le_of_ble_eq_true rfl) dX2_solve_115 (fun H locs hP hD hS => ?_)
        have hP : va_P (dC, dI) vwCl (wSl h cs I (va_up L 188 r_3) A (va_up Q 185 ff) G (va_up J 0 jj)) H := hP
        have hD : va_D A0 (wSl h cs I (va_up L 188 r_3) A (va_up Q 185 ff) G (va_up J 0 jj)) := hD
        refine lv_iconst (v := nI 0) hx hb dX2_solve_118 (by decide) ?_
        refine lv_istore (lv' := [(5, .int (nI 0)), (0, .ref (h 106)), (1, .ref (h 200)), (2, .ref (h 211)), (3, .int (nI R)), (4, .int (nI M))]) hx hb dX2_solve_119 hl (by decide) rfl (fun ls hl => ?_)
        have cut_121 : ∀ (nf : Nat) (c5 : Nat) (j3 : Nat → Nat → Int64) (f3 : Nat → Int64) (f4 : Nat → Int64), (M - c5) < nf → (c5 ≤ M) → ∀ (H : Heap) (locs : List Loc) (ls : Array Slot), va_P (dC, dI) vwCl (wSl h cs I (va_up L 188 r_3) A (va_up (va_up Q 185 f3) 187 f4) G (va_up J 0 j3)) H → va_D A0 (wSl h cs I (va_up L 188 r_3) A (va_up (va_up Q 185 f3) 187 f4) G (va_up J 0 j3)) → va_S A0 s.heap H locs → lv_has ls 7 [(0, .ref (h 106)), (1, .ref (h 200)), (2, .ref (h 211)), (3, .int (nI R)), (4, .int (nI M)), (5, .int (nI c5))] → W p l e (headSpec wsX2_solve ({ frames := 5, cells := 0, slots := 0, locals := 140 })).room s m ([.ref (h 106), .ref (h 200), .ref (h 211), .int (nI R), .int (nI M)] : List Value).toArray below meth c H locs 0 0 (MQ below (va_Qv (fun (u : CS) => ∃ l188 : Int64, ∃ q185 : Nat → Int64, ∃ q187 : Nat → Int64, ∃ j0 : Nat → Nat → Int64, (True) ∧ u = (I, (va_up L 188 l188), A, (va_up (va_up Q 185 q185) 187 q187), G, (va_up J 0 j0))) (xB (dC, dI) (tysA cs) A0 (fun u : CS => wSl h cs u.1 u.2.1 u.2.2.1 u.2.2.2.1 u.2.2.2.2.1 u.2.2.2.2.2)) A0) ([.ref (h 106), .ref (h 200), .ref (h 211), .int (nI R), .int (nI M)] : List Value).toArray s 0 0 A0) (F0 m 121 ls []) := by
          intro nf
          induction nf with
          | zero => intro c5 j3 f3 f4 hm; exact absurd hm (Nat.not_lt_zero _)
          | succ nf ih_121 =>
            intro c5 j3 f3 f4 hm_121 hc121 H locs ls hP hD hS hl
            refine lv_iload hx hb dX2_solve_121 (lv_at hl 5 rfl) ?_
            refine lv_iload hx hb dX2_solve_123 (lv_at hl 4 rfl) ?_
            refine xn_ge (tgt := 173) hx hb dX2_solve_125 (by decide) (by omega) (by omega) (fun c_125_4 => ?_) (fun c_125_4 => ?_)
            · skip
              exact xr_v hx hb hr hlocks hK hS dX2_solve_173 (I, (va_up L 188 r_3), A, (va_up (va_up Q 185 f3) 187 f4), G, (va_up J 0 j3)) ⟨r_3, f3, f4, j3, trivial, rfl⟩ hP hD
            · skip
              refine lv_aload_n hx hb dX2_solve_128 rfl (lv_at hl 0 rfl) ?_
              refine lv_iload hx hb dX2_solve_129 (lv_at hl 5 rfl) ?_
              refine lv_iload hx hb dX2_solve_131 (lv_at hl 4 rfl) ?_
              refine xj_v (wc := (wLs h cs I (va_up L 188 r_3) A (va_up (va_up Q 185 f3) 187 f4) G (va_up J 0 j3))) (wr := [(h 200, .inl (cs 3, 5, .inr (.inr (.inr (.inr (fun i => if i < 5 then some (h (i + 201)) else none)))))), (h 201, .inl (cs 0, 4, .inl ((G 2) 0))), (h 202, .inl (cs 0, 4, .inl ((G 2) 1))), (h 203, .inl (cs 0, 4, .inl ((G 2) 2))), (h 204, .inl (cs 0, 4, .inl ((G 2) 3))), (h 205, .inl (cs 0, 4, .inl ((G 2) 4))), (h 211, .inl (cs 0, 5, .inl (A 211)))]) hP hD hS hA [0, 1, 2, 3, 4, 5, 6, 7, 8] [9, 10, 11, 12, 13, 14, 15] rfl rfl (by decide +kernel) (by decide +kernel) (va_runV (As := [.int (nI c5), .int (nI M)]) (rest := []) ⟨hx, hb, hml, hown, hts⟩ (k_X2_swapRight l dC dI h cs H.size I (va_up L 188 r_3) A (va_up (va_up Q 185 f3) 187 f4) G (va_up J 0 j3) c5 M (by first | assumption | omega) (by first | assumption | omega)) (cwV 2 hts gX2_solve_X2_swapRight rfl rfl rfl (by decide +kernel) ⟨Nat.le_of_ble_eq_true rfl, Nat.le_of_ble_eq_true rfl⟩) (xpV (wc := (wLs h cs I (va_up L 188 r_3) A (va_up (va_up Q 185 f3) 187 f4) G (va_up J 0 j3))) hP hD hK hN [0, 1, 2, 3, 4, 5, 6, 7, 8] rfl (by decide) 0 (ci := 2) rfl rfl _) rfl rfl hl.1 rfl (lv_room (Nat.le_of_ble_eq_true rfl)) dX2_solve_133 ⟨Nat.zero_le _, Nat.zero_le _⟩) (fun u_6 H locs hw hP hD hS => ?_)
              obtain ⟨q185_8, j0_9, hf_10, rfl⟩ := hw
              have hP : va_P (dC, dI) vwCl (wSl h cs I (va_up L 188 r_3) A (va_up (va_up Q 187 f4) 185 q185_8) G (va_up J 0 j0_9)) H := xP_sub hP [7, 8, 9, 10, 11, 12, 13, 14, 15, 0, 1, 2, 3, 4, 5, 6] rfl
              have hD : va_D A0 (wSl h cs I (va_up L 188 r_3) A (va_up (va_up Q 187 f4) 185 q185_8) G (va_up J 0 j0_9)) := hD.sub [7, 8, 9, 10, 11, 12, 13, 14, 15, 0, 1, 2, 3, 4, 5, 6] (by decide +kernel) rfl
              refine lv_aload_n hx hb dX2_solve_136 rfl (lv_at hl 0 rfl) ?_
              refine va_get (D := (dC, dI)) (ci := 2) (v := .ref (h 187)) (C := RX2) (T := TX2) (N := 5) hx hb hts hinX2 hown hK hP 0 rfl rfl 3 (by decide) (hts (.fieldLink RX2 24 "MixedWords$Least" "above" "[J") (by decide +kernel)) (fun _ h9 => h9) rfl dX2_solve_137 ?_
              refine lv_iload hx hb dX2_solve_140 (lv_at hl 5 rfl) ?_
              refine lv_aload_n hx hb dX2_solve_142 rfl (lv_at hl 0 rfl) ?_
              refine va_get (D := (dC, dI)) (ci := 2) (v := .ref (h 180)) (C := RX2) (T := TX2) (N := 5) hx hb hts hinX2 hown hK hP 0 rfl rfl 0 (by decide) (hts (.fieldLink RX2 11 "MixedWords$Least" "square" "[[J") (by decide +kernel)) (fun _ h9 => h9) rfl dX2_solve_143 ?_
              refine lv_iload hx hb dX2_solve_146 (lv_at hl 4 rfl) ?_
              refine lv_iconst (v := nI 0) hx hb dX2_solve_148 (by decide) ?_
              refine lv_iconst (v := nI 1) hx hb dX2_solve_149 (by decide) ?_
              refine lv_iload hx hb dX2_solve_150 (lv_at hl 4 rfl) ?_
              refine lv_ishl hx hb dX2_solve_152 ?_
              refine lv_iconst (v := nI 1) hx hb dX2_solve_153 (by decide) ?_
              refine lv_isub hx hb dX2_solve_154 ?_
              refine xj_l (wc := (wSq h cs I (va_up L 188 r_3) A (va_up (va_up Q 187 f4) 185 q185_8) G (va_up J 0 j0_9))) (wr := [(h 106, .inr (2, [.ref (h 180), .ref (h 185), .ref (h 186), .ref (h 187), .long (r_3)])), (h 185, .inl (cs 1, 4, .inr (.inl q185_8))), (h 186, .inl (cs 0, 4, .inl (A 186))), (h 187, .inl (cs 1, 4, .inr (.inl f4))), (h 200, .inl (cs 3, 5, .inr (.inr (.inr (.inr (fun i => if i < 5 then some (h (i + 201)) else none)))))), (h 201, .inl (cs 0, 4, .inl ((G 2) 0))), (h 202, .inl (cs 0, 4, .inl ((G 2) 1))), (h 203, .inl (cs 0, 4, .inl ((G 2) 2))), (h 204, .inl (cs 0, 4, .inl ((G 2) 3))), (h 205, .inl (cs 0, 4, .inl ((G 2) 4))), (h 211, .inl (cs 0, 5, .inl (A 211)))]) hP hD hS hA [1, 2, 3, 4, 5] [0, 6, 7, 8, 9, 10, 11, 12, 13, 14, 15] rfl rfl (by decide +kernel) (by decide +kernel) (va_runS (As := [.ref (h 180), .int (nI M), .int (nI 0), .int (((nI 1) <<< ((nI M) &&& 31)) - (nI 1))]) (rest := [.int (nI c5), .ref (h 187)]) ⟨hx, hb, hml, hown, hts⟩ (k_det_0 l dC dI h cs H.size I (va_up L 188 r_3) A (va_up (va_up Q 187 f4) 185 q185_8) G (va_up J 0 j0_9) M (((nI 1) <<< ((nI M) &&& 31)) - (nI 1)) (by first | assumption | omega)) (va_cwS 4 hts gX2_solve_X2_determinant rfl rfl rfl (by decide +kernel) ⟨Nat.le_of_ble_eq_true rfl, Nat.le_of_ble_eq_true rfl⟩) (xpS (wc := (wSq h cs I (va_up L 188 r_3) A (va_up (va_up Q 187 f4) 185 q185_8) G (va_up J 0 j0_9))) hP hD hK hN [1, 2, 3, 4, 5] rfl (by decide) _) rfl rfl hl.1 rfl (lv_room (Nat.le_of_ble_eq_true rfl)) dX2_solve_155 ⟨Nat.zero_le _, Nat.zero_le _⟩) (fun r_12 u_11 H locs hw hP hD hS => ?_)
              obtain ⟨hf_13, rfl⟩ := hw
              have hP : va_P (dC, dI) vwCl (wSl h cs I (va_up L 188 r_3) A (va_up (va_up Q 187 f4) 185 q185_8) G (va_up J 0 j0_9)) H := xP_sub hP [0, 11, 12, 13, 14, 15, 1, 2, 3, 4, 5, 6, 7, 8, 9, 10] rfl
              have hD : va_D A0 (wSl h cs I (va_up L 188 r_3) A (va_up (va_up Q 187 f4) 185 q185_8) G (va_up J 0 j0_9)) := hD.sub [0, 11, 12, 13, 14, 15, 1, 2, 3, 4, 5, 6, 7, 8, 9, 10] (by decide +kernel) rfl
              refine xa_last hx hb hK hP hD hS 8 1 rfl rfl (by omega) (by decide) dX2_solve_158 (fun H locs hP hD hS => ?_)
              have hP : va_P (dC, dI) vwCl (wSl h cs I (va_up L 188 r_3) A (va_up (va_up Q 185 q185_8) 187 (vp_updL f4 c5 r_12)) G (va_up J 0 j0_9)) H := hP
              have hD : va_D A0 (wSl h cs I (va_up L 188 r_3) A (va_up (va_up Q 185 q185_8) 187 (vp_updL f4 c5 r_12)) G (va_up J 0 j0_9)) := hD
              refine lv_aload_n hx hb dX2_solve_159 rfl (lv_at hl 0 rfl) ?_
              refine lv_iload hx hb dX2_solve_160 (lv_at hl 5 rfl) ?_
              refine lv_iload hx hb dX2_solve_162 (lv_at hl 4 rfl) ?_
              refine xj_v (wc := (wLs h cs I (va_up L 188 r_3) A (va_up (va_up Q 185 q185_8) 187 (vp_updL f4 c5 r_12)) G (va_up J 0 j0_9))) (wr := [(h 200, .inl (cs 3, 5, .inr (.inr (.inr (.inr (fun i => if i < 5 then some (h (i + 201)) else none)))))), (h 201, .inl (cs 0, 4, .inl ((G 2) 0))), (h 202, .inl (cs 0, 4, .inl ((G 2) 1))), (h 203, .inl (cs 0, 4, .inl ((G 2) 2))), (h 204, .inl (cs 0, 4, .inl ((G 2) 3))), (h 205, .inl (cs 0, 4, .inl ((G 2) 4))), (h 211, .inl (cs 0, 5, .inl (A 211)))]) hP hD hS hA [0, 1, 2, 3, 4, 5, 6, 7, 8] [9, 10, 11, 12, 13, 14, 15] rfl rfl (by decide +kernel) (by decide +kernel) (va_runV (As := [.int (nI c5), .int (nI M)]) (rest := []) ⟨hx, hb, hml, hown, hts⟩ (k_X2_swapRight l dC dI h cs H.size I (va_up L 188 r_3) A (va_up (va_up Q 185 q185_8) 187 (vp_updL f4 c5 r_12)) G (va_up J 0 j0_9) c5 M (by first | assumption | omega) (by first | assumption | omega)) (cwV 2 hts gX2_solve_X2_swapRight rfl rfl rfl (by decide +kernel) ⟨Nat.le_of_ble_eq_true rfl, Nat.le_of_ble_eq_true rfl⟩) (xpV (wc := (wLs h cs I (va_up L 188 r_3) A (va_up (va_up Q 185 q185_8) 187 (vp_updL f4 c5 r_12)) G (va_up J 0 j0_9))) hP hD hK hN [0, 1, 2, 3, 4, 5, 6, 7, 8] rfl (by decide) 0 (ci := 2) rfl rfl _) rfl rfl hl.1 rfl (lv_room (Nat.le_of_ble_eq_true rfl)) dX2_solve_164 ⟨Nat.zero_le _, Nat.zero_le _⟩) (fun u_14 H locs hw hP hD hS => ?_)
              obtain ⟨q185_16, j0_17, hf_18, rfl⟩ := hw
              have hP : va_P (dC, dI) vwCl (wSl h cs I (va_up L 188 r_3) A (va_up (va_up Q 187 (vp_updL f4 c5 r_12)) 185 q185_16) G (va_up J 0 j0_17)) H := xP_sub hP [7, 8, 9, 10, 11, 12, 13, 14, 15, 0, 1, 2, 3, 4, 5, 6] rfl
              have hD : va_D A0 (wSl h cs I (va_up L 188 r_3) A (va_up (va_up Q 187 (vp_updL f4 c5 r_12)) 185 q185_16) G (va_up J 0 j0_17)) := hD.sub [7, 8, 9, 10, 11, 12, 13, 14, 15, 0, 1, 2, 3, 4, 5, 6] (by decide +kernel) rfl
              refine lv_iinc (v := nI (c5 + 1)) (lv' := [(5, .int (nI (c5 + 1))), (0, .ref (h 106)), (1, .ref (h 200)), (2, .ref (h 211)), (3, .int (nI R)), (4, .int (nI M))]) hx hb dX2_solve_167 hl (k := 5) rfl (nI_1 _) (by decide) rfl (fun ls hl => ?_)
              refine lv_goto (tgt := 121) hx hb dX2_solve_170 (by decide) ?_
              exact ih_121 (c5 + 1) j0_17 q185_16 (vp_updL f4 c5 r_12) (by omega) (by first | assumption | omega) _ _ _ hP hD hS (lv_sub hl [1, 2, 3, 4, 5, 0] rfl)
        exact cut_121 _ 0 jj ff (Q 187) (Nat.lt_succ_self _) (by first | assumption | omega) _ _ _ hP hD hS (lv_sub hl [1, 2, 3, 4, 5, 0] rfl)
      · skip
        refine lv_aload_n hx hb dX2_solve_10 rfl (lv_at hl 0 rfl) ?_
        refine va_get (D := (dC, dI)) (ci := 2) (v := .ref (h 185)) (C := RX2) (T := TX2) (N := 5) hx hb hts hinX2 hown hK hP 0 rfl rfl 1 (by decide) (hts (.fieldLink RX2 16 "MixedWords$Least" "right" "[J") (by decide +kernel)) (fun _ h9 => h9) rfl dX2_solve_11 ?_
        refine lv_iload hx hb dX2_solve_14 (lv_at hl 5 rfl) ?_
        refine lv_lconst (v := 0) hx hb dX2_solve_16 rfl ?_
        refine xa_last hx hb hK hP hD hS 6 1 rfl rfl (by omega) (by decide) dX2_solve_17 (fun H locs hP hD hS => ?_)
        have hP : va_P (dC, dI) vwCl (wSl h cs I L A (va_up Q 185 (vp_updL ff i5 (0 : Int64))) G (va_up J 0 jj)) H := hP
        have hD : va_D A0 (wSl h cs I L A (va_up Q 185 (vp_updL ff i5 (0 : Int64))) G (va_up J 0 jj)) := hD
        refine lv_iconst (v := nI 0) hx hb dX2_solve_18 (by decide) ?_
        refine lv_istore (lv' := [(6, .int (nI 0)), (0, .ref (h 106)), (1, .ref (h 200)), (2, .ref (h 211)), (3, .int (nI R)), (4, .int (nI M)), (5, .int (nI i5))]) hx hb dX2_solve_19 hl (by decide) rfl (fun ls hl => ?_)
        have cut_21 : ∀ (nf : Nat) (k6 : Nat) (f2 : Nat → Int64), (R - k6) < nf → (k6 ≤ R) → ∀ (H : Heap) (locs : List Loc) (ls : Array Slot), va_P (dC, dI) vwCl (wSl h cs I L A (va_up Q 185 f2) G (va_up J 0 jj)) H → va_D A0 (wSl h cs I L A (va_up Q 185 f2) G (va_up J 0 jj)) → va_S A0 s.heap H locs → lv_has ls 7 [(0, .ref (h 106)), (1, .ref (h 200)), (2, .ref (h 211)), (3, .int (nI R)), (4, .int (nI M)), (5, .int (nI i5)), (6, .int (nI k6))] → W p l e (headSpec wsX2_solve ({ frames := 5, cells := 0, slots := 0, locals := 140 })).room s m ([.ref (h 106), .ref (h 200), .ref (h 211), .int (nI R), .int (nI M)] : List Value).toArray below meth c H locs 0 0 (MQ below (va_Qv (fun (u : CS) => ∃ l188 : Int64, ∃ q185 : Nat → Int64, ∃ q187 : Nat → Int64, ∃ j0 : Nat → Nat → Int64, (True) ∧ u = (I, (va_up L 188 l188), A, (va_up (va_up Q 185 q185) 187 q187), G, (va_up J 0 j0))) (xB (dC, dI) (tysA cs) A0 (fun u : CS => wSl h cs u.1 u.2.1 u.2.2.1 u.2.2.2.1 u.2.2.2.2.1 u.2.2.2.2.2)) A0) ([.ref (h 106), .ref (h 200), .ref (h 211), .int (nI R), .int (nI M)] : List Value).toArray s 0 0 A0) (F0 m 21 ls []) := by
          intro nf
          induction nf with
          | zero => intro k6 f2 hm; exact absurd hm (Nat.not_lt_zero _)
          | succ nf ih_21 =>
            intro k6 f2 hm_21 hk21 H locs ls hP hD hS hl
            refine lv_iload hx hb dX2_solve_21 (lv_at hl 6 rfl) ?_
            refine lv_iload_n hx hb dX2_solve_23 rfl (lv_at hl 3 rfl) ?_
            refine xn_ge (tgt := 56) hx hb dX2_solve_24 (by decide) (by omega) (by omega) (fun c_24_18 => ?_) (fun c_24_18 => ?_)
            · skip
              refine lv_iconst (v := nI 0) hx hb dX2_solve_56 (by decide) ?_
              refine lv_istore (lv' := [(6, .int (nI 0)), (0, .ref (h 106)), (1, .ref (h 200)), (2, .ref (h 211)), (3, .int (nI R)), (4, .int (nI M)), (5, .int (nI i5))]) hx hb dX2_solve_57 hl (by decide) rfl (fun ls hl => ?_)
              have cut_59 : ∀ (nf : Nat) (j6 : Nat) (j2 : Nat → Nat → Int64), (M - j6) < nf → (j6 ≤ M) → ∀ (H : Heap) (locs : List Loc) (ls : Array Slot), va_P (dC, dI) vwCl (wSl h cs I L A (va_up Q 185 f2) G (va_up J 0 j2)) H → va_D A0 (wSl h cs I L A (va_up Q 185 f2) G (va_up J 0 j2)) → va_S A0 s.heap H locs → lv_has ls 7 [(0, .ref (h 106)), (1, .ref (h 200)), (2, .ref (h 211)), (3, .int (nI R)), (4, .int (nI M)), (5, .int (nI i5)), (6, .int (nI j6))] → W p l e (headSpec wsX2_solve ({ frames := 5, cells := 0, slots := 0, locals := 140 })).room s m ([.ref (h 106), .ref (h 200), .ref (h 211), .int (nI R), .int (nI M)] : List Value).toArray below meth c H locs 0 0 (MQ below (va_Qv (fun (u : CS) => ∃ l188 : Int64, ∃ q185 : Nat → Int64, ∃ q187 : Nat → Int64, ∃ j0 : Nat → Nat → Int64, (True) ∧ u = (I, (va_up L 188 l188), A, (va_up (va_up Q 185 q185) 187 q187), G, (va_up J 0 j0))) (xB (dC, dI) (tysA cs) A0 (fun u : CS => wSl h cs u.1 u.2.1 u.2.2.1 u.2.2.2.1 u.2.2.2.2.1 u.2.2.2.2.2)) A0) ([.ref (h 106), .ref (h 200), .ref (h 211), .int (nI R), .int (nI M)] : List Value).toArray s 0 0 A0) (F0 m 59 ls []) := by
                intro nf
                induction nf with
                | zero => intro j6 j2 hm; exact absurd hm (Nat.not_lt_zero _)
                | succ nf ih_59 =>
                  intro j6 j2 hm_59 hj59 H locs ls hP hD hS hl
                  refine lv_iload hx hb dX2_solve_59 (lv_at hl 6 rfl) ?_
                  refine lv_iload hx hb dX2_solve_61 (lv_at hl 4 rfl) ?_
                  refine xn_ge (tgt := 92) hx hb dX2_solve_63 (by decide) (by omega) (by omega) (fun c_63_19 => ?_) (fun c_63_19 => ?_)
                  · skip
                    refine lv_iinc (v := nI (i5 + 1)) (lv' := [(5, .int (nI (i5 + 1))), (0, .ref (h 106)), (1, .ref (h 200)), (2, .ref (h 211)), (3, .int (nI R)), (4, .int (nI M)), (6, .int (nI j6))]) hx hb dX2_solve_92 hl (k := 5) rfl (nI_1 _) (by decide) rfl (fun ls hl => ?_)
                    refine lv_goto (tgt := 3) hx hb dX2_solve_95 (by decide) ?_
                    exact ih_3 (i5 + 1) j2 f2 (by omega) (by first | assumption | omega) _ _ _ hP hD hS (lv_sub hl [1, 2, 3, 4, 5, 0] rfl)
                  · skip
                    refine lv_aload_n hx hb dX2_solve_66 rfl (lv_at hl 0 rfl) ?_
                    refine va_get (D := (dC, dI)) (ci := 2) (v := .ref (h 180)) (C := RX2) (T := TX2) (N := 5) hx hb hts hinX2 hown hK hP 0 rfl rfl 0 (by decide) (hts (.fieldLink RX2 11 "MixedWords$Least" "square" "[[J") (by decide +kernel)) (fun _ h9 => h9) rfl dX2_solve_67 ?_
                    refine lv_iload hx hb dX2_solve_70 (lv_at hl 5 rfl) ?_
                    refine xa_aald (b := h (i5 + 181)) hx hb hK hP 1 4 rfl rfl rfl (by omega) (by decide) (if_pos (by omega)) dX2_solve_72 ?_
                    refine lv_iload hx hb dX2_solve_73 (lv_at hl 6 rfl) ?_
                    refine lv_aload_n hx hb dX2_solve_75 rfl (lv_at hl 1 rfl) ?_
                    refine lv_iload_n hx hb dX2_solve_76 rfl (lv_at hl 3 rfl) ?_
                    refine lv_iload hx hb dX2_solve_77 (lv_at hl 5 rfl) ?_
                    refine lv_iload hx hb dX2_solve_79 (lv_at hl 6 rfl) ?_
                    refine xj_i (wc := (wGrid (fun k => h (k + 199)) cs I L A (va_up Q 185 f2) (fun _ => G 2) (va_up J 0 j2))) (wr := [(h 106, .inr (2, [.ref (h 180), .ref (h 185), .ref (h 186), .ref (h 187), .long (L 188)])), (h 180, .inl (cs 4, 4, .inr (.inr (.inr (.inr (fun i => if i < 4 then some (h (i + 181)) else none)))))), (h 181, .inl (cs 1, 4, .inr (.inl (j2 0)))), (h 182, .inl (cs 1, 4, .inr (.inl (j2 1)))), (h 183, .inl (cs 1, 4, .inr (.inl (j2 2)))), (h 184, .inl (cs 1, 4, .inr (.inl (j2 3)))), (h 185, .inl (cs 1, 4, .inr (.inl f2))), (h 186, .inl (cs 0, 4, .inl (A 186))), (h 187, .inl (cs 1, 4, .inr (.inl (Q 187)))), (h 211, .inl (cs 0, 5, .inl (A 211)))]) hP hD hS hA [9, 10, 11, 12, 13, 14] [0, 1, 2, 3, 4, 5, 6, 7, 8, 15] rfl rfl (by decide +kernel) (by decide +kernel) (va_runSN (As := [.ref (h 200), .int (nI R), .int (nI i5), .int (nI j6)]) (rest := [.int (nI j6), .ref (h (i5 + 181))]) ⟨hx, hb, hml, hown, hts⟩ (k_X9_product l dC dI (fun k => h (k + 199)) cs H.size I L A (va_up Q 185 f2) (fun _ => G 2) (va_up J 0 j2) R i5 j6 (by first | assumption | omega) (by first | assumption | omega) (by first | assumption | omega)) ⟨va_cnB (host := "MixedWords") 4 hts gX2_solve_X9_product_n40 rfl rfl rfl hN.2.2.2.2.2.1 (hts (.initialized RX9) (by decide +kernel)) (by decide +kernel) ⟨Nat.le_of_ble_eq_true rfl, Nat.le_of_ble_eq_true rfl⟩, hts (.static yX9_product) (by decide +kernel), trivial⟩ (xpS (wc := (wGrid (fun k => h (k + 199)) cs I L A (va_up Q 185 f2) (fun _ => G 2) (va_up J 0 j2))) hP hD hK hN [9, 10, 11, 12, 13, 14] rfl (by decide) _) rfl rfl hl.1 rfl (lv_room (Nat.le_of_ble_eq_true rfl)) dX2_solve_81 ⟨Nat.zero_le _, Nat.zero_le _⟩) (fun r_22 u_21 H locs hw hP hD hS => ?_)
                    obtain ⟨hf_23, rfl⟩ := hw
                    have hP : va_P (dC, dI) vwCl (wSl h cs I L A (va_up Q 185 f2) G (va_up J 0 j2)) H := xP_sub hP [0, 1, 2, 3, 4, 5, 6, 7, 8, 10, 11, 12, 13, 14, 15, 9] rfl
                    have hD : va_D A0 (wSl h cs I L A (va_up Q 185 f2) G (va_up J 0 j2)) := hD.sub [0, 1, 2, 3, 4, 5, 6, 7, 8, 10, 11, 12, 13, 14, 15, 9] (by decide +kernel) rfl
                    obtain rfl := hf_23
                    refine lv_i2l (v := (prodF (G 2) i5 j6 R).toInt64) hx hb dX2_solve_84 rfl ?_
                    refine xa_last hx hb hK hP hD hS (2 + i5) 1 (wSl_atJ0 (by omega)) rfl (by omega) (by decide) dX2_solve_85 (fun H locs hP hD hS => ?_)
                    rw [wSl_setJ0 (by omega)] at hP hD
                    have hP : va_P (dC, dI) vwCl (wSl h cs I L A (va_up Q 185 f2) G (va_up J 0 (va_up j2 i5 (vp_updL (j2 i5) j6 ((prodF (G 2) i5 j6 R).toInt64))))) H := hP
                    have hD : va_D A0 (wSl h cs I L A (va_up Q 185 f2) G (va_up J 0 (va_up j2 i5 (vp_updL (j2 i5) j6 ((prodF (G 2) i5 j6 R).toInt64))))) := hD
                    refine lv_iinc (v := nI (j6 + 1)) (lv' := [(6, .int (nI (j6 + 1))), (0, .ref (h 106)), (1, .ref (h 200)), (2, .ref (h 211)), (3, .int (nI R)), (4, .int (nI M)), (5, .int (nI i5))]) hx hb dX2_solve_86 hl (k := 6) rfl (nI_1 _) (by decide) rfl (fun ls hl => ?_)
                    refine lv_goto (tgt := 59) hx hb dX2_solve_89 (by decide) ?_
                    exact ih_59 (j6 + 1) (va_up j2 i5 (vp_updL (j2 i5) j6 ((prodF (G 2) i5 j6 R).toInt64))) (by omega) (by first | assumption | omega) _ _ _ hP hD hS (lv_sub hl [1, 2, 3, 4, 5, 6, 0] rfl)
              exact cut_59 _ 0 jj (Nat.lt_succ_self _) (by first | assumption | omega) _ _ _ hP hD hS (lv_sub hl [1, 2, 3, 4, 5, 6, 0] rfl)
            · skip
              refine lv_aload_n hx hb dX2_solve_27 rfl (lv_at hl 0 rfl) ?_
              refine va_get (D := (dC, dI)) (ci := 2) (v := .ref (h 185)) (C := RX2) (T := TX2) (N := 5) hx hb hts hinX2 hown hK hP 0 rfl rfl 1 (by decide) (hts (.fieldLink RX2 16 "MixedWords$Least" "right" "[J") (by decide +kernel)) (fun _ h9 => h9) rfl dX2_solve_28 ?_
              refine lv_iload hx hb dX2_solve_31 (lv_at hl 5 rfl) ?_
              refine lv_dup2_11 hx hb dX2_solve_33 rfl rfl ?_
              refine xa_lald hx hb hK hP 6 1 rfl rfl (by omega) (by decide) dX2_solve_34 ?_
              refine lv_aload_n hx hb dX2_solve_35 rfl (lv_at hl 1 rfl) ?_
              refine lv_iload hx hb dX2_solve_36 (lv_at hl 6 rfl) ?_
              refine xa_aald (b := h (k6 + 201)) hx hb hK hP 9 3 rfl rfl rfl (by omega) (by decide) (if_pos (by omega)) dX2_solve_38 ?_
              refine lv_iload hx hb dX2_solve_39 (lv_at hl 5 rfl) ?_
              refine xa_iald hx hb hK hP (10 + k6) 0 (wSl_atG2 (by omega)) rfl (by omega) (by decide) dX2_solve_41 ?_
              refine lv_aload_n hx hb dX2_solve_42 rfl (lv_at hl 2 rfl) ?_
              refine lv_iload hx hb dX2_solve_43 (lv_at hl 6 rfl) ?_
              refine xa_iald hx hb hK hP 15 0 rfl rfl (by omega) (by decide) dX2_solve_45 ?_
              refine lv_imul hx hb dX2_solve_46 ?_
              refine lv_i2l (v := ((((G 2) k6) i5) * (A 211 k6)).toInt64) hx hb dX2_solve_47 rfl ?_
              refine lv_ladd hx hb dX2_solve_48 ?_
              refine xa_last hx hb hK hP hD hS 6 1 rfl rfl (by omega) (by decide) dX2_solve_49 (fun H locs hP hD hS => ?_)
              have hP : va_P (dC, dI) vwCl (wSl h cs I L A (va_up Q 185 (vp_updL f2 i5 ((f2 i5) + (((((G 2) k6) i5) * (A 211 k6)).toInt64)))) G (va_up J 0 jj)) H := hP
              have hD : va_D A0 (wSl h cs I L A (va_up Q 185 (vp_updL f2 i5 ((f2 i5) + (((((G 2) k6) i5) * (A 211 k6)).toInt64)))) G (va_up J 0 jj)) := hD
              refine lv_iinc (v := nI (k6 + 1)) (lv' := [(6, .int (nI (k6 + 1))), (0, .ref (h 106)), (1, .ref (h 200)), (2, .ref (h 211)), (3, .int (nI R)), (4, .int (nI M)), (5, .int (nI i5))]) hx hb dX2_solve_50 hl (k := 6) rfl (nI_1 _) (by decide) rfl (fun ls hl => ?_)
              refine lv_goto (tgt := 21) hx hb dX2_solve_53 (by decide) ?_
              exact ih_21 (k6 + 1) (vp_updL f2 i5 ((f2 i5) + (((((G 2) k6) i5) * (A 211 k6)).toInt64))) (by omega) (by first | assumption | omega) _ _ _ hP hD hS (lv_sub hl [1, 2, 3, 4, 5, 6, 0] rfl)
        exact cut_21 _ 0 (vp_updL ff i5 (0 : Int64)) (Nat.lt_succ_self _) (by first | assumption | omega) _ _ _ hP hD hS (lv_sub hl [1, 2, 3, 4, 5, 6, 0] rfl)
  exact cut_3 _ 0 (J 0) (Q 185) (Nat.lt_succ_self _) (by first | assumption | omega) _ _ _ hP hD hS (lv_sub hl [1, 2, 3, 4, 5, 0] rfl)
