def wFT (h : Nat → Nat) (cs : Nat → ClassId) (I : Nat → Int32) (L : Nat → Int64) (A : Nat → Nat → Int32) (Q : Nat → Nat → Int64) (G : Nat → Nat → Nat → Int32) (J : Nat → Nat → Nat → Int64) : va_W := [(h 100, .inr (9, [.ref (h 101), .ref (h 102), .ref (h 103), .ref (h 104), .ref (h 105), .ref (h 106), .ref (h 107), .ref (h 108), .ref (h 109)])), (h 103, .inr (7, [.ref (h 150), .int (I 151)])), (h 150, .inl (cs 2, 90, .inl (A 150)))]
def wFO (h : Nat → Nat) (cs : Nat → ClassId) (I : Nat → Int32) (L : Nat → Int64) (A : Nat → Nat → Int32) (Q : Nat → Nat → Int64) (G : Nat → Nat → Nat → Int32) (J : Nat → Nat → Nat → Int64) : va_W := [(h 100, .inr (9, [.ref (h 101), .ref (h 102), .ref (h 103), .ref (h 104), .ref (h 105), .ref (h 106), .ref (h 107), .ref (h 108), .ref (h 109)])), (h 105, .inr (8, [.ref (h 101), .ref (h 170), .ref (h 171), .ref (h 172), .int (I 173), .int (I 174)])), (h 170, .inl (cs 0, 256, .inl (A 170))), (h 171, .inl (cs 0, 256, .inl (A 171))), (h 172, .inl (cs 0, 256, .inl (A 172))), (h 101, .inr (3, [.int (I 120), .int (I 121), .int (I 122), .int (I 123), .ref (h 130), .ref (h 136)])), (h 130, .inl (cs 3, 5, .inr (.inr (.inr (.inr (fun i => if i < 5 then some (h (i + 131)) else none)))))), (h 131, .inl (cs 0, 4, .inl ((G 0) 0))), (h 132, .inl (cs 0, 4, .inl ((G 0) 1))), (h 133, .inl (cs 0, 4, .inl ((G 0) 2))), (h 134, .inl (cs 0, 4, .inl ((G 0) 3))), (h 135, .inl (cs 0, 4, .inl ((G 0) 4))), (h 136, .inl (cs 0, 5, .inl (A 136)))]
theorem wFO_atG0 {h : Nat → Nat} {cs : Nat → ClassId} {I : Nat → Int32} {L : Nat → Int64} {A : Nat → Nat → Int32} {Q : Nat → Nat → Int64} {G : Nat → Nat → Nat → Int32} {J : Nat → Nat → Nat → Int64} {k : Nat} (hk : k < 5) : (wFO h cs I L A Q G J)[7 + k]? = some (h (k + 131), .inl (cs 0, 4, .inl (G 0 k))) := by
  rcases (show k = 0 ∨ k = 1 ∨ k = 2 ∨ k = 3 ∨ k = 4 by omega) with rfl | rfl | rfl | rfl | rfl <;> rfl
theorem wFO_setG0 {h : Nat → Nat} {cs : Nat → ClassId} {I : Nat → Int32} {L : Nat → Int64} {A : Nat → Nat → Int32} {Q : Nat → Nat → Int64} {G : Nat → Nat → Nat → Int32} {J : Nat → Nat → Nat → Int64} {k : Nat} {f : Nat → Int32} (hk : k < 5) : (wFO h cs I L A Q G J).set (7 + k) (h (k + 131), .inl (cs 0, 4, .inl (f))) = wFO h cs I L A Q (va_up G 0 (va_up (G 0) k f)) J := by
  rcases (show k = 0 ∨ k = 1 ∨ k = 2 ∨ k = 3 ∨ k = 4 by omega) with rfl | rfl | rfl | rfl | rfl <;> rfl
def wFL (h : Nat → Nat) (cs : Nat → ClassId) (I : Nat → Int32) (L : Nat → Int64) (A : Nat → Nat → Int32) (Q : Nat → Nat → Int64) (G : Nat → Nat → Nat → Int32) (J : Nat → Nat → Nat → Int64) : va_W := [(h 100, .inr (9, [.ref (h 101), .ref (h 102), .ref (h 103), .ref (h 104), .ref (h 105), .ref (h 106), .ref (h 107), .ref (h 108), .ref (h 109)])), (h 106, .inr (2, [.ref (h 180), .ref (h 185), .ref (h 186), .ref (h 187), .long (L 188)])), (h 180, .inl (cs 4, 4, .inr (.inr (.inr (.inr (fun i => if i < 4 then some (h (i + 181)) else none)))))), (h 181, .inl (cs 1, 4, .inr (.inl ((J 0) 0)))), (h 182, .inl (cs 1, 4, .inr (.inl ((J 0) 1)))), (h 183, .inl (cs 1, 4, .inr (.inl ((J 0) 2)))), (h 184, .inl (cs 1, 4, .inr (.inl ((J 0) 3)))), (h 185, .inl (cs 1, 4, .inr (.inl (Q 185)))), (h 186, .inl (cs 0, 4, .inl (A 186))), (h 187, .inl (cs 1, 4, .inr (.inl (Q 187)))), (h 101, .inr (3, [.int (I 120), .int (I 121), .int (I 122), .int (I 123), .ref (h 130), .ref (h 136)])), (h 130, .inl (cs 3, 5, .inr (.inr (.inr (.inr (fun i => if i < 5 then some (h (i + 131)) else none)))))), (h 131, .inl (cs 0, 4, .inl ((G 0) 0))), (h 132, .inl (cs 0, 4, .inl ((G 0) 1))), (h 133, .inl (cs 0, 4, .inl ((G 0) 2))), (h 134, .inl (cs 0, 4, .inl ((G 0) 3))), (h 135, .inl (cs 0, 4, .inl ((G 0) 4))), (h 136, .inl (cs 0, 5, .inl (A 136)))]
theorem wFL_atJ0 {h : Nat → Nat} {cs : Nat → ClassId} {I : Nat → Int32} {L : Nat → Int64} {A : Nat → Nat → Int32} {Q : Nat → Nat → Int64} {G : Nat → Nat → Nat → Int32} {J : Nat → Nat → Nat → Int64} {k : Nat} (hk : k < 4) : (wFL h cs I L A Q G J)[3 + k]? = some (h (k + 181), .inl (cs 1, 4, .inr (.inl (J 0 k)))) := by
  rcases (show k = 0 ∨ k = 1 ∨ k = 2 ∨ k = 3 by omega) with rfl | rfl | rfl | rfl <;> rfl
theorem wFL_setJ0 {h : Nat → Nat} {cs : Nat → ClassId} {I : Nat → Int32} {L : Nat → Int64} {A : Nat → Nat → Int32} {Q : Nat → Nat → Int64} {G : Nat → Nat → Nat → Int32} {J : Nat → Nat → Nat → Int64} {k : Nat} {f : Nat → Int64} (hk : k < 4) : (wFL h cs I L A Q G J).set (3 + k) (h (k + 181), .inl (cs 1, 4, .inr (.inl (f)))) = wFL h cs I L A Q G (va_up J 0 (va_up (J 0) k f)) := by
  rcases (show k = 0 ∨ k = 1 ∨ k = 2 ∨ k = 3 by omega) with rfl | rfl | rfl | rfl <;> rfl
theorem wFL_atG0 {h : Nat → Nat} {cs : Nat → ClassId} {I : Nat → Int32} {L : Nat → Int64} {A : Nat → Nat → Int32} {Q : Nat → Nat → Int64} {G : Nat → Nat → Nat → Int32} {J : Nat → Nat → Nat → Int64} {k : Nat} (hk : k < 5) : (wFL h cs I L A Q G J)[12 + k]? = some (h (k + 131), .inl (cs 0, 4, .inl (G 0 k))) := by
  rcases (show k = 0 ∨ k = 1 ∨ k = 2 ∨ k = 3 ∨ k = 4 by omega) with rfl | rfl | rfl | rfl | rfl <;> rfl
theorem wFL_setG0 {h : Nat → Nat} {cs : Nat → ClassId} {I : Nat → Int32} {L : Nat → Int64} {A : Nat → Nat → Int32} {Q : Nat → Nat → Int64} {G : Nat → Nat → Nat → Int32} {J : Nat → Nat → Nat → Int64} {k : Nat} {f : Nat → Int32} (hk : k < 5) : (wFL h cs I L A Q G J).set (12 + k) (h (k + 131), .inl (cs 0, 4, .inl (f))) = wFL h cs I L A Q (va_up G 0 (va_up (G 0) k f)) J := by
  rcases (show k = 0 ∨ k = 1 ∨ k = 2 ∨ k = 3 ∨ k = 4 by omega) with rfl | rfl | rfl | rfl | rfl <;> rfl
def wFK (h : Nat → Nat) (cs : Nat → ClassId) (I : Nat → Int32) (L : Nat → Int64) (A : Nat → Nat → Int32) (Q : Nat → Nat → Int64) (G : Nat → Nat → Nat → Int32) (J : Nat → Nat → Nat → Int64) : va_W := [(h 100, .inr (9, [.ref (h 101), .ref (h 102), .ref (h 103), .ref (h 104), .ref (h 105), .ref (h 106), .ref (h 107), .ref (h 108), .ref (h 109)])), (h 107, .inr (6, [.ref (h 101), .ref (h 190), .ref (h 191), .ref (h 192)])), (h 190, .inl (cs 0, 5, .inl (A 190))), (h 191, .inl (cs 0, 4, .inl (A 191))), (h 192, .inl (cs 0, 4, .inl (A 192))), (h 101, .inr (3, [.int (I 120), .int (I 121), .int (I 122), .int (I 123), .ref (h 130), .ref (h 136)])), (h 130, .inl (cs 3, 5, .inr (.inr (.inr (.inr (fun i => if i < 5 then some (h (i + 131)) else none)))))), (h 131, .inl (cs 0, 4, .inl ((G 0) 0))), (h 132, .inl (cs 0, 4, .inl ((G 0) 1))), (h 133, .inl (cs 0, 4, .inl ((G 0) 2))), (h 134, .inl (cs 0, 4, .inl ((G 0) 3))), (h 135, .inl (cs 0, 4, .inl ((G 0) 4))), (h 136, .inl (cs 0, 5, .inl (A 136)))]
theorem wFK_atG0 {h : Nat → Nat} {cs : Nat → ClassId} {I : Nat → Int32} {L : Nat → Int64} {A : Nat → Nat → Int32} {Q : Nat → Nat → Int64} {G : Nat → Nat → Nat → Int32} {J : Nat → Nat → Nat → Int64} {k : Nat} (hk : k < 5) : (wFK h cs I L A Q G J)[7 + k]? = some (h (k + 131), .inl (cs 0, 4, .inl (G 0 k))) := by
  rcases (show k = 0 ∨ k = 1 ∨ k = 2 ∨ k = 3 ∨ k = 4 by omega) with rfl | rfl | rfl | rfl | rfl <;> rfl
theorem wFK_setG0 {h : Nat → Nat} {cs : Nat → ClassId} {I : Nat → Int32} {L : Nat → Int64} {A : Nat → Nat → Int32} {Q : Nat → Nat → Int64} {G : Nat → Nat → Nat → Int32} {J : Nat → Nat → Nat → Int64} {k : Nat} {f : Nat → Int32} (hk : k < 5) : (wFK h cs I L A Q G J).set (7 + k) (h (k + 131), .inl (cs 0, 4, .inl (f))) = wFK h cs I L A Q (va_up G 0 (va_up (G 0) k f)) J := by
  rcases (show k = 0 ∨ k = 1 ∨ k = 2 ∨ k = 3 ∨ k = 4 by omega) with rfl | rfl | rfl | rfl | rfl <;> rfl
def wFE (h : Nat → Nat) (cs : Nat → ClassId) (I : Nat → Int32) (L : Nat → Int64) (A : Nat → Nat → Int32) (Q : Nat → Nat → Int64) (G : Nat → Nat → Nat → Int32) (J : Nat → Nat → Nat → Int64) : va_W := [(h 100, .inr (9, [.ref (h 101), .ref (h 102), .ref (h 103), .ref (h 104), .ref (h 105), .ref (h 106), .ref (h 107), .ref (h 108), .ref (h 109)])), (h 108, .inr (1, [.ref (h 101), .ref (h 200), .ref (h 206), .ref (h 211), .int (I 212), .int (I 213)])), (h 200, .inl (cs 3, 5, .inr (.inr (.inr (.inr (fun i => if i < 5 then some (h (i + 201)) else none)))))), (h 201, .inl (cs 0, 4, .inl ((G 2) 0))), (h 202, .inl (cs 0, 4, .inl ((G 2) 1))), (h 203, .inl (cs 0, 4, .inl ((G 2) 2))), (h 204, .inl (cs 0, 4, .inl ((G 2) 3))), (h 205, .inl (cs 0, 4, .inl ((G 2) 4))), (h 206, .inl (cs 3, 4, .inr (.inr (.inr (.inr (fun i => if i < 4 then some (h (i + 207)) else none)))))), (h 207, .inl (cs 0, 4, .inl ((G 3) 0))), (h 208, .inl (cs 0, 4, .inl ((G 3) 1))), (h 209, .inl (cs 0, 4, .inl ((G 3) 2))), (h 210, .inl (cs 0, 4, .inl ((G 3) 3))), (h 211, .inl (cs 0, 5, .inl (A 211))), (h 101, .inr (3, [.int (I 120), .int (I 121), .int (I 122), .int (I 123), .ref (h 130), .ref (h 136)])), (h 130, .inl (cs 3, 5, .inr (.inr (.inr (.inr (fun i => if i < 5 then some (h (i + 131)) else none)))))), (h 131, .inl (cs 0, 4, .inl ((G 0) 0))), (h 132, .inl (cs 0, 4, .inl ((G 0) 1))), (h 133, .inl (cs 0, 4, .inl ((G 0) 2))), (h 134, .inl (cs 0, 4, .inl ((G 0) 3))), (h 135, .inl (cs 0, 4, .inl ((G 0) 4))), (h 136, .inl (cs 0, 5, .inl (A 136)))]
theorem wFE_atG2 {h : Nat → Nat} {cs : Nat → ClassId} {I : Nat → Int32} {L : Nat → Int64} {A : Nat → Nat → Int32} {Q : Nat → Nat → Int64} {G : Nat → Nat → Nat → Int32} {J : Nat → Nat → Nat → Int64} {k : Nat} (hk : k < 5) : (wFE h cs I L A Q G J)[3 + k]? = some (h (k + 201), .inl (cs 0, 4, .inl (G 2 k))) := by
  rcases (show k = 0 ∨ k = 1 ∨ k = 2 ∨ k = 3 ∨ k = 4 by omega) with rfl | rfl | rfl | rfl | rfl <;> rfl
theorem wFE_setG2 {h : Nat → Nat} {cs : Nat → ClassId} {I : Nat → Int32} {L : Nat → Int64} {A : Nat → Nat → Int32} {Q : Nat → Nat → Int64} {G : Nat → Nat → Nat → Int32} {J : Nat → Nat → Nat → Int64} {k : Nat} {f : Nat → Int32} (hk : k < 5) : (wFE h cs I L A Q G J).set (3 + k) (h (k + 201), .inl (cs 0, 4, .inl (f))) = wFE h cs I L A Q (va_up G 2 (va_up (G 2) k f)) J := by
  rcases (show k = 0 ∨ k = 1 ∨ k = 2 ∨ k = 3 ∨ k = 4 by omega) with rfl | rfl | rfl | rfl | rfl <;> rfl
theorem wFE_atG3 {h : Nat → Nat} {cs : Nat → ClassId} {I : Nat → Int32} {L : Nat → Int64} {A : Nat → Nat → Int32} {Q : Nat → Nat → Int64} {G : Nat → Nat → Nat → Int32} {J : Nat → Nat → Nat → Int64} {k : Nat} (hk : k < 4) : (wFE h cs I L A Q G J)[9 + k]? = some (h (k + 207), .inl (cs 0, 4, .inl (G 3 k))) := by
  rcases (show k = 0 ∨ k = 1 ∨ k = 2 ∨ k = 3 by omega) with rfl | rfl | rfl | rfl <;> rfl
theorem wFE_setG3 {h : Nat → Nat} {cs : Nat → ClassId} {I : Nat → Int32} {L : Nat → Int64} {A : Nat → Nat → Int32} {Q : Nat → Nat → Int64} {G : Nat → Nat → Nat → Int32} {J : Nat → Nat → Nat → Int64} {k : Nat} {f : Nat → Int32} (hk : k < 4) : (wFE h cs I L A Q G J).set (9 + k) (h (k + 207), .inl (cs 0, 4, .inl (f))) = wFE h cs I L A Q (va_up G 3 (va_up (G 3) k f)) J := by
  rcases (show k = 0 ∨ k = 1 ∨ k = 2 ∨ k = 3 by omega) with rfl | rfl | rfl | rfl <;> rfl
theorem wFE_atG0 {h : Nat → Nat} {cs : Nat → ClassId} {I : Nat → Int32} {L : Nat → Int64} {A : Nat → Nat → Int32} {Q : Nat → Nat → Int64} {G : Nat → Nat → Nat → Int32} {J : Nat → Nat → Nat → Int64} {k : Nat} (hk : k < 5) : (wFE h cs I L A Q G J)[16 + k]? = some (h (k + 131), .inl (cs 0, 4, .inl (G 0 k))) := by
  rcases (show k = 0 ∨ k = 1 ∨ k = 2 ∨ k = 3 ∨ k = 4 by omega) with rfl | rfl | rfl | rfl | rfl <;> rfl
theorem wFE_setG0 {h : Nat → Nat} {cs : Nat → ClassId} {I : Nat → Int32} {L : Nat → Int64} {A : Nat → Nat → Int32} {Q : Nat → Nat → Int64} {G : Nat → Nat → Nat → Int32} {J : Nat → Nat → Nat → Int64} {k : Nat} {f : Nat → Int32} (hk : k < 5) : (wFE h cs I L A Q G J).set (16 + k) (h (k + 131), .inl (cs 0, 4, .inl (f))) = wFE h cs I L A Q (va_up G 0 (va_up (G 0) k f)) J := by
  rcases (show k = 0 ∨ k = 1 ∨ k = 2 ∨ k = 3 ∨ k = 4 by omega) with rfl | rfl | rfl | rfl | rfl <;> rfl
def wFW (h : Nat → Nat) (cs : Nat → ClassId) (I : Nat → Int32) (L : Nat → Int64) (A : Nat → Nat → Int32) (Q : Nat → Nat → Int64) (G : Nat → Nat → Nat → Int32) (J : Nat → Nat → Nat → Int64) : va_W := [(h 100, .inr (9, [.ref (h 101), .ref (h 102), .ref (h 103), .ref (h 104), .ref (h 105), .ref (h 106), .ref (h 107), .ref (h 108), .ref (h 109)])), (h 108, .inr (1, [.ref (h 101), .ref (h 200), .ref (h 206), .ref (h 211), .int (I 212), .int (I 213)])), (h 200, .inl (cs 3, 5, .inr (.inr (.inr (.inr (fun i => if i < 5 then some (h (i + 201)) else none)))))), (h 201, .inl (cs 0, 4, .inl ((G 2) 0))), (h 202, .inl (cs 0, 4, .inl ((G 2) 1))), (h 203, .inl (cs 0, 4, .inl ((G 2) 2))), (h 204, .inl (cs 0, 4, .inl ((G 2) 3))), (h 205, .inl (cs 0, 4, .inl ((G 2) 4))), (h 206, .inl (cs 3, 4, .inr (.inr (.inr (.inr (fun i => if i < 4 then some (h (i + 207)) else none)))))), (h 207, .inl (cs 0, 4, .inl ((G 3) 0))), (h 208, .inl (cs 0, 4, .inl ((G 3) 1))), (h 209, .inl (cs 0, 4, .inl ((G 3) 2))), (h 210, .inl (cs 0, 4, .inl ((G 3) 3))), (h 211, .inl (cs 0, 5, .inl (A 211))), (h 106, .inr (2, [.ref (h 180), .ref (h 185), .ref (h 186), .ref (h 187), .long (L 188)])), (h 180, .inl (cs 4, 4, .inr (.inr (.inr (.inr (fun i => if i < 4 then some (h (i + 181)) else none)))))), (h 181, .inl (cs 1, 4, .inr (.inl ((J 0) 0)))), (h 182, .inl (cs 1, 4, .inr (.inl ((J 0) 1)))), (h 183, .inl (cs 1, 4, .inr (.inl ((J 0) 2)))), (h 184, .inl (cs 1, 4, .inr (.inl ((J 0) 3)))), (h 185, .inl (cs 1, 4, .inr (.inl (Q 185)))), (h 186, .inl (cs 0, 4, .inl (A 186))), (h 187, .inl (cs 1, 4, .inr (.inl (Q 187)))), (h 101, .inr (3, [.int (I 120), .int (I 121), .int (I 122), .int (I 123), .ref (h 130), .ref (h 136)])), (h 130, .inl (cs 3, 5, .inr (.inr (.inr (.inr (fun i => if i < 5 then some (h (i + 131)) else none)))))), (h 131, .inl (cs 0, 4, .inl ((G 0) 0))), (h 132, .inl (cs 0, 4, .inl ((G 0) 1))), (h 133, .inl (cs 0, 4, .inl ((G 0) 2))), (h 134, .inl (cs 0, 4, .inl ((G 0) 3))), (h 135, .inl (cs 0, 4, .inl ((G 0) 4))), (h 136, .inl (cs 0, 5, .inl (A 136)))]
theorem wFW_atG2 {h : Nat → Nat} {cs : Nat → ClassId} {I : Nat → Int32} {L : Nat → Int64} {A : Nat → Nat → Int32} {Q : Nat → Nat → Int64} {G : Nat → Nat → Nat → Int32} {J : Nat → Nat → Nat → Int64} {k : Nat} (hk : k < 5) : (wFW h cs I L A Q G J)[3 + k]? = some (h (k + 201), .inl (cs 0, 4, .inl (G 2 k))) := by
  rcases (show k = 0 ∨ k = 1 ∨ k = 2 ∨ k = 3 ∨ k = 4 by omega) with rfl | rfl | rfl | rfl | rfl <;> rfl
theorem wFW_setG2 {h : Nat → Nat} {cs : Nat → ClassId} {I : Nat → Int32} {L : Nat → Int64} {A : Nat → Nat → Int32} {Q : Nat → Nat → Int64} {G : Nat → Nat → Nat → Int32} {J : Nat → Nat → Nat → Int64} {k : Nat} {f : Nat → Int32} (hk : k < 5) : (wFW h cs I L A Q G J).set (3 + k) (h (k + 201), .inl (cs 0, 4, .inl (f))) = wFW h cs I L A Q (va_up G 2 (va_up (G 2) k f)) J := by
  rcases (show k = 0 ∨ k = 1 ∨ k = 2 ∨ k = 3 ∨ k = 4 by omega) with rfl | rfl | rfl | rfl | rfl <;> rfl
theorem wFW_atG3 {h : Nat → Nat} {cs : Nat → ClassId} {I : Nat → Int32} {L : Nat → Int64} {A : Nat → Nat → Int32} {Q : Nat → Nat → Int64} {G : Nat → Nat → Nat → Int32} {J : Nat → Nat → Nat → Int64} {k : Nat} (hk : k < 4) : (wFW h cs I L A Q G J)[9 + k]? = some (h (k + 207), .inl (cs 0, 4, .inl (G 3 k))) := by
  rcases (show k = 0 ∨ k = 1 ∨ k = 2 ∨ k = 3 by omega) with rfl | rfl | rfl | rfl <;> rfl
theorem wFW_setG3 {h : Nat → Nat} {cs : Nat → ClassId} {I : Nat → Int32} {L : Nat → Int64} {A : Nat → Nat → Int32} {Q : Nat → Nat → Int64} {G : Nat → Nat → Nat → Int32} {J : Nat → Nat → Nat → Int64} {k : Nat} {f : Nat → Int32} (hk : k < 4) : (wFW h cs I L A Q G J).set (9 + k) (h (k + 207), .inl (cs 0, 4, .inl (f))) = wFW h cs I L A Q (va_up G 3 (va_up (G 3) k f)) J := by
  rcases (show k = 0 ∨ k = 1 ∨ k = 2 ∨ k = 3 by omega) with rfl | rfl | rfl | rfl <;> rfl
theorem wFW_atJ0 {h : Nat → Nat} {cs : Nat → ClassId} {I : Nat → Int32} {L : Nat → Int64} {A : Nat → Nat → Int32} {Q : Nat → Nat → Int64} {G : Nat → Nat → Nat → Int32} {J : Nat → Nat → Nat → Int64} {k : Nat} (hk : k < 4) : (wFW h cs I L A Q G J)[16 + k]? = some (h (k + 181), .inl (cs 1, 4, .inr (.inl (J 0 k)))) := by
  rcases (show k = 0 ∨ k = 1 ∨ k = 2 ∨ k = 3 by omega) with rfl | rfl | rfl | rfl <;> rfl
theorem wFW_setJ0 {h : Nat → Nat} {cs : Nat → ClassId} {I : Nat → Int32} {L : Nat → Int64} {A : Nat → Nat → Int32} {Q : Nat → Nat → Int64} {G : Nat → Nat → Nat → Int32} {J : Nat → Nat → Nat → Int64} {k : Nat} {f : Nat → Int64} (hk : k < 4) : (wFW h cs I L A Q G J).set (16 + k) (h (k + 181), .inl (cs 1, 4, .inr (.inl (f)))) = wFW h cs I L A Q G (va_up J 0 (va_up (J 0) k f)) := by
  rcases (show k = 0 ∨ k = 1 ∨ k = 2 ∨ k = 3 by omega) with rfl | rfl | rfl | rfl <;> rfl
theorem wFW_atG0 {h : Nat → Nat} {cs : Nat → ClassId} {I : Nat → Int32} {L : Nat → Int64} {A : Nat → Nat → Int32} {Q : Nat → Nat → Int64} {G : Nat → Nat → Nat → Int32} {J : Nat → Nat → Nat → Int64} {k : Nat} (hk : k < 5) : (wFW h cs I L A Q G J)[25 + k]? = some (h (k + 131), .inl (cs 0, 4, .inl (G 0 k))) := by
  rcases (show k = 0 ∨ k = 1 ∨ k = 2 ∨ k = 3 ∨ k = 4 by omega) with rfl | rfl | rfl | rfl | rfl <;> rfl
theorem wFW_setG0 {h : Nat → Nat} {cs : Nat → ClassId} {I : Nat → Int32} {L : Nat → Int64} {A : Nat → Nat → Int32} {Q : Nat → Nat → Int64} {G : Nat → Nat → Nat → Int32} {J : Nat → Nat → Nat → Int64} {k : Nat} {f : Nat → Int32} (hk : k < 5) : (wFW h cs I L A Q G J).set (25 + k) (h (k + 131), .inl (cs 0, 4, .inl (f))) = wFW h cs I L A Q (va_up G 0 (va_up (G 0) k f)) J := by
  rcases (show k = 0 ∨ k = 1 ∨ k = 2 ∨ k = 3 ∨ k = 4 by omega) with rfl | rfl | rfl | rfl | rfl <;> rfl

theorem bad_lo {x : Int32} {k i : Nat} (hk : k < 2147483648) (hi : i < 2147483648) (h : x < nI k) (e : x = nI i) : i < k := by
  rw [e, Int32.lt_iff_toInt_lt, nI_toInt hi, nI_toInt hk] at h
  omega
theorem bad_hi {x : Int32} {k i : Nat} (hk : k < 2147483648) (hi : i < 2147483648) (h : nI k < x) (e : x = nI i) : k < i := by
  rw [e, Int32.lt_iff_toInt_lt, nI_toInt hi, nI_toInt hk] at h
  omega
theorem rgN {x : Int32} {lo hi : Nat} (hh : hi < 2147483648) (hl : lo < 2147483648) (h1 : ¬ x < nI lo) (h2 : ¬ nI hi < x) : ∃ i : Nat, lo ≤ i ∧ i ≤ hi ∧ x = nI i := by
  rw [Int32.lt_iff_toInt_lt, nI_toInt hl] at h1
  rw [Int32.lt_iff_toInt_lt, nI_toInt hh] at h2
  obtain ⟨e, -⟩ := nI_at (x := x) (by omega)
  exact ⟨x.toInt.toNat, by omega, by omega, e⟩
theorem mx_ne0 {y : Int64} : ¬ (if y < 1 then (1 : Int64) else y) = 0 := by
  split
  · decide
  · rename_i h
    intro e
    rw [e] at h
    exact h (by decide)
theorem shl_pw {M : Nat} (h : M ≤ 4) : nI 1 <<< (nI M &&& 31) = nI (2 ^ M) := by
  have : M = 0 ∨ M = 1 ∨ M = 2 ∨ M = 3 ∨ M = 4 := by omega
  rcases this with rfl | rfl | rfl | rfl | rfl <;> decide
set_option maxRecDepth 20000 in
theorem ggX9_type_X7_takes : GoodIn wsX9_type wsX7_takes := goodIn_r _ [5, 6, 7, 4, 8, 9] rfl (by decide +kernel)
set_option maxRecDepth 20000 in
theorem gX9_type_X7_takes : GoodIn wsX9_type (va_wsS RX9 127 yX7_takes wsX7_takes) := goodIn_app (goodIn_of _ (by decide +kernel)) ggX9_type_X7_takes
set_option maxRecDepth 20000 in
theorem ggX9_type_X7_hasRoom : GoodIn wsX9_type wsX7_hasRoom := goodIn_r _ [13, 14, 29, 30] rfl (by decide +kernel)
set_option maxRecDepth 20000 in
theorem gX9_type_X7_hasRoom : GoodIn wsX9_type (wsV RX9 130 RX7 yX7_hasRoom wsX7_hasRoom) := goodIn_app (goodIn_of _ (by decide +kernel)) ggX9_type_X7_hasRoom
set_option maxRecDepth 20000 in
theorem ggX9_type_X7_append : GoodIn wsX9_type wsX7_append := goodIn_r _ [18, 19, 14, 6, 7, 4, 8, 9, 29, 30] rfl (by decide +kernel)
set_option maxRecDepth 20000 in
theorem gX9_type_X7_append : GoodIn wsX9_type (wsV RX9 133 RX7 yX7_append wsX7_append) := goodIn_app (goodIn_of _ (by decide +kernel)) ggX9_type_X7_append
theorem bdX9_type_0 : (decode cX9_type 0 = .ok (.iload_n 3, 1)) ∧ (decode cX9_type 1 = .ok (.iconst 1, 1)) ∧ (decode cX9_type 2 = .ok (.if_icmp .lt 17, 3)) ∧ (decode cX9_type 5 = .ok (.iload_n 3, 1)) ∧ (decode cX9_type 6 = .ok (.bipush 8, 2)) ∧ (decode cX9_type 8 = .ok (.if_icmp .gt 11, 3)) ∧ (decode cX9_type 11 = .ok (.lload_n 1, 1)) ∧ (decode cX9_type 12 = .ok (.iload_n 3, 1)) ∧ (decode cX9_type 13 = .ok (.invokestatic 127, 3)) ∧ (decode cX9_type 16 = .ok (.ifCond .ne 5, 3)) ∧ (decode cX9_type 19 = .ok (.iconst (-1), 1)) ∧ (decode cX9_type 20 = .ok (.ireturn, 1)) ∧ (decode cX9_type 21 = .ok (.aload_n 0, 1)) ∧ (decode cX9_type 22 = .ok (.getfield 28, 3)) ∧ (decode cX9_type 25 = .ok (.iload_n 3, 1)) ∧ (decode cX9_type 26 = .ok (.invokevirtual 130, 3)) := by decide +kernel
theorem dX9_type_0 : decode cX9_type 0 = .ok (.iload_n 3, 1) := bdX9_type_0.1
theorem dX9_type_1 : decode cX9_type 1 = .ok (.iconst 1, 1) := bdX9_type_0.2.1
theorem dX9_type_2 : decode cX9_type 2 = .ok (.if_icmp .lt 17, 3) := bdX9_type_0.2.2.1
theorem dX9_type_5 : decode cX9_type 5 = .ok (.iload_n 3, 1) := bdX9_type_0.2.2.2.1
theorem dX9_type_6 : decode cX9_type 6 = .ok (.bipush 8, 2) := bdX9_type_0.2.2.2.2.1
theorem dX9_type_8 : decode cX9_type 8 = .ok (.if_icmp .gt 11, 3) := bdX9_type_0.2.2.2.2.2.1
theorem dX9_type_11 : decode cX9_type 11 = .ok (.lload_n 1, 1) := bdX9_type_0.2.2.2.2.2.2.1
theorem dX9_type_12 : decode cX9_type 12 = .ok (.iload_n 3, 1) := bdX9_type_0.2.2.2.2.2.2.2.1
theorem dX9_type_13 : decode cX9_type 13 = .ok (.invokestatic 127, 3) := bdX9_type_0.2.2.2.2.2.2.2.2.1
theorem dX9_type_16 : decode cX9_type 16 = .ok (.ifCond .ne 5, 3) := bdX9_type_0.2.2.2.2.2.2.2.2.2.1
theorem dX9_type_19 : decode cX9_type 19 = .ok (.iconst (-1), 1) := bdX9_type_0.2.2.2.2.2.2.2.2.2.2.1
theorem dX9_type_20 : decode cX9_type 20 = .ok (.ireturn, 1) := bdX9_type_0.2.2.2.2.2.2.2.2.2.2.2.1
theorem dX9_type_21 : decode cX9_type 21 = .ok (.aload_n 0, 1) := bdX9_type_0.2.2.2.2.2.2.2.2.2.2.2.2.1
theorem dX9_type_22 : decode cX9_type 22 = .ok (.getfield 28, 3) := bdX9_type_0.2.2.2.2.2.2.2.2.2.2.2.2.2.1
theorem dX9_type_25 : decode cX9_type 25 = .ok (.iload_n 3, 1) := bdX9_type_0.2.2.2.2.2.2.2.2.2.2.2.2.2.2.1
theorem dX9_type_26 : decode cX9_type 26 = .ok (.invokevirtual 130, 3) := bdX9_type_0.2.2.2.2.2.2.2.2.2.2.2.2.2.2.2
theorem bdX9_type_29 : (decode cX9_type 29 = .ok (.ifCond .eq 15, 3)) ∧ (decode cX9_type 32 = .ok (.aload_n 0, 1)) ∧ (decode cX9_type 33 = .ok (.getfield 28, 3)) ∧ (decode cX9_type 36 = .ok (.lload_n 1, 1)) ∧ (decode cX9_type 37 = .ok (.iload_n 3, 1)) ∧ (decode cX9_type 38 = .ok (.invokevirtual 133, 3)) ∧ (decode cX9_type 41 = .ok (.goto 5, 3)) ∧ (decode cX9_type 44 = .ok (.bipush (-3), 2)) ∧ (decode cX9_type 46 = .ok (.ireturn, 1)) := by decide +kernel
theorem dX9_type_29 : decode cX9_type 29 = .ok (.ifCond .eq 15, 3) := bdX9_type_29.1
theorem dX9_type_32 : decode cX9_type 32 = .ok (.aload_n 0, 1) := bdX9_type_29.2.1
theorem dX9_type_33 : decode cX9_type 33 = .ok (.getfield 28, 3) := bdX9_type_29.2.2.1
theorem dX9_type_36 : decode cX9_type 36 = .ok (.lload_n 1, 1) := bdX9_type_29.2.2.2.1
theorem dX9_type_37 : decode cX9_type 37 = .ok (.iload_n 3, 1) := bdX9_type_29.2.2.2.2.1
theorem dX9_type_38 : decode cX9_type 38 = .ok (.invokevirtual 133, 3) := bdX9_type_29.2.2.2.2.2.1
theorem dX9_type_41 : decode cX9_type 41 = .ok (.goto 5, 3) := bdX9_type_29.2.2.2.2.2.2.1
theorem dX9_type_44 : decode cX9_type 44 = .ok (.bipush (-3), 2) := bdX9_type_29.2.2.2.2.2.2.2.1
theorem dX9_type_46 : decode cX9_type 46 = .ok (.ireturn, 1) := bdX9_type_29.2.2.2.2.2.2.2.2
set_option maxHeartbeats 4000000 in
set_option maxRecDepth 100000 in
theorem k_X9_type (l : Launch) (dC : Nat → ClassId) (dI : Nat → Nat → Nat) (h : Nat → Nat) (cs : Nat → ClassId) (sz : Nat) (I : Nat → Int32) (L : Nat → Int64) (A : Nat → Nat → Int32) (Q : Nat → Nat → Int64) (G : Nat → Nat → Nat → Int32) (J : Nat → Nat → Nat → Int64) (w : Int64) (x : Int32) (T : Nat) (hT : I 151 = nI T) (hT9 : T ≤ 90) : Met l yX9_type wsX9_type ({ frames := 2, cells := 0, slots := 0, locals := 46 }) (va_Pc [.ref (h 100), .long w, .int x] (xPre (dC, dI) (wFT h cs I L A Q G J) (tysA cs) sz)) (va_Qi (fun (r : Int32) (u : CS) => ∃ i151 : Int32, ∃ a150 : Nat → Int32, ((∃ n : Nat, 1 ≤ n ∧ n ≤ 8 ∧ x = nI n ∧ r = nI (T + n) ∧ (∀ t : Nat, t < n → okB w t) ∧ T + n ≤ 90 ∧ i151 = nI (T + n) ∧ (∀ q : Nat, q < T → a150 q = A 150 q) ∧ ∀ i : Nat, i < n → a150 (T + (n - 1 - i)) = byteC w i) ∨ (∃ n : Nat, 1 ≤ n ∧ n ≤ 8 ∧ x = nI n ∧ r = -3 ∧ (∀ t : Nat, t < n → okB w t) ∧ 90 < T + n ∧ i151 = I 151 ∧ a150 = A 150) ∨ (r = -1 ∧ (∀ n : Nat, 1 ≤ n → n ≤ 8 → x = nI n → (∀ t : Nat, t < n → okB w t) → False) ∧ i151 = I 151 ∧ a150 = A 150)) ∧ u = ((va_up I 151 i151), L, (va_up A 150 a150), Q, G, J)) (xB (dC, dI) (tysA cs) (va_A (wFT h cs I L A Q G J) sz) (fun u : CS => wFT h cs u.1 u.2.1 u.2.2.1 u.2.2.2.1 u.2.2.2.2.1 u.2.2.2.2.2)) (va_A (wFT h cs I L A Q G J) sz)) 0 0 (va_A (wFT h cs I L A Q G J) sz) := by
  refine Met.ofW (cc := cX9_type) (maxL := 4) (ret := (some .int)) (by decide) rfl ?_
  intro p e s m args below meth c s₁ B hml hv
  obtain ⟨rfl, hsz, hP, hK, hD0, hN⟩ := hv
  have hx := B.exec
  have hb := B.bytes
  have hr := B.returns
  have hts := atoms_spec (ws := wsX9_type) B.pre
  have hown : s.vm.findClass RX9 = some m.cls := findClass_of_methodNamed B.named
  have hlocks := B.notSynchronized
  subst hsz
  have hD := hD0.self (sz := s.heap.size)
  generalize hAe : va_A (wFT h cs I L A Q G J) s.heap.size = A0 at hD ⊢
  have hA : ∀ q : Nat, s.heap.size ≤ q → A0 q := fun q h => by rw [← hAe]; exact Or.inr h
  have hl := lv_entry ([.ref (h 100), .long w, .int x]) (n := 4) (Nat.le_of_ble_eq_true rfl)
  rw [lg_entry_eq]
  generalize (lg_sl ([.ref (h 100), .long w, .int x]) ++ List.replicate (4 - (lg_sl ([.ref (h 100), .long w, .int x])).length) Slot.unset).toArray = ls at hl ⊢
  have hl : lv_has ls 4 [(0, .ref (h 100)), (1, .long w), (3, .int x)] := hl
  generalize hH : s.heap = H at hP ⊢
  have hS : va_S A0 s.heap H [] := by rw [← hH]; exact va_S.rf
  have hinX9 : ∀ w ∈ wsX90, w ∈ wsX9_type := by decide +kernel
  refine lv_iload_n hx hb dX9_type_0 rfl (lv_at hl 2 rfl) ?_
  refine lv_iconst (v := nI 1) hx hb dX9_type_1 (by decide) ?_
  refine lv_icmp_lt (tgt := 19) hx hb dX9_type_2 (by decide) (fun c_2_0 => ?_) (fun c_2_0 => ?_)
  · skip
    refine lv_iconst (v := (-1)) hx hb dX9_type_19 (by decide) ?_
    exact xr_i (v := (-1)) hx hb hr hlocks hK hS dX9_type_20 ((va_up I 151 (I 151)), L, (va_up A 150 (A 150)), Q, G, J) ⟨(I 151), (A 150), (Or.inr (Or.inr ⟨rfl, fun n a9 b9 e9 g9 => by first | (have q9 := bad_lo (k := 1) (by omega) (by omega) (by assumption) e9; omega) | (have q9 := bad_hi (k := 8) (by omega) (by omega) (by assumption) e9; omega), rfl, rfl⟩)), rfl⟩ hP hD
  · skip
    refine lv_iload_n hx hb dX9_type_5 rfl (lv_at hl 2 rfl) ?_
    refine lv_bipush (v := nI 8) hx hb dX9_type_6 (by decide) ?_
    refine lv_icmp_gt (tgt := 19) hx hb dX9_type_8 (by decide) (fun c_8_1 => ?_) (fun c_8_1 => ?_)
    · skip
      refine lv_iconst (v := (-1)) hx hb dX9_type_19 (by decide) ?_
      exact xr_i (v := (-1)) hx hb hr hlocks hK hS dX9_type_20 ((va_up I 151 (I 151)), L, (va_up A 150 (A 150)), Q, G, J) ⟨(I 151), (A 150), (Or.inr (Or.inr ⟨rfl, fun n a9 b9 e9 g9 => by first | (have q9 := bad_lo (k := 1) (by omega) (by omega) (by assumption) e9; omega) | (have q9 := bad_hi (k := 8) (by omega) (by omega) (by assumption) e9; omega), rfl, rfl⟩)), rfl⟩ hP hD
    · skip
      obtain ⟨n9, h1n9, h2n9, hxn9⟩ := rgN (x := x) (lo := 1) (hi := 8) (by omega) (by omega) (by first | assumption | exact Int32.not_lt.mpr (by assumption)) (by first | assumption | exact Int32.not_lt.mpr (by assumption))
      rw [hxn9] at hl
      refine lv_lload_n hx hb dX9_type_11 rfl (lv_at hl 1 rfl) ?_
      refine lv_iload_n hx hb dX9_type_12 rfl (lv_at hl 2 rfl) ?_
      refine xj_i (wc := ([] : va_W)) (wr := (wFT h cs I L A Q G J)) hP hD hS hA [] [0, 1, 2] rfl rfl (by decide +kernel) (by decide +kernel) (va_runS (As := [.long w, .int (nI n9)]) (rest := []) ⟨hx, hb, hml, hown, hts⟩ (k_X7_takes l dC dI h cs H.size I L A Q G J w n9 (by first | assumption | omega)) (va_cwS 2 hts gX9_type_X7_takes rfl rfl rfl (by decide +kernel) ⟨Nat.le_of_ble_eq_true rfl, Nat.le_of_ble_eq_true rfl⟩) (xpS (wc := ([] : va_W)) hP hD hK hN [] rfl (by decide) _) rfl rfl hl.1 rfl (lv_room (Nat.le_of_ble_eq_true rfl)) dX9_type_13 ⟨Nat.zero_le _, Nat.zero_le _⟩) (fun r_4 u_3 H locs hw hP hD hS => ?_)
      obtain ⟨hf_5, rfl⟩ := hw
      have hP : va_P (dC, dI) vwCl (wFT h cs I L A Q G J) H := hP
      have hD : va_D A0 (wFT h cs I L A Q G J) := hD
      rcases hf_5 with ⟨rfl, htk_6⟩ | ⟨rfl, htk_6⟩
      · skip
        refine lv_if_ne (tgt := 21) hx hb dX9_type_16 (by decide) (fun _ => ?_) (fun c9 => False.elim (by revert c9; decide +kernel))
        refine lv_aload_n hx hb dX9_type_21 rfl (lv_at hl 0 rfl) ?_
        refine va_get (D := (dC, dI)) (ci := 9) (v := .ref (h 103)) (C := RX9) (T := TX9) (N := 9) hx hb hts hinX9 hown hK hP 0 rfl rfl 2 (by decide) (hts (.fieldLink RX9 28 "MixedWords" "tape" "LMixedWords$Tape;") (by decide +kernel)) (fun _ h9 => h9) rfl dX9_type_22 ?_
        refine lv_iload_n hx hb dX9_type_25 rfl (lv_at hl 2 rfl) ?_
        refine xj_i (wc := (wTape h cs I L A Q G J)) (wr := [(h 100, .inr (9, [.ref (h 101), .ref (h 102), .ref (h 103), .ref (h 104), .ref (h 105), .ref (h 106), .ref (h 107), .ref (h 108), .ref (h 109)]))]) hP hD hS hA [1, 2] [0] rfl rfl (by decide +kernel) (by decide +kernel) (va_runV (As := [.int (nI n9)]) (rest := []) ⟨hx, hb, hml, hown, hts⟩ (k_X7_hasRoom l dC dI h cs H.size I L A Q G J n9 T (by first | assumption | omega) hT (by first | assumption | omega | exact hT9)) (cwV 1 hts gX9_type_X7_hasRoom rfl rfl rfl (by decide +kernel) ⟨Nat.le_of_ble_eq_true rfl, Nat.le_of_ble_eq_true rfl⟩) (xpV (wc := (wTape h cs I L A Q G J)) hP hD hK hN [1, 2] rfl (by decide) 1 (ci := 7) rfl rfl _) rfl rfl hl.1 rfl (lv_room (Nat.le_of_ble_eq_true rfl)) dX9_type_26 ⟨Nat.zero_le _, Nat.zero_le _⟩) (fun r_8 u_7 H locs hw hP hD hS => ?_)
        obtain ⟨hf_9, rfl⟩ := hw
        have hP : va_P (dC, dI) vwCl (wFT h cs I L A Q G J) H := hP
        have hD : va_D A0 (wFT h cs I L A Q G J) := hD
        rcases hf_9 with ⟨rfl, hrm_10⟩ | ⟨rfl, hrm_10⟩
        · skip
          refine lv_if_eq (tgt := 44) hx hb dX9_type_29 (by decide) (fun c9 => False.elim (by revert c9; decide +kernel)) (fun _ => ?_)
          refine lv_aload_n hx hb dX9_type_32 rfl (lv_at hl 0 rfl) ?_
          refine va_get (D := (dC, dI)) (ci := 9) (v := .ref (h 103)) (C := RX9) (T := TX9) (N := 9) hx hb hts hinX9 hown hK hP 0 rfl rfl 2 (by decide) (hts (.fieldLink RX9 28 "MixedWords" "tape" "LMixedWords$Tape;") (by decide +kernel)) (fun _ h9 => h9) rfl dX9_type_33 ?_
          refine lv_lload_n hx hb dX9_type_36 rfl (lv_at hl 1 rfl) ?_
          refine lv_iload_n hx hb dX9_type_37 rfl (lv_at hl 2 rfl) ?_
          refine xj_i (wc := (wTape h cs I L A Q G J)) (wr := [(h 100, .inr (9, [.ref (h 101), .ref (h 102), .ref (h 103), .ref (h 104), .ref (h 105), .ref (h 106), .ref (h 107), .ref (h 108), .ref (h 109)]))]) hP hD hS hA [1, 2] [0] rfl rfl (by decide +kernel) (by decide +kernel) (va_runV (As := [.long w, .int (nI n9)]) (rest := []) ⟨hx, hb, hml, hown, hts⟩ (k_X7_append l dC dI h cs H.size I L A Q G J w n9 T (by first | assumption | omega) (by first | assumption | omega) (by first | assumption | omega) hT (by first | assumption | omega | exact hT9)) (cwV 2 hts gX9_type_X7_append rfl rfl rfl (by decide +kernel) ⟨Nat.le_of_ble_eq_true rfl, Nat.le_of_ble_eq_true rfl⟩) (xpV (wc := (wTape h cs I L A Q G J)) hP hD hK hN [1, 2] rfl (by decide) 1 (ci := 7) rfl rfl _) rfl rfl hl.1 rfl (lv_room (Nat.le_of_ble_eq_true rfl)) dX9_type_38 ⟨Nat.zero_le _, Nat.zero_le _⟩) (fun r_12 u_11 H locs hw hP hD hS => ?_)
          obtain ⟨x151_13, f150_14, hf_15, rfl⟩ := hw
          have hP : va_P (dC, dI) vwCl (wFT h cs (va_up I 151 x151_13) L (va_up A 150 f150_14) Q G J) H := hP
          have hD : va_D A0 (wFT h cs (va_up I 151 x151_13) L (va_up A 150 f150_14) Q G J) := hD
          refine lv_goto (tgt := 46) hx hb dX9_type_41 (by decide) ?_
          exact xr_i (v := r_12) hx hb hr hlocks hK hS dX9_type_46 ((va_up I 151 x151_13), L, (va_up A 150 f150_14), Q, G, J) ⟨x151_13, f150_14, (Or.inl ⟨n9, h1n9, h2n9, hxn9, hf_15.1, htk_6, hrm_10, hf_15.2.1, hf_15.2.2.1, hf_15.2.2.2⟩), rfl⟩ hP hD
        · skip
          refine lv_if_eq (tgt := 44) hx hb dX9_type_29 (by decide) (fun _ => ?_) (fun c9 => False.elim (by revert c9; decide +kernel))
          refine lv_bipush (v := (-3)) hx hb dX9_type_44 (by decide) ?_
          exact xr_i (v := (-3)) hx hb hr hlocks hK hS dX9_type_46 ((va_up I 151 (I 151)), L, (va_up A 150 (A 150)), Q, G, J) ⟨(I 151), (A 150), (Or.inr (Or.inl ⟨n9, h1n9, h2n9, hxn9, rfl, htk_6, hrm_10, rfl, rfl⟩)), rfl⟩ hP hD
      · skip
        refine lv_if_ne (tgt := 21) hx hb dX9_type_16 (by decide) (fun c9 => False.elim (by revert c9; decide +kernel)) (fun _ => ?_)
        refine lv_iconst (v := (-1)) hx hb dX9_type_19 (by decide) ?_
        exact xr_i (v := (-1)) hx hb hr hlocks hK hS dX9_type_20 ((va_up I 151 (I 151)), L, (va_up A 150 (A 150)), Q, G, J) ⟨(I 151), (A 150), (Or.inr (Or.inr ⟨rfl, fun n a9 b9 e9 g9 => htk_6 (by rw [(nI_eq (by omega) (by omega)).mp (hxn9.symm.trans e9)]; exact g9), rfl, rfl⟩)), rfl⟩ hP hD
set_option maxRecDepth 20000 in
theorem ggX9_table_X3_reshape : GoodIn wsX9_table wsX3_reshape := goodIn_r _ [7, 8, 9, 10, 11, 12, 13, 14, 15, 16, 34, 35, 36, 37, 38, 39] rfl (by decide +kernel)
set_option maxRecDepth 20000 in
theorem gX9_table_X3_reshape : GoodIn wsX9_table (wsV RX9 76 RX3 yX3_reshape wsX3_reshape) := goodIn_app (goodIn_of _ (by decide +kernel)) ggX9_table_X3_reshape
set_option maxRecDepth 20000 in
theorem ggX9_table_X0_forget : GoodIn wsX9_table wsX0_forget := goodIn_r _ [21, 22, 23, 24, 40, 41, 42, 43, 44, 45, 46, 47] rfl (by decide +kernel)
set_option maxRecDepth 20000 in
theorem gX9_table_X0_forget : GoodIn wsX9_table (wsV RX9 80 RX0 yX0_forget wsX0_forget) := goodIn_app (goodIn_of _ (by decide +kernel)) ggX9_table_X0_forget
theorem bdX9_table_0 : (decode cX9_table 0 = .ok (.iload_n 1, 1)) ∧ (decode cX9_table 1 = .ok (.iconst 1, 1)) ∧ (decode cX9_table 2 = .ok (.if_icmp .lt 18, 3)) ∧ (decode cX9_table 5 = .ok (.iload_n 1, 1)) ∧ (decode cX9_table 6 = .ok (.iconst 5, 1)) ∧ (decode cX9_table 7 = .ok (.if_icmp .gt 13, 3)) ∧ (decode cX9_table 10 = .ok (.iload_n 2, 1)) ∧ (decode cX9_table 11 = .ok (.iconst 1, 1)) ∧ (decode cX9_table 12 = .ok (.if_icmp .lt 8, 3)) ∧ (decode cX9_table 15 = .ok (.iload_n 2, 1)) ∧ (decode cX9_table 16 = .ok (.iconst 4, 1)) ∧ (decode cX9_table 17 = .ok (.if_icmp .le 5, 3)) ∧ (decode cX9_table 20 = .ok (.iconst (-1), 1)) ∧ (decode cX9_table 21 = .ok (.ireturn, 1)) ∧ (decode cX9_table 22 = .ok (.aload_n 0, 1)) ∧ (decode cX9_table 23 = .ok (.getfield 12, 3)) := by decide +kernel
theorem dX9_table_0 : decode cX9_table 0 = .ok (.iload_n 1, 1) := bdX9_table_0.1
theorem dX9_table_1 : decode cX9_table 1 = .ok (.iconst 1, 1) := bdX9_table_0.2.1
theorem dX9_table_2 : decode cX9_table 2 = .ok (.if_icmp .lt 18, 3) := bdX9_table_0.2.2.1
theorem dX9_table_5 : decode cX9_table 5 = .ok (.iload_n 1, 1) := bdX9_table_0.2.2.2.1
theorem dX9_table_6 : decode cX9_table 6 = .ok (.iconst 5, 1) := bdX9_table_0.2.2.2.2.1
theorem dX9_table_7 : decode cX9_table 7 = .ok (.if_icmp .gt 13, 3) := bdX9_table_0.2.2.2.2.2.1
theorem dX9_table_10 : decode cX9_table 10 = .ok (.iload_n 2, 1) := bdX9_table_0.2.2.2.2.2.2.1
theorem dX9_table_11 : decode cX9_table 11 = .ok (.iconst 1, 1) := bdX9_table_0.2.2.2.2.2.2.2.1
theorem dX9_table_12 : decode cX9_table 12 = .ok (.if_icmp .lt 8, 3) := bdX9_table_0.2.2.2.2.2.2.2.2.1
theorem dX9_table_15 : decode cX9_table 15 = .ok (.iload_n 2, 1) := bdX9_table_0.2.2.2.2.2.2.2.2.2.1
theorem dX9_table_16 : decode cX9_table 16 = .ok (.iconst 4, 1) := bdX9_table_0.2.2.2.2.2.2.2.2.2.2.1
theorem dX9_table_17 : decode cX9_table 17 = .ok (.if_icmp .le 5, 3) := bdX9_table_0.2.2.2.2.2.2.2.2.2.2.2.1
theorem dX9_table_20 : decode cX9_table 20 = .ok (.iconst (-1), 1) := bdX9_table_0.2.2.2.2.2.2.2.2.2.2.2.2.1
theorem dX9_table_21 : decode cX9_table 21 = .ok (.ireturn, 1) := bdX9_table_0.2.2.2.2.2.2.2.2.2.2.2.2.2.1
theorem dX9_table_22 : decode cX9_table 22 = .ok (.aload_n 0, 1) := bdX9_table_0.2.2.2.2.2.2.2.2.2.2.2.2.2.2.1
theorem dX9_table_23 : decode cX9_table 23 = .ok (.getfield 12, 3) := bdX9_table_0.2.2.2.2.2.2.2.2.2.2.2.2.2.2.2
theorem bdX9_table_26 : (decode cX9_table 26 = .ok (.iload_n 1, 1)) ∧ (decode cX9_table 27 = .ok (.iload_n 2, 1)) ∧ (decode cX9_table 28 = .ok (.invokevirtual 76, 3)) ∧ (decode cX9_table 31 = .ok (.aload_n 0, 1)) ∧ (decode cX9_table 32 = .ok (.getfield 21, 3)) ∧ (decode cX9_table 35 = .ok (.invokevirtual 80, 3)) ∧ (decode cX9_table 38 = .ok (.iconst 1, 1)) ∧ (decode cX9_table 39 = .ok (.ireturn, 1)) := by decide +kernel
theorem dX9_table_26 : decode cX9_table 26 = .ok (.iload_n 1, 1) := bdX9_table_26.1
theorem dX9_table_27 : decode cX9_table 27 = .ok (.iload_n 2, 1) := bdX9_table_26.2.1
theorem dX9_table_28 : decode cX9_table 28 = .ok (.invokevirtual 76, 3) := bdX9_table_26.2.2.1
theorem dX9_table_31 : decode cX9_table 31 = .ok (.aload_n 0, 1) := bdX9_table_26.2.2.2.1
theorem dX9_table_32 : decode cX9_table 32 = .ok (.getfield 21, 3) := bdX9_table_26.2.2.2.2.1
theorem dX9_table_35 : decode cX9_table 35 = .ok (.invokevirtual 80, 3) := bdX9_table_26.2.2.2.2.2.1
theorem dX9_table_38 : decode cX9_table 38 = .ok (.iconst 1, 1) := bdX9_table_26.2.2.2.2.2.2.1
theorem dX9_table_39 : decode cX9_table 39 = .ok (.ireturn, 1) := bdX9_table_26.2.2.2.2.2.2.2
set_option maxHeartbeats 4000000 in
set_option maxRecDepth 100000 in
theorem k_X9_table (l : Launch) (dC : Nat → ClassId) (dI : Nat → Nat → Nat) (h : Nat → Nat) (cs : Nat → ClassId) (sz : Nat) (I : Nat → Int32) (L : Nat → Int64) (A : Nat → Nat → Int32) (Q : Nat → Nat → Int64) (G : Nat → Nat → Nat → Int32) (J : Nat → Nat → Nat → Int64) (x y : Int32) (sp9 : Nat) (hst : I 123 = nI sp9) (hst2 : sp9 < 1000000000) : Met l yX9_table wsX9_table ({ frames := 2, cells := 0, slots := 0, locals := 46 }) (va_Pc [.ref (h 100), .int x, .int y] (xPre (dC, dI) (wF1 h cs I L A Q G J) (tysA cs) sz)) (va_Qi (fun (r : Int32) (u : CS) => ∃ i120 : Int32, ∃ i121 : Int32, ∃ i123 : Int32, ∃ i144 : Int32, ∃ i145 : Int32, ∃ i146 : Int32, ∃ a136 : Nat → Int32, ∃ g0 : Nat → Nat → Int32, ((r = nI 1 ∧ ∃ i j : Nat, 1 ≤ i ∧ i ≤ 5 ∧ 1 ≤ j ∧ j ≤ 4 ∧ x = nI i ∧ y = nI j ∧ i120 = nI i ∧ i121 = nI j ∧ i123 = nI (sp9 + 1) ∧ i144 = nI 0 ∧ i145 = nI 0 ∧ i146 = nI 0 ∧ (∀ q t : Nat, q < 5 → t < 4 → g0 q t = nI 0) ∧ ∀ t : Nat, t < 5 → a136 t = nI 0) ∨ (r = -1 ∧ (∀ i j : Nat, 1 ≤ i → i ≤ 5 → 1 ≤ j → j ≤ 4 → x = nI i → y = nI j → False) ∧ i120 = I 120 ∧ i121 = I 121 ∧ i123 = I 123 ∧ i144 = I 144 ∧ i145 = I 145 ∧ i146 = I 146 ∧ g0 = G 0 ∧ a136 = A 136)) ∧ u = ((va_up (va_up (va_up (va_up (va_up (va_up I 120 i120) 121 i121) 123 i123) 144 i144) 145 i145) 146 i146), L, (va_up A 136 a136), Q, (va_up G 0 g0), J)) (xB (dC, dI) (tysA cs) (va_A (wF1 h cs I L A Q G J) sz) (fun u : CS => wF1 h cs u.1 u.2.1 u.2.2.1 u.2.2.2.1 u.2.2.2.2.1 u.2.2.2.2.2)) (va_A (wF1 h cs I L A Q G J) sz)) 0 0 (va_A (wF1 h cs I L A Q G J) sz) := by
  refine Met.ofW (cc := cX9_table) (maxL := 3) (ret := (some .int)) (by decide) rfl ?_
  intro p e s m args below meth c s₁ B hml hv
  obtain ⟨rfl, hsz, hP, hK, hD0, hN⟩ := hv
  have hx := B.exec
  have hb := B.bytes
  have hr := B.returns
  have hts := atoms_spec (ws := wsX9_table) B.pre
  have hown : s.vm.findClass RX9 = some m.cls := findClass_of_methodNamed B.named
  have hlocks := B.notSynchronized
  subst hsz
  have hD := hD0.self (sz := s.heap.size)
  generalize hAe : va_A (wF1 h cs I L A Q G J) s.heap.size = A0 at hD ⊢
  have hA : ∀ q : Nat, s.heap.size ≤ q → A0 q := fun q h => by rw [← hAe]; exact Or.inr h
  have hl := lv_entry ([.ref (h 100), .int x, .int y]) (n := 3) (Nat.le_of_ble_eq_true rfl)
  rw [lg_entry_eq]
  generalize (lg_sl ([.ref (h 100), .int x, .int y]) ++ List.replicate (3 - (lg_sl ([.ref (h 100), .int x, .int y])).length) Slot.unset).toArray = ls at hl ⊢
  have hl : lv_has ls 3 [(0, .ref (h 100)), (1, .int x), (2, .int y)] := hl
  generalize hH : s.heap = H at hP ⊢
  have hS : va_S A0 s.heap H [] := by rw [← hH]; exact va_S.rf
  have hinX9 : ∀ w ∈ wsX90, w ∈ wsX9_table := by decide +kernel
  refine lv_iload_n hx hb dX9_table_0 rfl (lv_at hl 1 rfl) ?_
  refine lv_iconst (v := nI 1) hx hb dX9_table_1 (by decide) ?_
  refine lv_icmp_lt (tgt := 20) hx hb dX9_table_2 (by decide) (fun c_2_0 => ?_) (fun c_2_0 => ?_)
  · skip
    refine lv_iconst (v := (-1)) hx hb dX9_table_20 (by decide) ?_
    exact xr_i (v := (-1)) hx hb hr hlocks hK hS dX9_table_21 ((va_up (va_up (va_up (va_up (va_up (va_up I 120 (I 120)) 121 (I 121)) 123 (I 123)) 144 (I 144)) 145 (I 145)) 146 (I 146)), L, (va_up A 136 (A 136)), Q, (va_up G 0 (G 0)), J) ⟨(I 120), (I 121), (I 123), (I 144), (I 145), (I 146), (A 136), (G 0), (Or.inr ⟨rfl, fun i j a b c d e f => by first | (have q9 := bad_lo (k := 1) (x := x) (by omega) (by omega) (by assumption) e; omega) | (have q9 := bad_hi (k := 5) (x := x) (by omega) (by omega) (by assumption) e; omega) | (have q9 := bad_lo (k := 1) (x := y) (by omega) (by omega) (by assumption) f; omega) | (have q9 := bad_hi (k := 4) (x := y) (by omega) (by omega) (Int32.not_le.mp (by assumption)) f; omega), rfl, rfl, rfl, rfl, rfl, rfl, rfl, rfl⟩), rfl⟩ hP hD
  · skip
    refine lv_iload_n hx hb dX9_table_5 rfl (lv_at hl 1 rfl) ?_
    refine lv_iconst (v := nI 5) hx hb dX9_table_6 (by decide) ?_
    refine lv_icmp_gt (tgt := 20) hx hb dX9_table_7 (by decide) (fun c_7_1 => ?_) (fun c_7_1 => ?_)
    · skip
      refine lv_iconst (v := (-1)) hx hb dX9_table_20 (by decide) ?_
      exact xr_i (v := (-1)) hx hb hr hlocks hK hS dX9_table_21 ((va_up (va_up (va_up (va_up (va_up (va_up I 120 (I 120)) 121 (I 121)) 123 (I 123)) 144 (I 144)) 145 (I 145)) 146 (I 146)), L, (va_up A 136 (A 136)), Q, (va_up G 0 (G 0)), J) ⟨(I 120), (I 121), (I 123), (I 144), (I 145), (I 146), (A 136), (G 0), (Or.inr ⟨rfl, fun i j a b c d e f => by first | (have q9 := bad_lo (k := 1) (x := x) (by omega) (by omega) (by assumption) e; omega) | (have q9 := bad_hi (k := 5) (x := x) (by omega) (by omega) (by assumption) e; omega) | (have q9 := bad_lo (k := 1) (x := y) (by omega) (by omega) (by assumption) f; omega) | (have q9 := bad_hi (k := 4) (x := y) (by omega) (by omega) (Int32.not_le.mp (by assumption)) f; omega), rfl, rfl, rfl, rfl, rfl, rfl, rfl, rfl⟩), rfl⟩ hP hD
    · skip
      refine lv_iload_n hx hb dX9_table_10 rfl (lv_at hl 2 rfl) ?_
      refine lv_iconst (v := nI 1) hx hb dX9_table_11 (by decide) ?_
      refine lv_icmp_lt (tgt := 20) hx hb dX9_table_12 (by decide) (fun c_12_2 => ?_) (fun c_12_2 => ?_)
      · skip
        refine lv_iconst (v := (-1)) hx hb dX9_table_20 (by decide) ?_
        exact xr_i (v := (-1)) hx hb hr hlocks hK hS dX9_table_21 ((va_up (va_up (va_up (va_up (va_up (va_up I 120 (I 120)) 121 (I 121)) 123 (I 123)) 144 (I 144)) 145 (I 145)) 146 (I 146)), L, (va_up A 136 (A 136)), Q, (va_up G 0 (G 0)), J) ⟨(I 120), (I 121), (I 123), (I 144), (I 145), (I 146), (A 136), (G 0), (Or.inr ⟨rfl, fun i j a b c d e f => by first | (have q9 := bad_lo (k := 1) (x := x) (by omega) (by omega) (by assumption) e; omega) | (have q9 := bad_hi (k := 5) (x := x) (by omega) (by omega) (by assumption) e; omega) | (have q9 := bad_lo (k := 1) (x := y) (by omega) (by omega) (by assumption) f; omega) | (have q9 := bad_hi (k := 4) (x := y) (by omega) (by omega) (Int32.not_le.mp (by assumption)) f; omega), rfl, rfl, rfl, rfl, rfl, rfl, rfl, rfl⟩), rfl⟩ hP hD
      · skip
        refine lv_iload_n hx hb dX9_table_15 rfl (lv_at hl 2 rfl) ?_
        refine lv_iconst (v := nI 4) hx hb dX9_table_16 (by decide) ?_
        refine lv_icmp_le (tgt := 22) hx hb dX9_table_17 (by decide) (fun c_17_3 => ?_) (fun c_17_3 => ?_)
        · skip
          obtain ⟨i9, h1i9, h2i9, hxi9⟩ := rgN (x := x) (lo := 1) (hi := 5) (by omega) (by omega) (by first | assumption | exact Int32.not_lt.mpr (by assumption)) (by first | assumption | exact Int32.not_lt.mpr (by assumption))
          rw [hxi9] at hl
          obtain ⟨j9, h1j9, h2j9, hxj9⟩ := rgN (x := y) (lo := 1) (hi := 4) (by omega) (by omega) (by first | assumption | exact Int32.not_lt.mpr (by assumption)) (by first | assumption | exact Int32.not_lt.mpr (by assumption))
          rw [hxj9] at hl
          refine lv_aload_n hx hb dX9_table_22 rfl (lv_at hl 0 rfl) ?_
          refine va_get (D := (dC, dI)) (ci := 9) (v := .ref (h 101)) (C := RX9) (T := TX9) (N := 9) hx hb hts hinX9 hown hK hP 0 rfl rfl 0 (by decide) (hts (.fieldLink RX9 12 "MixedWords" "mix" "LMixedWords$Mix;") (by decide +kernel)) (fun _ h9 => h9) rfl dX9_table_23 ?_
          refine lv_iload_n hx hb dX9_table_26 rfl (lv_at hl 1 rfl) ?_
          refine lv_iload_n hx hb dX9_table_27 rfl (lv_at hl 2 rfl) ?_
          refine xj_v (wc := (wMix h cs I L A Q G J)) (wr := [(h 100, .inr (9, [.ref (h 101), .ref (h 102), .ref (h 103), .ref (h 104), .ref (h 105), .ref (h 106), .ref (h 107), .ref (h 108), .ref (h 109)])), (h 102, .inr (0, [.ref (h 101), .ref (h 140), .ref (h 141), .ref (h 142), .ref (h 143), .int (I 144), .int (I 145), .int (I 146)])), (h 140, .inl (cs 0, 40, .inl (A 140))), (h 141, .inl (cs 0, 40, .inl (A 141))), (h 142, .inl (cs 0, 40, .inl (A 142))), (h 143, .inl (cs 0, 40, .inl (A 143)))]) hP hD hS hA [6, 7, 8, 9, 10, 11, 12, 13] [0, 1, 2, 3, 4, 5] rfl rfl (by decide +kernel) (by decide +kernel) (va_runV (As := [.int (nI i9), .int (nI j9)]) (rest := []) ⟨hx, hb, hml, hown, hts⟩ (k_X3_reshape l dC dI h cs H.size I L A Q G J i9 j9 sp9 hst (by first | assumption | omega | exact hst2)) (cwV 2 hts gX9_table_X3_reshape rfl rfl rfl (by decide +kernel) ⟨Nat.le_of_ble_eq_true rfl, Nat.le_of_ble_eq_true rfl⟩) (xpV (wc := (wMix h cs I L A Q G J)) hP hD hK hN [6, 7, 8, 9, 10, 11, 12, 13] rfl (by decide) 6 (ci := 3) rfl rfl _) rfl rfl hl.1 rfl (lv_room (Nat.le_of_ble_eq_true rfl)) dX9_table_28 ⟨Nat.zero_le _, Nat.zero_le _⟩) (fun u_5 H locs hw hP hD hS => ?_)
          obtain ⟨i120_7, i121_8, i123_9, a136_10, g0_11, hf_12, rfl⟩ := hw
          have hP : va_P (dC, dI) vwCl (wF1 h cs (va_up (va_up (va_up I 120 i120_7) 121 i121_8) 123 i123_9) L (va_up A 136 a136_10) Q (va_up G 0 g0_11) J) H := hP
          have hD : va_D A0 (wF1 h cs (va_up (va_up (va_up I 120 i120_7) 121 i121_8) 123 i123_9) L (va_up A 136 a136_10) Q (va_up G 0 g0_11) J) := hD
          obtain ⟨hz_13, hz_14, rfl, rfl, rfl⟩ := hf_12
          refine lv_aload_n hx hb dX9_table_31 rfl (lv_at hl 0 rfl) ?_
          refine va_get (D := (dC, dI)) (ci := 9) (v := .ref (h 102)) (C := RX9) (T := TX9) (N := 9) hx hb hts hinX9 hown hK hP 0 rfl rfl 1 (by decide) (hts (.fieldLink RX9 21 "MixedWords" "acts" "LMixedWords$Acts;") (by decide +kernel)) (fun _ h9 => h9) rfl dX9_table_32 ?_
          refine xj_v (wc := (wAct0 h cs (va_up (va_up (va_up I 120 (nI i9)) 121 (nI j9)) 123 (nI (sp9 + 1))) L (va_up A 136 a136_10) Q (va_up G 0 g0_11) J)) (wr := [(h 100, .inr (9, [.ref (h 101), .ref (h 102), .ref (h 103), .ref (h 104), .ref (h 105), .ref (h 106), .ref (h 107), .ref (h 108), .ref (h 109)])), (h 101, .inr (3, [.int (nI i9), .int (nI j9), .int (I 122), .int (nI (sp9 + 1)), .ref (h 130), .ref (h 136)])), (h 130, .inl (cs 3, 5, .inr (.inr (.inr (.inr (fun i => if i < 5 then some (h (i + 131)) else none)))))), (h 131, .inl (cs 0, 4, .inl (g0_11 0))), (h 132, .inl (cs 0, 4, .inl (g0_11 1))), (h 133, .inl (cs 0, 4, .inl (g0_11 2))), (h 134, .inl (cs 0, 4, .inl (g0_11 3))), (h 135, .inl (cs 0, 4, .inl (g0_11 4))), (h 136, .inl (cs 0, 5, .inl a136_10))]) hP hD hS hA [1, 2, 3, 4, 5] [0, 6, 7, 8, 9, 10, 11, 12, 13] rfl rfl (by decide +kernel) (by decide +kernel) (va_runV (As := []) (rest := []) ⟨hx, hb, hml, hown, hts⟩ (k_X0_forget l dC dI h cs H.size (va_up (va_up (va_up I 120 (nI i9)) 121 (nI j9)) 123 (nI (sp9 + 1))) L (va_up A 136 a136_10) Q (va_up G 0 g0_11) J ) (cwV 0 hts gX9_table_X0_forget rfl rfl rfl (by decide +kernel) ⟨Nat.le_of_ble_eq_true rfl, Nat.le_of_ble_eq_true rfl⟩) (xpV (wc := (wAct0 h cs (va_up (va_up (va_up I 120 (nI i9)) 121 (nI j9)) 123 (nI (sp9 + 1))) L (va_up A 136 a136_10) Q (va_up G 0 g0_11) J)) hP hD hK hN [1, 2, 3, 4, 5] rfl (by decide) 1 (ci := 0) rfl rfl _) rfl rfl hl.1 rfl (lv_room (Nat.le_of_ble_eq_true rfl)) dX9_table_35 ⟨Nat.zero_le _, Nat.zero_le _⟩) (fun u_15 H locs hw hP hD hS => ?_)
          obtain ⟨x144_17, x145_18, x146_19, hf_20, rfl⟩ := hw
          have hP : va_P (dC, dI) vwCl (wF1 h cs (va_up (va_up (va_up (va_up (va_up (va_up I 120 (nI i9)) 121 (nI j9)) 123 (nI (sp9 + 1))) 144 x144_17) 145 x145_18) 146 x146_19) L (va_up A 136 a136_10) Q (va_up G 0 g0_11) J) H := xP_sub hP [0, 9, 10, 11, 12, 13, 1, 2, 3, 4, 5, 6, 7, 8] rfl
          have hD : va_D A0 (wF1 h cs (va_up (va_up (va_up (va_up (va_up (va_up I 120 (nI i9)) 121 (nI j9)) 123 (nI (sp9 + 1))) 144 x144_17) 145 x145_18) 146 x146_19) L (va_up A 136 a136_10) Q (va_up G 0 g0_11) J) := hD.sub [0, 9, 10, 11, 12, 13, 1, 2, 3, 4, 5, 6, 7, 8] (by decide +kernel) rfl
          obtain ⟨rfl, rfl, rfl⟩ := hf_20
          refine lv_iconst (v := nI 1) hx hb dX9_table_38 (by decide) ?_
          exact xr_i (v := (nI 1)) hx hb hr hlocks hK hS dX9_table_39 ((va_up (va_up (va_up (va_up (va_up (va_up I 120 (nI i9)) 121 (nI j9)) 123 (nI (sp9 + 1))) 144 (nI 0)) 145 (nI 0)) 146 (nI 0)), L, (va_up A 136 a136_10), Q, (va_up G 0 g0_11), J) ⟨(nI i9), (nI j9), (nI (sp9 + 1)), (nI 0), (nI 0), (nI 0), a136_10, g0_11, (Or.inl ⟨rfl, i9, j9, h1i9, h2i9, h1j9, h2j9, hxi9, hxj9, rfl, rfl, rfl, rfl, rfl, rfl, hz_13, hz_14⟩), rfl⟩ hP hD
        · skip
          refine lv_iconst (v := (-1)) hx hb dX9_table_20 (by decide) ?_
          exact xr_i (v := (-1)) hx hb hr hlocks hK hS dX9_table_21 ((va_up (va_up (va_up (va_up (va_up (va_up I 120 (I 120)) 121 (I 121)) 123 (I 123)) 144 (I 144)) 145 (I 145)) 146 (I 146)), L, (va_up A 136 (A 136)), Q, (va_up G 0 (G 0)), J) ⟨(I 120), (I 121), (I 123), (I 144), (I 145), (I 146), (A 136), (G 0), (Or.inr ⟨rfl, fun i j a b c d e f => by first | (have q9 := bad_lo (k := 1) (x := x) (by omega) (by omega) (by assumption) e; omega) | (have q9 := bad_hi (k := 5) (x := x) (by omega) (by omega) (by assumption) e; omega) | (have q9 := bad_lo (k := 1) (x := y) (by omega) (by omega) (by assumption) f; omega) | (have q9 := bad_hi (k := 4) (x := y) (by omega) (by omega) (Int32.not_le.mp (by assumption)) f; omega), rfl, rfl, rfl, rfl, rfl, rfl, rfl, rfl⟩), rfl⟩ hP hD
set_option maxRecDepth 20000 in
theorem ggX9_undone_X2_solve : GoodIn wsX9_undone wsX2_solve := goodIn_r _ [14, 15, 16, 17, 18, 19, 20, 21, 22, 23, 13, 24, 25, 26, 27, 28, 71, 72, 73, 74, 75] rfl (by decide +kernel)
set_option maxRecDepth 20000 in
theorem gX9_undone_X2_solve : GoodIn wsX9_undone (wsV RX9 188 RX2 yX2_solve wsX2_solve) := goodIn_app (goodIn_of _ (by decide +kernel)) ggX9_undone_X2_solve
set_option maxRecDepth 20000 in
theorem ggX9_undone_X9_nearestLetter : GoodIn wsX9_undone wsX9_nearestLetter := goodIn_r _ [31, 32, 33, 34, 20, 35, 36, 37, 38, 39, 40, 41, 42, 43, 44, 45, 46, 47, 48, 49] rfl (by decide +kernel)
set_option maxRecDepth 20000 in
theorem gX9_undone_X9_nearestLetter : GoodIn wsX9_undone (va_wsS RX9 200 yX9_nearestLetter wsX9_nearestLetter) := goodIn_app (goodIn_of _ (by decide +kernel)) ggX9_undone_X9_nearestLetter
set_option maxRecDepth 20000 in
theorem ggX9_undone_X3_follow : GoodIn wsX9_undone wsX3_follow := goodIn_r _ [54, 55, 65, 66, 67, 68, 69, 70] rfl (by decide +kernel)
set_option maxRecDepth 20000 in
theorem gX9_undone_X3_follow : GoodIn wsX9_undone (wsV RX9 204 RX3 yX3_follow wsX3_follow) := goodIn_app (goodIn_of _ (by decide +kernel)) ggX9_undone_X3_follow
theorem bdX9_undone_0 : (decode cX9_undone 0 = .ok (.aload_n 0, 1)) ∧ (decode cX9_undone 1 = .ok (.getfield 51, 3)) ∧ (decode cX9_undone 4 = .ok (.aload_n 0, 1)) ∧ (decode cX9_undone 5 = .ok (.getfield 12, 3)) ∧ (decode cX9_undone 8 = .ok (.getfield 173, 3)) ∧ (decode cX9_undone 11 = .ok (.aload_n 0, 1)) ∧ (decode cX9_undone 12 = .ok (.getfield 12, 3)) ∧ (decode cX9_undone 15 = .ok (.getfield 184, 3)) ∧ (decode cX9_undone 18 = .ok (.aload_n 0, 1)) ∧ (decode cX9_undone 19 = .ok (.getfield 12, 3)) ∧ (decode cX9_undone 22 = .ok (.getfield 147, 3)) ∧ (decode cX9_undone 25 = .ok (.aload_n 0, 1)) ∧ (decode cX9_undone 26 = .ok (.getfield 12, 3)) ∧ (decode cX9_undone 29 = .ok (.getfield 106, 3)) ∧ (decode cX9_undone 32 = .ok (.invokevirtual 188, 3)) ∧ (decode cX9_undone 35 = .ok (.aload_n 0, 1)) := by decide +kernel
theorem dX9_undone_0 : decode cX9_undone 0 = .ok (.aload_n 0, 1) := bdX9_undone_0.1
theorem dX9_undone_1 : decode cX9_undone 1 = .ok (.getfield 51, 3) := bdX9_undone_0.2.1
theorem dX9_undone_4 : decode cX9_undone 4 = .ok (.aload_n 0, 1) := bdX9_undone_0.2.2.1
theorem dX9_undone_5 : decode cX9_undone 5 = .ok (.getfield 12, 3) := bdX9_undone_0.2.2.2.1
theorem dX9_undone_8 : decode cX9_undone 8 = .ok (.getfield 173, 3) := bdX9_undone_0.2.2.2.2.1
theorem dX9_undone_11 : decode cX9_undone 11 = .ok (.aload_n 0, 1) := bdX9_undone_0.2.2.2.2.2.1
theorem dX9_undone_12 : decode cX9_undone 12 = .ok (.getfield 12, 3) := bdX9_undone_0.2.2.2.2.2.2.1
theorem dX9_undone_15 : decode cX9_undone 15 = .ok (.getfield 184, 3) := bdX9_undone_0.2.2.2.2.2.2.2.1
theorem dX9_undone_18 : decode cX9_undone 18 = .ok (.aload_n 0, 1) := bdX9_undone_0.2.2.2.2.2.2.2.2.1
theorem dX9_undone_19 : decode cX9_undone 19 = .ok (.getfield 12, 3) := bdX9_undone_0.2.2.2.2.2.2.2.2.2.1
theorem dX9_undone_22 : decode cX9_undone 22 = .ok (.getfield 147, 3) := bdX9_undone_0.2.2.2.2.2.2.2.2.2.2.1
theorem dX9_undone_25 : decode cX9_undone 25 = .ok (.aload_n 0, 1) := bdX9_undone_0.2.2.2.2.2.2.2.2.2.2.2.1
theorem dX9_undone_26 : decode cX9_undone 26 = .ok (.getfield 12, 3) := bdX9_undone_0.2.2.2.2.2.2.2.2.2.2.2.2.1
theorem dX9_undone_29 : decode cX9_undone 29 = .ok (.getfield 106, 3) := bdX9_undone_0.2.2.2.2.2.2.2.2.2.2.2.2.2.1
theorem dX9_undone_32 : decode cX9_undone 32 = .ok (.invokevirtual 188, 3) := bdX9_undone_0.2.2.2.2.2.2.2.2.2.2.2.2.2.2.1
theorem dX9_undone_35 : decode cX9_undone 35 = .ok (.aload_n 0, 1) := bdX9_undone_0.2.2.2.2.2.2.2.2.2.2.2.2.2.2.2
theorem bdX9_undone_36 : (decode cX9_undone 36 = .ok (.getfield 51, 3)) ∧ (decode cX9_undone 39 = .ok (.getfield 192, 3)) ∧ (decode cX9_undone 42 = .ok (.lconst 0, 1)) ∧ (decode cX9_undone 43 = .ok (.lcmp, 1)) ∧ (decode cX9_undone 44 = .ok (.ifCond .gt 6, 3)) ∧ (decode cX9_undone 47 = .ok (.bipush (-2), 2)) ∧ (decode cX9_undone 49 = .ok (.ireturn, 1)) ∧ (decode cX9_undone 50 = .ok (.iconst 0, 1)) ∧ (decode cX9_undone 51 = .ok (.istore_n 1, 1)) ∧ (decode cX9_undone 52 = .ok (.iconst 0, 1)) ∧ (decode cX9_undone 53 = .ok (.istore_n 2, 1)) ∧ (decode cX9_undone 54 = .ok (.iload_n 2, 1)) ∧ (decode cX9_undone 55 = .ok (.aload_n 0, 1)) ∧ (decode cX9_undone 56 = .ok (.getfield 12, 3)) ∧ (decode cX9_undone 59 = .ok (.getfield 106, 3)) ∧ (decode cX9_undone 62 = .ok (.if_icmp .ge 44, 3)) := by decide +kernel
theorem dX9_undone_36 : decode cX9_undone 36 = .ok (.getfield 51, 3) := bdX9_undone_36.1
theorem dX9_undone_39 : decode cX9_undone 39 = .ok (.getfield 192, 3) := bdX9_undone_36.2.1
theorem dX9_undone_42 : decode cX9_undone 42 = .ok (.lconst 0, 1) := bdX9_undone_36.2.2.1
theorem dX9_undone_43 : decode cX9_undone 43 = .ok (.lcmp, 1) := bdX9_undone_36.2.2.2.1
theorem dX9_undone_44 : decode cX9_undone 44 = .ok (.ifCond .gt 6, 3) := bdX9_undone_36.2.2.2.2.1
theorem dX9_undone_47 : decode cX9_undone 47 = .ok (.bipush (-2), 2) := bdX9_undone_36.2.2.2.2.2.1
theorem dX9_undone_49 : decode cX9_undone 49 = .ok (.ireturn, 1) := bdX9_undone_36.2.2.2.2.2.2.1
theorem dX9_undone_50 : decode cX9_undone 50 = .ok (.iconst 0, 1) := bdX9_undone_36.2.2.2.2.2.2.2.1
theorem dX9_undone_51 : decode cX9_undone 51 = .ok (.istore_n 1, 1) := bdX9_undone_36.2.2.2.2.2.2.2.2.1
theorem dX9_undone_52 : decode cX9_undone 52 = .ok (.iconst 0, 1) := bdX9_undone_36.2.2.2.2.2.2.2.2.2.1
theorem dX9_undone_53 : decode cX9_undone 53 = .ok (.istore_n 2, 1) := bdX9_undone_36.2.2.2.2.2.2.2.2.2.2.1
theorem dX9_undone_54 : decode cX9_undone 54 = .ok (.iload_n 2, 1) := bdX9_undone_36.2.2.2.2.2.2.2.2.2.2.2.1
theorem dX9_undone_55 : decode cX9_undone 55 = .ok (.aload_n 0, 1) := bdX9_undone_36.2.2.2.2.2.2.2.2.2.2.2.2.1
theorem dX9_undone_56 : decode cX9_undone 56 = .ok (.getfield 12, 3) := bdX9_undone_36.2.2.2.2.2.2.2.2.2.2.2.2.2.1
theorem dX9_undone_59 : decode cX9_undone 59 = .ok (.getfield 106, 3) := bdX9_undone_36.2.2.2.2.2.2.2.2.2.2.2.2.2.2.1
theorem dX9_undone_62 : decode cX9_undone 62 = .ok (.if_icmp .ge 44, 3) := bdX9_undone_36.2.2.2.2.2.2.2.2.2.2.2.2.2.2.2
theorem bdX9_undone_65 : (decode cX9_undone 65 = .ok (.aload_n 0, 1)) ∧ (decode cX9_undone 66 = .ok (.getfield 12, 3)) ∧ (decode cX9_undone 69 = .ok (.iload_n 1, 1)) ∧ (decode cX9_undone 70 = .ok (.aload_n 0, 1)) ∧ (decode cX9_undone 71 = .ok (.getfield 51, 3)) ∧ (decode cX9_undone 74 = .ok (.getfield 196, 3)) ∧ (decode cX9_undone 77 = .ok (.iload_n 2, 1)) ∧ (decode cX9_undone 78 = .ok (.laload, 1)) ∧ (decode cX9_undone 79 = .ok (.aload_n 0, 1)) ∧ (decode cX9_undone 80 = .ok (.getfield 51, 3)) ∧ (decode cX9_undone 83 = .ok (.getfield 192, 3)) ∧ (decode cX9_undone 86 = .ok (.aload_n 0, 1)) ∧ (decode cX9_undone 87 = .ok (.getfield 12, 3)) ∧ (decode cX9_undone 90 = .ok (.getfield 83, 3)) ∧ (decode cX9_undone 93 = .ok (.invokestatic 200, 3)) ∧ (decode cX9_undone 96 = .ok (.invokevirtual 204, 3)) := by decide +kernel
theorem dX9_undone_65 : decode cX9_undone 65 = .ok (.aload_n 0, 1) := bdX9_undone_65.1
theorem dX9_undone_66 : decode cX9_undone 66 = .ok (.getfield 12, 3) := bdX9_undone_65.2.1
theorem dX9_undone_69 : decode cX9_undone 69 = .ok (.iload_n 1, 1) := bdX9_undone_65.2.2.1
theorem dX9_undone_70 : decode cX9_undone 70 = .ok (.aload_n 0, 1) := bdX9_undone_65.2.2.2.1
theorem dX9_undone_71 : decode cX9_undone 71 = .ok (.getfield 51, 3) := bdX9_undone_65.2.2.2.2.1
theorem dX9_undone_74 : decode cX9_undone 74 = .ok (.getfield 196, 3) := bdX9_undone_65.2.2.2.2.2.1
theorem dX9_undone_77 : decode cX9_undone 77 = .ok (.iload_n 2, 1) := bdX9_undone_65.2.2.2.2.2.2.1
theorem dX9_undone_78 : decode cX9_undone 78 = .ok (.laload, 1) := bdX9_undone_65.2.2.2.2.2.2.2.1
theorem dX9_undone_79 : decode cX9_undone 79 = .ok (.aload_n 0, 1) := bdX9_undone_65.2.2.2.2.2.2.2.2.1
theorem dX9_undone_80 : decode cX9_undone 80 = .ok (.getfield 51, 3) := bdX9_undone_65.2.2.2.2.2.2.2.2.2.1
theorem dX9_undone_83 : decode cX9_undone 83 = .ok (.getfield 192, 3) := bdX9_undone_65.2.2.2.2.2.2.2.2.2.2.1
theorem dX9_undone_86 : decode cX9_undone 86 = .ok (.aload_n 0, 1) := bdX9_undone_65.2.2.2.2.2.2.2.2.2.2.2.1
theorem dX9_undone_87 : decode cX9_undone 87 = .ok (.getfield 12, 3) := bdX9_undone_65.2.2.2.2.2.2.2.2.2.2.2.2.1
theorem dX9_undone_90 : decode cX9_undone 90 = .ok (.getfield 83, 3) := bdX9_undone_65.2.2.2.2.2.2.2.2.2.2.2.2.2.1
theorem dX9_undone_93 : decode cX9_undone 93 = .ok (.invokestatic 200, 3) := bdX9_undone_65.2.2.2.2.2.2.2.2.2.2.2.2.2.2.1
theorem dX9_undone_96 : decode cX9_undone 96 = .ok (.invokevirtual 204, 3) := bdX9_undone_65.2.2.2.2.2.2.2.2.2.2.2.2.2.2.2
theorem bdX9_undone_99 : (decode cX9_undone 99 = .ok (.istore_n 1, 1)) ∧ (decode cX9_undone 100 = .ok (.iinc 2 1, 3)) ∧ (decode cX9_undone 103 = .ok (.goto (-49), 3)) ∧ (decode cX9_undone 106 = .ok (.iload_n 1, 1)) ∧ (decode cX9_undone 107 = .ok (.ireturn, 1)) := by decide +kernel
theorem dX9_undone_99 : decode cX9_undone 99 = .ok (.istore_n 1, 1) := bdX9_undone_99.1
theorem dX9_undone_100 : decode cX9_undone 100 = .ok (.iinc 2 1, 3) := bdX9_undone_99.2.1
theorem dX9_undone_103 : decode cX9_undone 103 = .ok (.goto (-49), 3) := bdX9_undone_99.2.2.1
theorem dX9_undone_106 : decode cX9_undone 106 = .ok (.iload_n 1, 1) := bdX9_undone_99.2.2.2.1
theorem dX9_undone_107 : decode cX9_undone 107 = .ok (.ireturn, 1) := bdX9_undone_99.2.2.2.2
set_option maxHeartbeats 4000000 in
set_option maxRecDepth 100000 in
theorem k_X9_undone (l : Launch) (dC : Nat → ClassId) (dI : Nat → Nat → Nat) (h : Nat → Nat) (cs : Nat → ClassId) (sz : Nat) (I : Nat → Int32) (L : Nat → Int64) (A : Nat → Nat → Int32) (Q : Nat → Nat → Int64) (G : Nat → Nat → Nat → Int32) (J : Nat → Nat → Nat → Int64) (R M a : Nat) (hR : I 120 = nI R) (hR1 : 1 ≤ R) (hR5 : R ≤ 5) (hM : I 121 = nI M) (hM1 : 1 ≤ M) (hM4 : M ≤ 4) (ha : I 122 = nI a) (ha2 : a = 2 ∨ a = 4) : Met l yX9_undone wsX9_undone ({ frames := 6, cells := 0, slots := 0, locals := 166 }) (va_Pc [.ref (h 100)] (xPre (dC, dI) (wFL h cs I L A Q G J) (tysA cs) sz)) (va_Qi (fun (r : Int32) (u : CS) => ∃ l188 : Int64, ∃ q185 : Nat → Int64, ∃ q187 : Nat → Int64, ∃ j0 : Nat → Nat → Int64, (True) ∧ u = (I, (va_up L 188 l188), A, (va_up (va_up Q 185 q185) 187 q187), G, (va_up J 0 j0))) (xB (dC, dI) (tysA cs) (va_A (wFL h cs I L A Q G J) sz) (fun u : CS => wFL h cs u.1 u.2.1 u.2.2.1 u.2.2.2.1 u.2.2.2.2.1 u.2.2.2.2.2)) (va_A (wFL h cs I L A Q G J) sz)) 0 0 (va_A (wFL h cs I L A Q G J) sz) := by
  refine Met.ofW (cc := cX9_undone) (maxL := 3) (ret := (some .int)) (by decide) rfl ?_
  intro p e s m args below meth c s₁ B hml hv
  obtain ⟨rfl, hsz, hP, hK, hD0, hN⟩ := hv
  have hx := B.exec
  have hb := B.bytes
  have hr := B.returns
  have hts := atoms_spec (ws := wsX9_undone) B.pre
  have hown : s.vm.findClass RX9 = some m.cls := findClass_of_methodNamed B.named
  have hlocks := B.notSynchronized
  subst hsz
  have hD := hD0.self (sz := s.heap.size)
  generalize hAe : va_A (wFL h cs I L A Q G J) s.heap.size = A0 at hD ⊢
  have hA : ∀ q : Nat, s.heap.size ≤ q → A0 q := fun q h => by rw [← hAe]; exact Or.inr h
  have hl := lv_entry ([.ref (h 100)]) (n := 3) (Nat.le_of_ble_eq_true rfl)
  rw [lg_entry_eq]
  generalize (lg_sl ([.ref (h 100)]) ++ List.replicate (3 - (lg_sl ([.ref (h 100)])).length) Slot.unset).toArray = ls at hl ⊢
  have hl : lv_has ls 3 [(0, .ref (h 100))] := hl
  generalize hH : s.heap = H at hP ⊢
  have hS : va_S A0 s.heap H [] := by rw [← hH]; exact va_S.rf
  have hinX9 : ∀ w ∈ wsX90, w ∈ wsX9_undone := by decide +kernel
  have hinX3 : ∀ w ∈ wsX30, w ∈ wsX9_undone := by decide +kernel
  have hinX2 : ∀ w ∈ wsX20, w ∈ wsX9_undone := by decide +kernel
  refine lv_aload_n hx hb dX9_undone_0 rfl (lv_at hl 0 rfl) ?_
  refine va_get (D := (dC, dI)) (ci := 9) (v := .ref (h 106)) (C := RX9) (T := TX9) (N := 9) hx hb hts hinX9 hown hK hP 0 rfl rfl 5 (by decide) (hts (.fieldLink RX9 51 "MixedWords" "least" "LMixedWords$Least;") (by decide +kernel)) (fun _ h9 => h9) rfl dX9_undone_1 ?_
  refine lv_aload_n hx hb dX9_undone_4 rfl (lv_at hl 0 rfl) ?_
  refine va_get (D := (dC, dI)) (ci := 9) (v := .ref (h 101)) (C := RX9) (T := TX9) (N := 9) hx hb hts hinX9 hown hK hP 0 rfl rfl 0 (by decide) (hts (.fieldLink RX9 12 "MixedWords" "mix" "LMixedWords$Mix;") (by decide +kernel)) (fun _ h9 => h9) rfl dX9_undone_5 ?_
  refine va_get (D := (dC, dI)) (ci := 3) (v := .ref (h 130)) (C := RX3) (T := TX3) (N := 6) hx hb hts hinX3 hown hK hP 10 rfl rfl 4 (by decide) (hts (.fieldLink RX9 173 "MixedWords$Mix" "cells" "[[I") (by decide +kernel)) (fun _ h9 => h9) rfl dX9_undone_8 ?_
  refine lv_aload_n hx hb dX9_undone_11 rfl (lv_at hl 0 rfl) ?_
  refine va_get (D := (dC, dI)) (ci := 9) (v := .ref (h 101)) (C := RX9) (T := TX9) (N := 9) hx hb hts hinX9 hown hK hP 0 rfl rfl 0 (by decide) (hts (.fieldLink RX9 12 "MixedWords" "mix" "LMixedWords$Mix;") (by decide +kernel)) (fun _ h9 => h9) rfl dX9_undone_12 ?_
  refine va_get (D := (dC, dI)) (ci := 3) (v := .ref (h 136)) (C := RX3) (T := TX3) (N := 6) hx hb hts hinX3 hown hK hP 10 rfl rfl 5 (by decide) (hts (.fieldLink RX9 184 "MixedWords$Mix" "heard" "[I") (by decide +kernel)) (fun _ h9 => h9) rfl dX9_undone_15 ?_
  refine lv_aload_n hx hb dX9_undone_18 rfl (lv_at hl 0 rfl) ?_
  refine va_get (D := (dC, dI)) (ci := 9) (v := .ref (h 101)) (C := RX9) (T := TX9) (N := 9) hx hb hts hinX9 hown hK hP 0 rfl rfl 0 (by decide) (hts (.fieldLink RX9 12 "MixedWords" "mix" "LMixedWords$Mix;") (by decide +kernel)) (fun _ h9 => h9) rfl dX9_undone_19 ?_
  refine va_get (D := (dC, dI)) (ci := 3) (v := .int (I 120)) (C := RX3) (T := TX3) (N := 6) hx hb hts hinX3 hown hK hP 10 rfl rfl 0 (by decide) (hts (.fieldLink RX9 147 "MixedWords$Mix" "height" "I") (by decide +kernel)) (fun _ h9 => h9) rfl dX9_undone_22 ?_
  refine xt_i (y := nI R) (hR) ?_
  refine lv_aload_n hx hb dX9_undone_25 rfl (lv_at hl 0 rfl) ?_
  refine va_get (D := (dC, dI)) (ci := 9) (v := .ref (h 101)) (C := RX9) (T := TX9) (N := 9) hx hb hts hinX9 hown hK hP 0 rfl rfl 0 (by decide) (hts (.fieldLink RX9 12 "MixedWords" "mix" "LMixedWords$Mix;") (by decide +kernel)) (fun _ h9 => h9) rfl dX9_undone_26 ?_
  refine va_get (D := (dC, dI)) (ci := 3) (v := .int (I 121)) (C := RX3) (T := TX3) (N := 6) hx hb hts hinX3 hown hK hP 10 rfl rfl 1 (by decide) (hts (.fieldLink RX9 106 "MixedWords$Mix" "width" "I") (by decide +kernel)) (fun _ h9 => h9) rfl dX9_undone_29 ?_
  refine xt_i (y := nI M) (hM) ?_
  refine xj_v (wc := (wSv h cs I L A Q G J)) (wr := [(h 100, .inr (9, [.ref (h 101), .ref (h 102), .ref (h 103), .ref (h 104), .ref (h 105), .ref (h 106), .ref (h 107), .ref (h 108), .ref (h 109)])), (h 101, .inr (3, [.int (I 120), .int (I 121), .int (I 122), .int (I 123), .ref (h 130), .ref (h 136)]))]) hP hD hS hA [1, 2, 3, 4, 5, 6, 7, 8, 9, 11, 12, 13, 14, 15, 16, 17] [0, 10] rfl rfl (by decide +kernel) (by decide +kernel) (va_runV (As := [.ref (h 130), .ref (h 136), .int (nI R), .int (nI M)]) (rest := []) ⟨hx, hb, hml, hown, hts⟩ (k_X2_solveM l dC dI h cs H.size I L A Q G J R M (by first | assumption | omega | exact hR5) (by first | assumption | omega | exact hM4)) (cwV 4 hts gX9_undone_X2_solve rfl rfl rfl (by decide +kernel) ⟨Nat.le_of_ble_eq_true rfl, Nat.le_of_ble_eq_true rfl⟩) (xpV (wc := (wSv h cs I L A Q G J)) hP hD hK hN [1, 2, 3, 4, 5, 6, 7, 8, 9, 11, 12, 13, 14, 15, 16, 17] rfl (by decide) 1 (ci := 2) rfl rfl _) rfl rfl hl.1 rfl (lv_room (Nat.le_of_ble_eq_true rfl)) dX9_undone_32 ⟨Nat.zero_le _, Nat.zero_le _⟩) (fun u_1 H locs hw hP hD hS => ?_)
  obtain ⟨l188_3, q185_4, q187_5, j0_6, hf_7, rfl⟩ := hw
  have hP : va_P (dC, dI) vwCl (wFL h cs I (va_up L 188 l188_3) A (va_up (va_up Q 185 q185_4) 187 q187_5) G (va_up J 0 j0_6)) H := xP_sub hP [0, 2, 3, 4, 5, 6, 7, 8, 9, 10, 1, 11, 12, 13, 14, 15, 16, 17] rfl
  have hD : va_D A0 (wFL h cs I (va_up L 188 l188_3) A (va_up (va_up Q 185 q185_4) 187 q187_5) G (va_up J 0 j0_6)) := hD.sub [0, 2, 3, 4, 5, 6, 7, 8, 9, 10, 1, 11, 12, 13, 14, 15, 16, 17] (by decide +kernel) rfl
  refine lv_aload_n hx hb dX9_undone_35 rfl (lv_at hl 0 rfl) ?_
  refine va_get (D := (dC, dI)) (ci := 9) (v := .ref (h 106)) (C := RX9) (T := TX9) (N := 9) hx hb hts hinX9 hown hK hP 0 rfl rfl 5 (by decide) (hts (.fieldLink RX9 51 "MixedWords" "least" "LMixedWords$Least;") (by decide +kernel)) (fun _ h9 => h9) rfl dX9_undone_36 ?_
  refine va_get (D := (dC, dI)) (ci := 2) (v := .long l188_3) (C := RX2) (T := TX2) (N := 5) hx hb hts hinX2 hown hK hP 1 rfl rfl 4 (by decide) (hts (.fieldLink RX9 192 "MixedWords$Least" "below" "J") (by decide +kernel)) (fun _ h9 => h9) rfl dX9_undone_39 ?_
  refine lv_lconst (v := 0) hx hb dX9_undone_42 rfl ?_
  refine xl_gt (tgt := 50) hx hb dX9_undone_43 dX9_undone_44 (by decide) (fun c_43_7 => ?_) (fun c_43_7 => ?_)
  · skip
    refine lv_iconst (v := nI 0) hx hb dX9_undone_50 (by decide) ?_
    refine lv_istore_n (lv' := [(1, .int (nI 0)), (0, .ref (h 100))]) hx hb dX9_undone_51 rfl hl (by decide) rfl (fun ls hl => ?_)
    refine lv_iconst (v := nI 0) hx hb dX9_undone_52 (by decide) ?_
    refine lv_istore_n (lv' := [(2, .int (nI 0)), (1, .int (nI 0)), (0, .ref (h 100))]) hx hb dX9_undone_53 rfl hl (by decide) rfl (fun ls hl => ?_)
    have cut_54 : ∀ (nf : Nat) (k : Nat) (z1 : Int32), (M - k) < nf → (k ≤ M) → ∀ (H : Heap) (locs : List Loc) (ls : Array Slot), va_P (dC, dI) vwCl (wFL h cs I (va_up L 188 l188_3) A (va_up (va_up Q 185 q185_4) 187 q187_5) G (va_up J 0 j0_6)) H → va_D A0 (wFL h cs I (va_up L 188 l188_3) A (va_up (va_up Q 185 q185_4) 187 q187_5) G (va_up J 0 j0_6)) → va_S A0 s.heap H locs → lv_has ls 3 [(0, .ref (h 100)), (1, .int z1), (2, .int (nI k))] → W p l e (headSpec wsX9_undone ({ frames := 6, cells := 0, slots := 0, locals := 166 })).room s m ([.ref (h 100)] : List Value).toArray below meth c H locs 0 0 (MQ below (va_Qi (fun (r : Int32) (u : CS) => ∃ l188 : Int64, ∃ q185 : Nat → Int64, ∃ q187 : Nat → Int64, ∃ j0 : Nat → Nat → Int64, (True) ∧ u = (I, (va_up L 188 l188), A, (va_up (va_up Q 185 q185) 187 q187), G, (va_up J 0 j0))) (xB (dC, dI) (tysA cs) A0 (fun u : CS => wFL h cs u.1 u.2.1 u.2.2.1 u.2.2.2.1 u.2.2.2.2.1 u.2.2.2.2.2)) A0) ([.ref (h 100)] : List Value).toArray s 0 0 A0) (F0 m 54 ls []) := by
      intro nf
      induction nf with
      | zero => intro k z1 hm; exact absurd hm (Nat.not_lt_zero _)
      | succ nf ih_54 =>
        intro k z1 hm_54 hk54 H locs ls hP hD hS hl
        refine lv_iload_n hx hb dX9_undone_54 rfl (lv_at hl 2 rfl) ?_
        refine lv_aload_n hx hb dX9_undone_55 rfl (lv_at hl 0 rfl) ?_
        refine va_get (D := (dC, dI)) (ci := 9) (v := .ref (h 101)) (C := RX9) (T := TX9) (N := 9) hx hb hts hinX9 hown hK hP 0 rfl rfl 0 (by decide) (hts (.fieldLink RX9 12 "MixedWords" "mix" "LMixedWords$Mix;") (by decide +kernel)) (fun _ h9 => h9) rfl dX9_undone_56 ?_
        refine va_get (D := (dC, dI)) (ci := 3) (v := .int (I 121)) (C := RX3) (T := TX3) (N := 6) hx hb hts hinX3 hown hK hP 10 rfl rfl 1 (by decide) (hts (.fieldLink RX9 106 "MixedWords$Mix" "width" "I") (by decide +kernel)) (fun _ h9 => h9) rfl dX9_undone_59 ?_
        refine xt_i (y := nI M) (hM) ?_
        refine xn_ge (tgt := 106) hx hb dX9_undone_62 (by decide) (by omega) (by omega) (fun c_62_8 => ?_) (fun c_62_8 => ?_)
        · skip
          refine lv_iload_n hx hb dX9_undone_106 rfl (lv_at hl 1 rfl) ?_
          exact xr_i (v := z1) hx hb hr hlocks hK hS dX9_undone_107 (I, (va_up L 188 l188_3), A, (va_up (va_up Q 185 q185_4) 187 q187_5), G, (va_up J 0 j0_6)) ⟨l188_3, q185_4, q187_5, j0_6, trivial, rfl⟩ hP hD
        · skip
          refine lv_aload_n hx hb dX9_undone_65 rfl (lv_at hl 0 rfl) ?_
          refine va_get (D := (dC, dI)) (ci := 9) (v := .ref (h 101)) (C := RX9) (T := TX9) (N := 9) hx hb hts hinX9 hown hK hP 0 rfl rfl 0 (by decide) (hts (.fieldLink RX9 12 "MixedWords" "mix" "LMixedWords$Mix;") (by decide +kernel)) (fun _ h9 => h9) rfl dX9_undone_66 ?_
          refine lv_iload_n hx hb dX9_undone_69 rfl (lv_at hl 1 rfl) ?_
          refine lv_aload_n hx hb dX9_undone_70 rfl (lv_at hl 0 rfl) ?_
          refine va_get (D := (dC, dI)) (ci := 9) (v := .ref (h 106)) (C := RX9) (T := TX9) (N := 9) hx hb hts hinX9 hown hK hP 0 rfl rfl 5 (by decide) (hts (.fieldLink RX9 51 "MixedWords" "least" "LMixedWords$Least;") (by decide +kernel)) (fun _ h9 => h9) rfl dX9_undone_71 ?_
          refine va_get (D := (dC, dI)) (ci := 2) (v := .ref (h 187)) (C := RX2) (T := TX2) (N := 5) hx hb hts hinX2 hown hK hP 1 rfl rfl 3 (by decide) (hts (.fieldLink RX9 196 "MixedWords$Least" "above" "[J") (by decide +kernel)) (fun _ h9 => h9) rfl dX9_undone_74 ?_
          refine lv_iload_n hx hb dX9_undone_77 rfl (lv_at hl 2 rfl) ?_
          refine xa_lald hx hb hK hP 9 1 rfl rfl (by omega) (by decide) dX9_undone_78 ?_
          refine lv_aload_n hx hb dX9_undone_79 rfl (lv_at hl 0 rfl) ?_
          refine va_get (D := (dC, dI)) (ci := 9) (v := .ref (h 106)) (C := RX9) (T := TX9) (N := 9) hx hb hts hinX9 hown hK hP 0 rfl rfl 5 (by decide) (hts (.fieldLink RX9 51 "MixedWords" "least" "LMixedWords$Least;") (by decide +kernel)) (fun _ h9 => h9) rfl dX9_undone_80 ?_
          refine va_get (D := (dC, dI)) (ci := 2) (v := .long l188_3) (C := RX2) (T := TX2) (N := 5) hx hb hts hinX2 hown hK hP 1 rfl rfl 4 (by decide) (hts (.fieldLink RX9 192 "MixedWords$Least" "below" "J") (by decide +kernel)) (fun _ h9 => h9) rfl dX9_undone_83 ?_
          refine lv_aload_n hx hb dX9_undone_86 rfl (lv_at hl 0 rfl) ?_
          refine va_get (D := (dC, dI)) (ci := 9) (v := .ref (h 101)) (C := RX9) (T := TX9) (N := 9) hx hb hts hinX9 hown hK hP 0 rfl rfl 0 (by decide) (hts (.fieldLink RX9 12 "MixedWords" "mix" "LMixedWords$Mix;") (by decide +kernel)) (fun _ h9 => h9) rfl dX9_undone_87 ?_
          refine va_get (D := (dC, dI)) (ci := 3) (v := .int (I 122)) (C := RX3) (T := TX3) (N := 6) hx hb hts hinX3 hown hK hP 10 rfl rfl 2 (by decide) (hts (.fieldLink RX9 83 "MixedWords$Mix" "letterCount" "I") (by decide +kernel)) (fun _ h9 => h9) rfl dX9_undone_90 ?_
          refine xt_i (y := nI a) (ha) ?_
          refine xj_i (wc := ([] : va_W)) (wr := (wFL h cs I (va_up L 188 l188_3) A (va_up (va_up Q 185 q185_4) 187 q187_5) G (va_up J 0 j0_6))) hP hD hS hA [] [0, 1, 2, 3, 4, 5, 6, 7, 8, 9, 10, 11, 12, 13, 14, 15, 16, 17] rfl rfl (by decide +kernel) (by decide +kernel) (va_runS (As := [.long (q187_5 k), .long l188_3, .int (nI a)]) (rest := [.int z1, .ref (h 101)]) ⟨hx, hb, hml, hown, hts⟩ (k_X9_nearestLetter l dC dI h cs H.size I L A Q G J (q187_5 k) l188_3 (nI a)) (va_cwS 3 hts gX9_undone_X9_nearestLetter rfl rfl rfl (by decide +kernel) ⟨Nat.le_of_ble_eq_true rfl, Nat.le_of_ble_eq_true rfl⟩) (xpS (wc := ([] : va_W)) hP hD hK hN [] rfl (by decide) _) rfl rfl hl.1 rfl (lv_room (Nat.le_of_ble_eq_true rfl)) dX9_undone_93 ⟨Nat.zero_le _, Nat.zero_le _⟩) (fun r_11 u_10 H locs hw hP hD hS => ?_)
          obtain ⟨hf_12, rfl⟩ := hw
          have hP : va_P (dC, dI) vwCl (wFL h cs I (va_up L 188 l188_3) A (va_up (va_up Q 185 q185_4) 187 q187_5) G (va_up J 0 j0_6)) H := hP
          have hD : va_D A0 (wFL h cs I (va_up L 188 l188_3) A (va_up (va_up Q 185 q185_4) 187 q187_5) G (va_up J 0 j0_6)) := hD
          obtain rfl := hf_12
          refine xj_i (wc := (wMix h cs I (va_up L 188 l188_3) A (va_up (va_up Q 185 q185_4) 187 q187_5) G (va_up J 0 j0_6))) (wr := [(h 100, .inr (9, [.ref (h 101), .ref (h 102), .ref (h 103), .ref (h 104), .ref (h 105), .ref (h 106), .ref (h 107), .ref (h 108), .ref (h 109)])), (h 106, .inr (2, [.ref (h 180), .ref (h 185), .ref (h 186), .ref (h 187), .long (l188_3)])), (h 180, .inl (cs 4, 4, .inr (.inr (.inr (.inr (fun i => if i < 4 then some (h (i + 181)) else none)))))), (h 181, .inl (cs 1, 4, .inr (.inl (j0_6 0)))), (h 182, .inl (cs 1, 4, .inr (.inl (j0_6 1)))), (h 183, .inl (cs 1, 4, .inr (.inl (j0_6 2)))), (h 184, .inl (cs 1, 4, .inr (.inl (j0_6 3)))), (h 185, .inl (cs 1, 4, .inr (.inl q185_4))), (h 186, .inl (cs 0, 4, .inl (A 186))), (h 187, .inl (cs 1, 4, .inr (.inl q187_5)))]) hP hD hS hA [10, 11, 12, 13, 14, 15, 16, 17] [0, 1, 2, 3, 4, 5, 6, 7, 8, 9] rfl rfl (by decide +kernel) (by decide +kernel) (va_runV (As := [.int z1, .int (nlF (q187_5 k) l188_3 (nI a))]) (rest := []) ⟨hx, hb, hml, hown, hts⟩ (k_X3_follow l dC dI h cs H.size I (va_up L 188 l188_3) A (va_up (va_up Q 185 q185_4) 187 q187_5) G (va_up J 0 j0_6) z1 (nlF (q187_5 k) l188_3 (nI a)) a ha (by first | assumption | omega | exact ha2)) (cwV 2 hts gX9_undone_X3_follow rfl rfl rfl (by decide +kernel) ⟨Nat.le_of_ble_eq_true rfl, Nat.le_of_ble_eq_true rfl⟩) (xpV (wc := (wMix h cs I (va_up L 188 l188_3) A (va_up (va_up Q 185 q185_4) 187 q187_5) G (va_up J 0 j0_6))) hP hD hK hN [10, 11, 12, 13, 14, 15, 16, 17] rfl (by decide) 10 (ci := 3) rfl rfl _) rfl rfl hl.1 rfl (lv_room (Nat.le_of_ble_eq_true rfl)) dX9_undone_96 ⟨Nat.zero_le _, Nat.zero_le _⟩) (fun r_14 u_13 H locs hw hP hD hS => ?_)
          obtain ⟨hf_15, rfl⟩ := hw
          have hP : va_P (dC, dI) vwCl (wFL h cs I (va_up L 188 l188_3) A (va_up (va_up Q 185 q185_4) 187 q187_5) G (va_up J 0 j0_6)) H := hP
          have hD : va_D A0 (wFL h cs I (va_up L 188 l188_3) A (va_up (va_up Q 185 q185_4) 187 q187_5) G (va_up J 0 j0_6)) := hD
          refine lv_topi (fun x_16 ex_16 => ?_)
          refine lv_istore_n (lv' := [(1, .int x_16), (0, .ref (h 100)), (2, .int (nI k))]) hx hb dX9_undone_99 rfl hl (by decide) rfl (fun ls hl => ?_)
          refine lv_iinc (v := nI (k + 1)) (lv' := [(2, .int (nI (k + 1))), (1, .int x_16), (0, .ref (h 100))]) hx hb dX9_undone_100 hl (k := 2) rfl (nI_1 _) (by decide) rfl (fun ls hl => ?_)
          refine lv_goto (tgt := 54) hx hb dX9_undone_103 (by decide) ?_
          exact ih_54 (k + 1) x_16 (by omega) (by first | assumption | omega) _ _ _ hP hD hS (lv_sub hl [2, 1, 0] rfl)
    exact cut_54 _ 0 (nI 0) (Nat.lt_succ_self _) (by first | assumption | omega) _ _ _ hP hD hS (lv_sub hl [2, 1, 0] rfl)
  · skip
    refine lv_bipush (v := (-2)) hx hb dX9_undone_47 (by decide) ?_
    exact xr_i (v := (-2)) hx hb hr hlocks hK hS dX9_undone_49 (I, (va_up L 188 l188_3), A, (va_up (va_up Q 185 q185_4) 187 q187_5), G, (va_up J 0 j0_6)) ⟨l188_3, q185_4, q187_5, j0_6, trivial, rfl⟩ hP hD
set_option maxRecDepth 20000 in
theorem ggX9_fraction_X3_hasColumn : GoodIn wsX9_fraction wsX3_hasColumn := goodIn_r _ [22, 23, 55, 56, 57, 58, 59, 60] rfl (by decide +kernel)
set_option maxRecDepth 20000 in
theorem gX9_fraction_X3_hasColumn : GoodIn wsX9_fraction (wsV RX9 95 RX3 yX3_hasColumn wsX3_hasColumn) := goodIn_app (goodIn_of _ (by decide +kernel)) ggX9_fraction_X3_hasColumn
set_option maxRecDepth 20000 in
theorem ggX9_fraction_X2_solve : GoodIn wsX9_fraction wsX2_solve := goodIn_r _ [28, 29, 30, 31, 32, 33, 34, 35, 36, 37, 27, 38, 39, 40, 41, 42, 61, 62, 63, 64, 65] rfl (by decide +kernel)
set_option maxRecDepth 20000 in
theorem gX9_fraction_X2_solve : GoodIn wsX9_fraction (wsV RX9 188 RX2 yX2_solve wsX2_solve) := goodIn_app (goodIn_of _ (by decide +kernel)) ggX9_fraction_X2_solve
set_option maxRecDepth 20000 in
theorem ggX9_fraction_X9_commonDivisor : GoodIn wsX9_fraction wsX9_commonDivisor := goodIn_r _ [45] rfl (by decide +kernel)
set_option maxRecDepth 20000 in
theorem gX9_fraction_X9_commonDivisor : GoodIn wsX9_fraction (va_wsS RX9 217 yX9_commonDivisor wsX9_commonDivisor) := goodIn_app (goodIn_of _ (by decide +kernel)) ggX9_fraction_X9_commonDivisor
theorem bdX9_fraction_0 : (decode cX9_fraction 0 = .ok (.aload_n 0, 1)) ∧ (decode cX9_fraction 1 = .ok (.getfield 12, 3)) ∧ (decode cX9_fraction 4 = .ok (.iload_n 1, 1)) ∧ (decode cX9_fraction 5 = .ok (.invokevirtual 95, 3)) ∧ (decode cX9_fraction 8 = .ok (.ifCond .eq 12, 3)) ∧ (decode cX9_fraction 11 = .ok (.iload_n 2, 1)) ∧ (decode cX9_fraction 12 = .ok (.ifCond .lt 8, 3)) ∧ (decode cX9_fraction 15 = .ok (.iload_n 2, 1)) ∧ (decode cX9_fraction 16 = .ok (.iconst 1, 1)) ∧ (decode cX9_fraction 17 = .ok (.if_icmp .le 7, 3)) ∧ (decode cX9_fraction 20 = .ok (.ldc2_w 207, 3)) ∧ (decode cX9_fraction 23 = .ok (.lreturn, 1)) ∧ (decode cX9_fraction 24 = .ok (.aload_n 0, 1)) ∧ (decode cX9_fraction 25 = .ok (.getfield 51, 3)) ∧ (decode cX9_fraction 28 = .ok (.aload_n 0, 1)) ∧ (decode cX9_fraction 29 = .ok (.getfield 12, 3)) := by decide +kernel
theorem dX9_fraction_0 : decode cX9_fraction 0 = .ok (.aload_n 0, 1) := bdX9_fraction_0.1
theorem dX9_fraction_1 : decode cX9_fraction 1 = .ok (.getfield 12, 3) := bdX9_fraction_0.2.1
theorem dX9_fraction_4 : decode cX9_fraction 4 = .ok (.iload_n 1, 1) := bdX9_fraction_0.2.2.1
theorem dX9_fraction_5 : decode cX9_fraction 5 = .ok (.invokevirtual 95, 3) := bdX9_fraction_0.2.2.2.1
theorem dX9_fraction_8 : decode cX9_fraction 8 = .ok (.ifCond .eq 12, 3) := bdX9_fraction_0.2.2.2.2.1
theorem dX9_fraction_11 : decode cX9_fraction 11 = .ok (.iload_n 2, 1) := bdX9_fraction_0.2.2.2.2.2.1
theorem dX9_fraction_12 : decode cX9_fraction 12 = .ok (.ifCond .lt 8, 3) := bdX9_fraction_0.2.2.2.2.2.2.1
theorem dX9_fraction_15 : decode cX9_fraction 15 = .ok (.iload_n 2, 1) := bdX9_fraction_0.2.2.2.2.2.2.2.1
theorem dX9_fraction_16 : decode cX9_fraction 16 = .ok (.iconst 1, 1) := bdX9_fraction_0.2.2.2.2.2.2.2.2.1
theorem dX9_fraction_17 : decode cX9_fraction 17 = .ok (.if_icmp .le 7, 3) := bdX9_fraction_0.2.2.2.2.2.2.2.2.2.1
theorem dX9_fraction_20 : decode cX9_fraction 20 = .ok (.ldc2_w 207, 3) := bdX9_fraction_0.2.2.2.2.2.2.2.2.2.2.1
theorem dX9_fraction_23 : decode cX9_fraction 23 = .ok (.lreturn, 1) := bdX9_fraction_0.2.2.2.2.2.2.2.2.2.2.2.1
theorem dX9_fraction_24 : decode cX9_fraction 24 = .ok (.aload_n 0, 1) := bdX9_fraction_0.2.2.2.2.2.2.2.2.2.2.2.2.1
theorem dX9_fraction_25 : decode cX9_fraction 25 = .ok (.getfield 51, 3) := bdX9_fraction_0.2.2.2.2.2.2.2.2.2.2.2.2.2.1
theorem dX9_fraction_28 : decode cX9_fraction 28 = .ok (.aload_n 0, 1) := bdX9_fraction_0.2.2.2.2.2.2.2.2.2.2.2.2.2.2.1
theorem dX9_fraction_29 : decode cX9_fraction 29 = .ok (.getfield 12, 3) := bdX9_fraction_0.2.2.2.2.2.2.2.2.2.2.2.2.2.2.2
theorem bdX9_fraction_32 : (decode cX9_fraction 32 = .ok (.getfield 173, 3)) ∧ (decode cX9_fraction 35 = .ok (.aload_n 0, 1)) ∧ (decode cX9_fraction 36 = .ok (.getfield 12, 3)) ∧ (decode cX9_fraction 39 = .ok (.getfield 184, 3)) ∧ (decode cX9_fraction 42 = .ok (.aload_n 0, 1)) ∧ (decode cX9_fraction 43 = .ok (.getfield 12, 3)) ∧ (decode cX9_fraction 46 = .ok (.getfield 147, 3)) ∧ (decode cX9_fraction 49 = .ok (.aload_n 0, 1)) ∧ (decode cX9_fraction 50 = .ok (.getfield 12, 3)) ∧ (decode cX9_fraction 53 = .ok (.getfield 106, 3)) ∧ (decode cX9_fraction 56 = .ok (.invokevirtual 188, 3)) ∧ (decode cX9_fraction 59 = .ok (.aload_n 0, 1)) ∧ (decode cX9_fraction 60 = .ok (.getfield 51, 3)) ∧ (decode cX9_fraction 63 = .ok (.getfield 192, 3)) ∧ (decode cX9_fraction 66 = .ok (.lconst 0, 1)) ∧ (decode cX9_fraction 67 = .ok (.lcmp, 1)) := by decide +kernel
theorem dX9_fraction_32 : decode cX9_fraction 32 = .ok (.getfield 173, 3) := bdX9_fraction_32.1
theorem dX9_fraction_35 : decode cX9_fraction 35 = .ok (.aload_n 0, 1) := bdX9_fraction_32.2.1
theorem dX9_fraction_36 : decode cX9_fraction 36 = .ok (.getfield 12, 3) := bdX9_fraction_32.2.2.1
theorem dX9_fraction_39 : decode cX9_fraction 39 = .ok (.getfield 184, 3) := bdX9_fraction_32.2.2.2.1
theorem dX9_fraction_42 : decode cX9_fraction 42 = .ok (.aload_n 0, 1) := bdX9_fraction_32.2.2.2.2.1
theorem dX9_fraction_43 : decode cX9_fraction 43 = .ok (.getfield 12, 3) := bdX9_fraction_32.2.2.2.2.2.1
theorem dX9_fraction_46 : decode cX9_fraction 46 = .ok (.getfield 147, 3) := bdX9_fraction_32.2.2.2.2.2.2.1
theorem dX9_fraction_49 : decode cX9_fraction 49 = .ok (.aload_n 0, 1) := bdX9_fraction_32.2.2.2.2.2.2.2.1
theorem dX9_fraction_50 : decode cX9_fraction 50 = .ok (.getfield 12, 3) := bdX9_fraction_32.2.2.2.2.2.2.2.2.1
theorem dX9_fraction_53 : decode cX9_fraction 53 = .ok (.getfield 106, 3) := bdX9_fraction_32.2.2.2.2.2.2.2.2.2.1
theorem dX9_fraction_56 : decode cX9_fraction 56 = .ok (.invokevirtual 188, 3) := bdX9_fraction_32.2.2.2.2.2.2.2.2.2.2.1
theorem dX9_fraction_59 : decode cX9_fraction 59 = .ok (.aload_n 0, 1) := bdX9_fraction_32.2.2.2.2.2.2.2.2.2.2.2.1
theorem dX9_fraction_60 : decode cX9_fraction 60 = .ok (.getfield 51, 3) := bdX9_fraction_32.2.2.2.2.2.2.2.2.2.2.2.2.1
theorem dX9_fraction_63 : decode cX9_fraction 63 = .ok (.getfield 192, 3) := bdX9_fraction_32.2.2.2.2.2.2.2.2.2.2.2.2.2.1
theorem dX9_fraction_66 : decode cX9_fraction 66 = .ok (.lconst 0, 1) := bdX9_fraction_32.2.2.2.2.2.2.2.2.2.2.2.2.2.2.1
theorem dX9_fraction_67 : decode cX9_fraction 67 = .ok (.lcmp, 1) := bdX9_fraction_32.2.2.2.2.2.2.2.2.2.2.2.2.2.2.2
theorem bdX9_fraction_68 : (decode cX9_fraction 68 = .ok (.ifCond .gt 7, 3)) ∧ (decode cX9_fraction 71 = .ok (.ldc2_w 209, 3)) ∧ (decode cX9_fraction 74 = .ok (.lreturn, 1)) ∧ (decode cX9_fraction 75 = .ok (.aload_n 0, 1)) ∧ (decode cX9_fraction 76 = .ok (.getfield 51, 3)) ∧ (decode cX9_fraction 79 = .ok (.getfield 196, 3)) ∧ (decode cX9_fraction 82 = .ok (.iload_n 1, 1)) ∧ (decode cX9_fraction 83 = .ok (.laload, 1)) ∧ (decode cX9_fraction 84 = .ok (.lstore_n 3, 1)) ∧ (decode cX9_fraction 85 = .ok (.lconst 1, 1)) ∧ (decode cX9_fraction 86 = .ok (.lload_n 3, 1)) ∧ (decode cX9_fraction 87 = .ok (.invokestatic 211, 3)) ∧ (decode cX9_fraction 90 = .ok (.aload_n 0, 1)) ∧ (decode cX9_fraction 91 = .ok (.getfield 51, 3)) ∧ (decode cX9_fraction 94 = .ok (.getfield 192, 3)) ∧ (decode cX9_fraction 97 = .ok (.invokestatic 217, 3)) := by decide +kernel
theorem dX9_fraction_68 : decode cX9_fraction 68 = .ok (.ifCond .gt 7, 3) := bdX9_fraction_68.1
theorem dX9_fraction_71 : decode cX9_fraction 71 = .ok (.ldc2_w 209, 3) := bdX9_fraction_68.2.1
theorem dX9_fraction_74 : decode cX9_fraction 74 = .ok (.lreturn, 1) := bdX9_fraction_68.2.2.1
theorem dX9_fraction_75 : decode cX9_fraction 75 = .ok (.aload_n 0, 1) := bdX9_fraction_68.2.2.2.1
theorem dX9_fraction_76 : decode cX9_fraction 76 = .ok (.getfield 51, 3) := bdX9_fraction_68.2.2.2.2.1
theorem dX9_fraction_79 : decode cX9_fraction 79 = .ok (.getfield 196, 3) := bdX9_fraction_68.2.2.2.2.2.1
theorem dX9_fraction_82 : decode cX9_fraction 82 = .ok (.iload_n 1, 1) := bdX9_fraction_68.2.2.2.2.2.2.1
theorem dX9_fraction_83 : decode cX9_fraction 83 = .ok (.laload, 1) := bdX9_fraction_68.2.2.2.2.2.2.2.1
theorem dX9_fraction_84 : decode cX9_fraction 84 = .ok (.lstore_n 3, 1) := bdX9_fraction_68.2.2.2.2.2.2.2.2.1
theorem dX9_fraction_85 : decode cX9_fraction 85 = .ok (.lconst 1, 1) := bdX9_fraction_68.2.2.2.2.2.2.2.2.2.1
theorem dX9_fraction_86 : decode cX9_fraction 86 = .ok (.lload_n 3, 1) := bdX9_fraction_68.2.2.2.2.2.2.2.2.2.2.1
theorem dX9_fraction_87 : decode cX9_fraction 87 = .ok (.invokestatic 211, 3) := bdX9_fraction_68.2.2.2.2.2.2.2.2.2.2.2.1
theorem dX9_fraction_90 : decode cX9_fraction 90 = .ok (.aload_n 0, 1) := bdX9_fraction_68.2.2.2.2.2.2.2.2.2.2.2.2.1
theorem dX9_fraction_91 : decode cX9_fraction 91 = .ok (.getfield 51, 3) := bdX9_fraction_68.2.2.2.2.2.2.2.2.2.2.2.2.2.1
theorem dX9_fraction_94 : decode cX9_fraction 94 = .ok (.getfield 192, 3) := bdX9_fraction_68.2.2.2.2.2.2.2.2.2.2.2.2.2.2.1
theorem dX9_fraction_97 : decode cX9_fraction 97 = .ok (.invokestatic 217, 3) := bdX9_fraction_68.2.2.2.2.2.2.2.2.2.2.2.2.2.2.2
theorem bdX9_fraction_100 : (decode cX9_fraction 100 = .ok (.invokestatic 221, 3)) ∧ (decode cX9_fraction 103 = .ok (.lstore 5, 2)) ∧ (decode cX9_fraction 105 = .ok (.iload_n 2, 1)) ∧ (decode cX9_fraction 106 = .ok (.ifCond .ne 7, 3)) ∧ (decode cX9_fraction 109 = .ok (.lload_n 3, 1)) ∧ (decode cX9_fraction 110 = .ok (.goto 10, 3)) ∧ (decode cX9_fraction 113 = .ok (.aload_n 0, 1)) ∧ (decode cX9_fraction 114 = .ok (.getfield 51, 3)) ∧ (decode cX9_fraction 117 = .ok (.getfield 192, 3)) ∧ (decode cX9_fraction 120 = .ok (.lload 5, 2)) ∧ (decode cX9_fraction 122 = .ok (.ldiv, 1)) ∧ (decode cX9_fraction 123 = .ok (.lreturn, 1)) := by decide +kernel
theorem dX9_fraction_100 : decode cX9_fraction 100 = .ok (.invokestatic 221, 3) := bdX9_fraction_100.1
theorem dX9_fraction_103 : decode cX9_fraction 103 = .ok (.lstore 5, 2) := bdX9_fraction_100.2.1
theorem dX9_fraction_105 : decode cX9_fraction 105 = .ok (.iload_n 2, 1) := bdX9_fraction_100.2.2.1
theorem dX9_fraction_106 : decode cX9_fraction 106 = .ok (.ifCond .ne 7, 3) := bdX9_fraction_100.2.2.2.1
theorem dX9_fraction_109 : decode cX9_fraction 109 = .ok (.lload_n 3, 1) := bdX9_fraction_100.2.2.2.2.1
theorem dX9_fraction_110 : decode cX9_fraction 110 = .ok (.goto 10, 3) := bdX9_fraction_100.2.2.2.2.2.1
theorem dX9_fraction_113 : decode cX9_fraction 113 = .ok (.aload_n 0, 1) := bdX9_fraction_100.2.2.2.2.2.2.1
theorem dX9_fraction_114 : decode cX9_fraction 114 = .ok (.getfield 51, 3) := bdX9_fraction_100.2.2.2.2.2.2.2.1
theorem dX9_fraction_117 : decode cX9_fraction 117 = .ok (.getfield 192, 3) := bdX9_fraction_100.2.2.2.2.2.2.2.2.1
theorem dX9_fraction_120 : decode cX9_fraction 120 = .ok (.lload 5, 2) := bdX9_fraction_100.2.2.2.2.2.2.2.2.2.1
theorem dX9_fraction_122 : decode cX9_fraction 122 = .ok (.ldiv, 1) := bdX9_fraction_100.2.2.2.2.2.2.2.2.2.2.1
theorem dX9_fraction_123 : decode cX9_fraction 123 = .ok (.lreturn, 1) := bdX9_fraction_100.2.2.2.2.2.2.2.2.2.2.2
set_option maxHeartbeats 4000000 in
set_option maxRecDepth 100000 in
theorem k_X9_fraction (l : Launch) (dC : Nat → ClassId) (dI : Nat → Nat → Nat) (h : Nat → Nat) (cs : Nat → ClassId) (sz : Nat) (I : Nat → Int32) (L : Nat → Int64) (A : Nat → Nat → Int32) (Q : Nat → Nat → Int64) (G : Nat → Nat → Nat → Int32) (J : Nat → Nat → Nat → Int64) (x y : Int32) (R M : Nat) (hR : I 120 = nI R) (hR1 : 1 ≤ R) (hR5 : R ≤ 5) (hM : I 121 = nI M) (hM1 : 1 ≤ M) (hM4 : M ≤ 4) : Met l yX9_fraction wsX9_fraction ({ frames := 6, cells := 0, slots := 0, locals := 166 }) (va_Pc [.ref (h 100), .int x, .int y] (xPre (dC, dI) (wFL h cs I L A Q G J) (tysA cs) sz)) (va_Ql (fun (r : Int64) (u : CS) => ∃ l188 : Int64, ∃ q185 : Nat → Int64, ∃ q187 : Nat → Int64, ∃ j0 : Nat → Nat → Int64, (True) ∧ u = (I, (va_up L 188 l188), A, (va_up (va_up Q 185 q185) 187 q187), G, (va_up J 0 j0))) (xB (dC, dI) (tysA cs) (va_A (wFL h cs I L A Q G J) sz) (fun u : CS => wFL h cs u.1 u.2.1 u.2.2.1 u.2.2.2.1 u.2.2.2.2.1 u.2.2.2.2.2)) (va_A (wFL h cs I L A Q G J) sz)) 0 0 (va_A (wFL h cs I L A Q G J) sz) := by
  refine Met.ofW (cc := cX9_fraction) (maxL := 7) (ret := (some .long)) (by decide) rfl ?_
  intro p e s m args below meth c s₁ B hml hv
  obtain ⟨rfl, hsz, hP, hK, hD0, hN⟩ := hv
  have hx := B.exec
  have hb := B.bytes
  have hr := B.returns
  have hts := atoms_spec (ws := wsX9_fraction) B.pre
  have hown : s.vm.findClass RX9 = some m.cls := findClass_of_methodNamed B.named
  have hlocks := B.notSynchronized
  subst hsz
  have hD := hD0.self (sz := s.heap.size)
  generalize hAe : va_A (wFL h cs I L A Q G J) s.heap.size = A0 at hD ⊢
  have hA : ∀ q : Nat, s.heap.size ≤ q → A0 q := fun q h => by rw [← hAe]; exact Or.inr h
  have hl := lv_entry ([.ref (h 100), .int x, .int y]) (n := 7) (Nat.le_of_ble_eq_true rfl)
  rw [lg_entry_eq]
  generalize (lg_sl ([.ref (h 100), .int x, .int y]) ++ List.replicate (7 - (lg_sl ([.ref (h 100), .int x, .int y])).length) Slot.unset).toArray = ls at hl ⊢
  have hl : lv_has ls 7 [(0, .ref (h 100)), (1, .int x), (2, .int y)] := hl
  generalize hH : s.heap = H at hP ⊢
  have hS : va_S A0 s.heap H [] := by rw [← hH]; exact va_S.rf
  have hinX9 : ∀ w ∈ wsX90, w ∈ wsX9_fraction := by decide +kernel
  have hinX3 : ∀ w ∈ wsX30, w ∈ wsX9_fraction := by decide +kernel
  have hinX2 : ∀ w ∈ wsX20, w ∈ wsX9_fraction := by decide +kernel
  refine lv_aload_n hx hb dX9_fraction_0 rfl (lv_at hl 0 rfl) ?_
  refine va_get (D := (dC, dI)) (ci := 9) (v := .ref (h 101)) (C := RX9) (T := TX9) (N := 9) hx hb hts hinX9 hown hK hP 0 rfl rfl 0 (by decide) (hts (.fieldLink RX9 12 "MixedWords" "mix" "LMixedWords$Mix;") (by decide +kernel)) (fun _ h9 => h9) rfl dX9_fraction_1 ?_
  refine lv_iload_n hx hb dX9_fraction_4 rfl (lv_at hl 1 rfl) ?_
  refine xj_i (wc := (wMix h cs I L A Q G J)) (wr := [(h 100, .inr (9, [.ref (h 101), .ref (h 102), .ref (h 103), .ref (h 104), .ref (h 105), .ref (h 106), .ref (h 107), .ref (h 108), .ref (h 109)])), (h 106, .inr (2, [.ref (h 180), .ref (h 185), .ref (h 186), .ref (h 187), .long (L 188)])), (h 180, .inl (cs 4, 4, .inr (.inr (.inr (.inr (fun i => if i < 4 then some (h (i + 181)) else none)))))), (h 181, .inl (cs 1, 4, .inr (.inl ((J 0) 0)))), (h 182, .inl (cs 1, 4, .inr (.inl ((J 0) 1)))), (h 183, .inl (cs 1, 4, .inr (.inl ((J 0) 2)))), (h 184, .inl (cs 1, 4, .inr (.inl ((J 0) 3)))), (h 185, .inl (cs 1, 4, .inr (.inl (Q 185)))), (h 186, .inl (cs 0, 4, .inl (A 186))), (h 187, .inl (cs 1, 4, .inr (.inl (Q 187))))]) hP hD hS hA [10, 11, 12, 13, 14, 15, 16, 17] [0, 1, 2, 3, 4, 5, 6, 7, 8, 9] rfl rfl (by decide +kernel) (by decide +kernel) (va_runV (As := [.int x]) (rest := []) ⟨hx, hb, hml, hown, hts⟩ (k_X3_hasColumn l dC dI h cs H.size I L A Q G J x M hM (by first | assumption | omega | exact hM1) (by first | assumption | omega | exact hM4)) (cwV 1 hts gX9_fraction_X3_hasColumn rfl rfl rfl (by decide +kernel) ⟨Nat.le_of_ble_eq_true rfl, Nat.le_of_ble_eq_true rfl⟩) (xpV (wc := (wMix h cs I L A Q G J)) hP hD hK hN [10, 11, 12, 13, 14, 15, 16, 17] rfl (by decide) 10 (ci := 3) rfl rfl _) rfl rfl hl.1 rfl (lv_room (Nat.le_of_ble_eq_true rfl)) dX9_fraction_5 ⟨Nat.zero_le _, Nat.zero_le _⟩) (fun r_2 u_1 H locs hw hP hD hS => ?_)
  obtain ⟨hf_3, rfl⟩ := hw
  have hP : va_P (dC, dI) vwCl (wFL h cs I L A Q G J) H := hP
  have hD : va_D A0 (wFL h cs I L A Q G J) := hD
  rcases hf_3 with ⟨rfl, i_4, hi_5, hx_6⟩ | ⟨rfl, hn_7⟩
  · skip
    rw [hx_6] at hl
    refine lv_if_eq (tgt := 20) hx hb dX9_fraction_8 (by decide) (fun c9 => False.elim (by revert c9; decide +kernel)) (fun _ => ?_)
    refine lv_iload_n hx hb dX9_fraction_11 rfl (lv_at hl 2 rfl) ?_
    refine lv_if_lt (tgt := 20) hx hb dX9_fraction_12 (by decide) (fun c_12_7 => ?_) (fun c_12_7 => ?_)
    · skip
      refine lv_ldc2 (v := (-1000000000000001)) hx hb hown (hts (.constantLong RX9 207 (-1000000000000001)) (by decide +kernel)) dX9_fraction_20 ?_
      exact xr_l (v := (-1000000000000001 : Int64)) hx hb hr hlocks hK hS dX9_fraction_23 (I, (va_up L 188 (L 188)), A, (va_up (va_up Q 185 (Q 185)) 187 (Q 187)), G, (va_up J 0 (J 0))) ⟨(L 188), (Q 185), (Q 187), (J 0), trivial, rfl⟩ hP hD
    · skip
      refine lv_iload_n hx hb dX9_fraction_15 rfl (lv_at hl 2 rfl) ?_
      refine lv_iconst (v := nI 1) hx hb dX9_fraction_16 (by decide) ?_
      refine lv_icmp_le (tgt := 24) hx hb dX9_fraction_17 (by decide) (fun c_17_8 => ?_) (fun c_17_8 => ?_)
      · skip
        refine lv_aload_n hx hb dX9_fraction_24 rfl (lv_at hl 0 rfl) ?_
        refine va_get (D := (dC, dI)) (ci := 9) (v := .ref (h 106)) (C := RX9) (T := TX9) (N := 9) hx hb hts hinX9 hown hK hP 0 rfl rfl 5 (by decide) (hts (.fieldLink RX9 51 "MixedWords" "least" "LMixedWords$Least;") (by decide +kernel)) (fun _ h9 => h9) rfl dX9_fraction_25 ?_
        refine lv_aload_n hx hb dX9_fraction_28 rfl (lv_at hl 0 rfl) ?_
        refine va_get (D := (dC, dI)) (ci := 9) (v := .ref (h 101)) (C := RX9) (T := TX9) (N := 9) hx hb hts hinX9 hown hK hP 0 rfl rfl 0 (by decide) (hts (.fieldLink RX9 12 "MixedWords" "mix" "LMixedWords$Mix;") (by decide +kernel)) (fun _ h9 => h9) rfl dX9_fraction_29 ?_
        refine va_get (D := (dC, dI)) (ci := 3) (v := .ref (h 130)) (C := RX3) (T := TX3) (N := 6) hx hb hts hinX3 hown hK hP 10 rfl rfl 4 (by decide) (hts (.fieldLink RX9 173 "MixedWords$Mix" "cells" "[[I") (by decide +kernel)) (fun _ h9 => h9) rfl dX9_fraction_32 ?_
        refine lv_aload_n hx hb dX9_fraction_35 rfl (lv_at hl 0 rfl) ?_
        refine va_get (D := (dC, dI)) (ci := 9) (v := .ref (h 101)) (C := RX9) (T := TX9) (N := 9) hx hb hts hinX9 hown hK hP 0 rfl rfl 0 (by decide) (hts (.fieldLink RX9 12 "MixedWords" "mix" "LMixedWords$Mix;") (by decide +kernel)) (fun _ h9 => h9) rfl dX9_fraction_36 ?_
        refine va_get (D := (dC, dI)) (ci := 3) (v := .ref (h 136)) (C := RX3) (T := TX3) (N := 6) hx hb hts hinX3 hown hK hP 10 rfl rfl 5 (by decide) (hts (.fieldLink RX9 184 "MixedWords$Mix" "heard" "[I") (by decide +kernel)) (fun _ h9 => h9) rfl dX9_fraction_39 ?_
        refine lv_aload_n hx hb dX9_fraction_42 rfl (lv_at hl 0 rfl) ?_
        refine va_get (D := (dC, dI)) (ci := 9) (v := .ref (h 101)) (C := RX9) (T := TX9) (N := 9) hx hb hts hinX9 hown hK hP 0 rfl rfl 0 (by decide) (hts (.fieldLink RX9 12 "MixedWords" "mix" "LMixedWords$Mix;") (by decide +kernel)) (fun _ h9 => h9) rfl dX9_fraction_43 ?_
        refine va_get (D := (dC, dI)) (ci := 3) (v := .int (I 120)) (C := RX3) (T := TX3) (N := 6) hx hb hts hinX3 hown hK hP 10 rfl rfl 0 (by decide) (hts (.fieldLink RX9 147 "MixedWords$Mix" "height" "I") (by decide +kernel)) (fun _ h9 => h9) rfl dX9_fraction_46 ?_
        refine xt_i (y := nI R) (hR) ?_
        refine lv_aload_n hx hb dX9_fraction_49 rfl (lv_at hl 0 rfl) ?_
        refine va_get (D := (dC, dI)) (ci := 9) (v := .ref (h 101)) (C := RX9) (T := TX9) (N := 9) hx hb hts hinX9 hown hK hP 0 rfl rfl 0 (by decide) (hts (.fieldLink RX9 12 "MixedWords" "mix" "LMixedWords$Mix;") (by decide +kernel)) (fun _ h9 => h9) rfl dX9_fraction_50 ?_
        refine va_get (D := (dC, dI)) (ci := 3) (v := .int (I 121)) (C := RX3) (T := TX3) (N := 6) hx hb hts hinX3 hown hK hP 10 rfl rfl 1 (by decide) (hts (.fieldLink RX9 106 "MixedWords$Mix" "width" "I") (by decide +kernel)) (fun _ h9 => h9) rfl dX9_fraction_53 ?_
        refine xt_i (y := nI M) (hM) ?_
        refine xj_v (wc := (wSv h cs I L A Q G J)) (wr := [(h 100, .inr (9, [.ref (h 101), .ref (h 102), .ref (h 103), .ref (h 104), .ref (h 105), .ref (h 106), .ref (h 107), .ref (h 108), .ref (h 109)])), (h 101, .inr (3, [.int (I 120), .int (I 121), .int (I 122), .int (I 123), .ref (h 130), .ref (h 136)]))]) hP hD hS hA [1, 2, 3, 4, 5, 6, 7, 8, 9, 11, 12, 13, 14, 15, 16, 17] [0, 10] rfl rfl (by decide +kernel) (by decide +kernel) (va_runV (As := [.ref (h 130), .ref (h 136), .int (nI R), .int (nI M)]) (rest := []) ⟨hx, hb, hml, hown, hts⟩ (k_X2_solveM l dC dI h cs H.size I L A Q G J R M (by first | assumption | omega | exact hR5) (by first | assumption | omega | exact hM4)) (cwV 4 hts gX9_fraction_X2_solve rfl rfl rfl (by decide +kernel) ⟨Nat.le_of_ble_eq_true rfl, Nat.le_of_ble_eq_true rfl⟩) (xpV (wc := (wSv h cs I L A Q G J)) hP hD hK hN [1, 2, 3, 4, 5, 6, 7, 8, 9, 11, 12, 13, 14, 15, 16, 17] rfl (by decide) 1 (ci := 2) rfl rfl _) rfl rfl hl.1 rfl (lv_room (Nat.le_of_ble_eq_true rfl)) dX9_fraction_56 ⟨Nat.zero_le _, Nat.zero_le _⟩) (fun u_10 H locs hw hP hD hS => ?_)
        obtain ⟨l188_12, q185_13, q187_14, j0_15, hf_16, rfl⟩ := hw
        have hP : va_P (dC, dI) vwCl (wFL h cs I (va_up L 188 l188_12) A (va_up (va_up Q 185 q185_13) 187 q187_14) G (va_up J 0 j0_15)) H := xP_sub hP [0, 2, 3, 4, 5, 6, 7, 8, 9, 10, 1, 11, 12, 13, 14, 15, 16, 17] rfl
        have hD : va_D A0 (wFL h cs I (va_up L 188 l188_12) A (va_up (va_up Q 185 q185_13) 187 q187_14) G (va_up J 0 j0_15)) := hD.sub [0, 2, 3, 4, 5, 6, 7, 8, 9, 10, 1, 11, 12, 13, 14, 15, 16, 17] (by decide +kernel) rfl
        refine lv_aload_n hx hb dX9_fraction_59 rfl (lv_at hl 0 rfl) ?_
        refine va_get (D := (dC, dI)) (ci := 9) (v := .ref (h 106)) (C := RX9) (T := TX9) (N := 9) hx hb hts hinX9 hown hK hP 0 rfl rfl 5 (by decide) (hts (.fieldLink RX9 51 "MixedWords" "least" "LMixedWords$Least;") (by decide +kernel)) (fun _ h9 => h9) rfl dX9_fraction_60 ?_
        refine va_get (D := (dC, dI)) (ci := 2) (v := .long l188_12) (C := RX2) (T := TX2) (N := 5) hx hb hts hinX2 hown hK hP 1 rfl rfl 4 (by decide) (hts (.fieldLink RX9 192 "MixedWords$Least" "below" "J") (by decide +kernel)) (fun _ h9 => h9) rfl dX9_fraction_63 ?_
        refine lv_lconst (v := 0) hx hb dX9_fraction_66 rfl ?_
        refine xl_gt (tgt := 75) hx hb dX9_fraction_67 dX9_fraction_68 (by decide) (fun c_67_16 => ?_) (fun c_67_16 => ?_)
        · skip
          refine lv_aload_n hx hb dX9_fraction_75 rfl (lv_at hl 0 rfl) ?_
          refine va_get (D := (dC, dI)) (ci := 9) (v := .ref (h 106)) (C := RX9) (T := TX9) (N := 9) hx hb hts hinX9 hown hK hP 0 rfl rfl 5 (by decide) (hts (.fieldLink RX9 51 "MixedWords" "least" "LMixedWords$Least;") (by decide +kernel)) (fun _ h9 => h9) rfl dX9_fraction_76 ?_
          refine va_get (D := (dC, dI)) (ci := 2) (v := .ref (h 187)) (C := RX2) (T := TX2) (N := 5) hx hb hts hinX2 hown hK hP 1 rfl rfl 3 (by decide) (hts (.fieldLink RX9 196 "MixedWords$Least" "above" "[J") (by decide +kernel)) (fun _ h9 => h9) rfl dX9_fraction_79 ?_
          refine lv_iload_n hx hb dX9_fraction_82 rfl (lv_at hl 1 rfl) ?_
          refine xa_lald hx hb hK hP 9 1 rfl rfl (by omega) (by decide) dX9_fraction_83 ?_
          refine lv_lstore_n (lv' := [(3, .long (q187_14 i_4)), (0, .ref (h 100)), (1, .int (nI i_4)), (2, .int y)]) hx hb dX9_fraction_84 rfl hl (by decide) rfl (fun ls hl => ?_)
          refine lv_lconst (v := 1) hx hb dX9_fraction_85 rfl ?_
          refine lv_lload_n hx hb dX9_fraction_86 rfl (lv_at hl 0 rfl) ?_
          refine va_mabs_long hx hb (hml.trans hl.1.symm) hown (hts (.methodLink RX9 211 Lib.MathLoose.abs_long.x) (by decide +kernel)) (hts (.static Lib.MathLoose.abs_long.x) (by decide +kernel)) (hts (.initialized "java/lang/Math") (by decide +kernel)) (hts (.code Lib.MathLoose.abs_long.x Lib.MathLoose.abs_long.code 2 (some .long)) (by decide +kernel)) (Nat.le_of_ble_eq_true rfl) (Nat.le_of_ble_eq_true rfl) (Nat.zero_le _) (Nat.zero_le _) dX9_fraction_87 ?_
          refine lv_aload_n hx hb dX9_fraction_90 rfl (lv_at hl 1 rfl) ?_
          refine va_get (D := (dC, dI)) (ci := 9) (v := .ref (h 106)) (C := RX9) (T := TX9) (N := 9) hx hb hts hinX9 hown hK hP 0 rfl rfl 5 (by decide) (hts (.fieldLink RX9 51 "MixedWords" "least" "LMixedWords$Least;") (by decide +kernel)) (fun _ h9 => h9) rfl dX9_fraction_91 ?_
          refine va_get (D := (dC, dI)) (ci := 2) (v := .long l188_12) (C := RX2) (T := TX2) (N := 5) hx hb hts hinX2 hown hK hP 1 rfl rfl 4 (by decide) (hts (.fieldLink RX9 192 "MixedWords$Least" "below" "J") (by decide +kernel)) (fun _ h9 => h9) rfl dX9_fraction_94 ?_
          refine xj_l (wc := ([] : va_W)) (wr := (wFL h cs I (va_up L 188 l188_12) A (va_up (va_up Q 185 q185_13) 187 q187_14) G (va_up J 0 j0_15))) hP hD hS hA [] [0, 1, 2, 3, 4, 5, 6, 7, 8, 9, 10, 11, 12, 13, 14, 15, 16, 17] rfl rfl (by decide +kernel) (by decide +kernel) (va_runS (As := [.long (if 0 < (q187_14 i_4) then (q187_14 i_4) else -(q187_14 i_4)), .long l188_12]) (rest := [.long (1 : Int64)]) ⟨hx, hb, hml, hown, hts⟩ (k_X9_commonDivisor l dC dI h cs H.size I L A Q G J (if 0 < (q187_14 i_4) then (q187_14 i_4) else -(q187_14 i_4)) l188_12) (va_cwS 2 hts gX9_fraction_X9_commonDivisor rfl rfl rfl (by decide +kernel) ⟨Nat.le_of_ble_eq_true rfl, Nat.le_of_ble_eq_true rfl⟩) (xpS (wc := ([] : va_W)) hP hD hK hN [] rfl (by decide) _) rfl rfl hl.1 rfl (lv_room (Nat.le_of_ble_eq_true rfl)) dX9_fraction_97 ⟨Nat.zero_le _, Nat.zero_le _⟩) (fun r_19 u_18 H locs hw hP hD hS => ?_)
          obtain ⟨hf_20, rfl⟩ := hw
          have hP : va_P (dC, dI) vwCl (wFL h cs I (va_up L 188 l188_12) A (va_up (va_up Q 185 q185_13) 187 q187_14) G (va_up J 0 j0_15)) H := hP
          have hD : va_D A0 (wFL h cs I (va_up L 188 l188_12) A (va_up (va_up Q 185 q185_13) 187 q187_14) G (va_up J 0 j0_15)) := hD
          refine va_mmax_long hx hb (hml.trans hl.1.symm) hown (hts (.methodLink RX9 221 Lib.MathLoose.max_long.x) (by decide +kernel)) (hts (.static Lib.MathLoose.max_long.x) (by decide +kernel)) (hts (.initialized "java/lang/Math") (by decide +kernel)) (hts (.code Lib.MathLoose.max_long.x Lib.MathLoose.max_long.code 4 (some .long)) (by decide +kernel)) (Nat.le_of_ble_eq_true rfl) (Nat.le_of_ble_eq_true rfl) (Nat.zero_le _) (Nat.zero_le _) dX9_fraction_100 ?_
          refine lv_lstore (lv' := [(5, .long (if r_19 < (1 : Int64) then (1 : Int64) else r_19)), (3, .long (q187_14 i_4)), (0, .ref (h 100)), (1, .int (nI i_4)), (2, .int y)]) hx hb dX9_fraction_103 hl (by decide) rfl (fun ls hl => ?_)
          refine lv_iload_n hx hb dX9_fraction_105 rfl (lv_at hl 4 rfl) ?_
          refine lv_if_ne (tgt := 113) hx hb dX9_fraction_106 (by decide) (fun c_106_20 => ?_) (fun c_106_20 => ?_)
          · skip
            refine lv_aload_n hx hb dX9_fraction_113 rfl (lv_at hl 2 rfl) ?_
            refine va_get (D := (dC, dI)) (ci := 9) (v := .ref (h 106)) (C := RX9) (T := TX9) (N := 9) hx hb hts hinX9 hown hK hP 0 rfl rfl 5 (by decide) (hts (.fieldLink RX9 51 "MixedWords" "least" "LMixedWords$Least;") (by decide +kernel)) (fun _ h9 => h9) rfl dX9_fraction_114 ?_
            refine va_get (D := (dC, dI)) (ci := 2) (v := .long l188_12) (C := RX2) (T := TX2) (N := 5) hx hb hts hinX2 hown hK hP 1 rfl rfl 4 (by decide) (hts (.fieldLink RX9 192 "MixedWords$Least" "below" "J") (by decide +kernel)) (fun _ h9 => h9) rfl dX9_fraction_117 ?_
            refine lv_lload hx hb dX9_fraction_120 (lv_at hl 0 rfl) ?_
            refine lv_ldiv hx hb dX9_fraction_122 (mx_ne0) ?_
            exact xr_l (v := (l188_12 / (if r_19 < (1 : Int64) then (1 : Int64) else r_19))) hx hb hr hlocks hK hS dX9_fraction_123 (I, (va_up L 188 l188_12), A, (va_up (va_up Q 185 q185_13) 187 q187_14), G, (va_up J 0 j0_15)) ⟨l188_12, q185_13, q187_14, j0_15, trivial, rfl⟩ hP hD
          · skip
            refine lv_lload_n hx hb dX9_fraction_109 rfl (lv_at hl 1 rfl) ?_
            refine lv_goto (tgt := 120) hx hb dX9_fraction_110 (by decide) ?_
            refine lv_lload hx hb dX9_fraction_120 (lv_at hl 0 rfl) ?_
            refine lv_ldiv hx hb dX9_fraction_122 (mx_ne0) ?_
            exact xr_l (v := ((q187_14 i_4) / (if r_19 < (1 : Int64) then (1 : Int64) else r_19))) hx hb hr hlocks hK hS dX9_fraction_123 (I, (va_up L 188 l188_12), A, (va_up (va_up Q 185 q185_13) 187 q187_14), G, (va_up J 0 j0_15)) ⟨l188_12, q185_13, q187_14, j0_15, trivial, rfl⟩ hP hD
        · skip
          refine lv_ldc2 (v := (-1000000000000002)) hx hb hown (hts (.constantLong RX9 209 (-1000000000000002)) (by decide +kernel)) dX9_fraction_71 ?_
          exact xr_l (v := (-1000000000000002 : Int64)) hx hb hr hlocks hK hS dX9_fraction_74 (I, (va_up L 188 l188_12), A, (va_up (va_up Q 185 q185_13) 187 q187_14), G, (va_up J 0 j0_15)) ⟨l188_12, q185_13, q187_14, j0_15, trivial, rfl⟩ hP hD
      · skip
        refine lv_ldc2 (v := (-1000000000000001)) hx hb hown (hts (.constantLong RX9 207 (-1000000000000001)) (by decide +kernel)) dX9_fraction_20 ?_
        exact xr_l (v := (-1000000000000001 : Int64)) hx hb hr hlocks hK hS dX9_fraction_23 (I, (va_up L 188 (L 188)), A, (va_up (va_up Q 185 (Q 185)) 187 (Q 187)), G, (va_up J 0 (J 0))) ⟨(L 188), (Q 185), (Q 187), (J 0), trivial, rfl⟩ hP hD
  · skip
    refine lv_if_eq (tgt := 20) hx hb dX9_fraction_8 (by decide) (fun _ => ?_) (fun c9 => False.elim (by revert c9; decide +kernel))
    refine lv_ldc2 (v := (-1000000000000001)) hx hb hown (hts (.constantLong RX9 207 (-1000000000000001)) (by decide +kernel)) dX9_fraction_20 ?_
    exact xr_l (v := (-1000000000000001 : Int64)) hx hb hr hlocks hK hS dX9_fraction_23 (I, (va_up L 188 (L 188)), A, (va_up (va_up Q 185 (Q 185)) 187 (Q 187)), G, (va_up J 0 (J 0))) ⟨(L 188), (Q 185), (Q 187), (J 0), trivial, rfl⟩ hP hD
