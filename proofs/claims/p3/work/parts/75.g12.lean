def wFT (h : Nat → Nat) (cs : Nat → ClassId) (I : Nat → Int32) (L : Nat → Int64) (A : Nat → Nat → Int32) (Q : Nat → Nat → Int64) (G : Nat → Nat → Nat → Int32) (J : Nat → Nat → Nat → Int64) : va_W := [(h 100, .inr (9, [.ref (h 101), .ref (h 102), .ref (h 103), .ref (h 104), .ref (h 105), .ref (h 106), .ref (h 107), .ref (h 108), .ref (h 109)])), (h 103, .inr (7, [.ref (h 150), .int (I 151)])), (h 150, .inl (cs 2, 90, .inl (A 150)))]
def wFO (h : Nat → Nat) (cs : Nat → ClassId) (I : Nat → Int32) (L : Nat → Int64) (A : Nat → Nat → Int32) (Q : Nat → Nat → Int64) (G : Nat → Nat → Nat → Int32) (J : Nat → Nat → Nat → Int64) : va_W := [(h 100, .inr (9, [.ref (h 101), .ref (h 102), .ref (h 103), .ref (h 104), .ref (h 105), .ref (h 106), .ref (h 107), .ref (h 108), .ref (h 109)])), (h 105, .inr (8, [.ref (h 101), .ref (h 170), .ref (h 171), .ref (h 172), .int (I 173), .int (I 174)])), (h 170, .inl (cs 0, 256, .inl (A 170))), (h 171, .inl (cs 0, 256, .inl (A 171))), (h 172, .inl (cs 0, 256, .inl (A 172))), (h 101, .inr (3, [.int (I 120), .int (I 121), .int (I 122), .int (I 123), .ref (h 130), .ref (h 136)])), (h 130, .inl (cs 3, 5, .inr (.inr (.inr (.inr (fun i => if i < 5 then some (h (i + 131)) else none)))))), (h 131, .inl (cs 0, 4, .inl ((G 0) 0))), (h 132, .inl (cs 0, 4, .inl ((G 0) 1))), (h 133, .inl (cs 0, 4, .inl ((G 0) 2))), (h 134, .inl (cs 0, 4, .inl ((G 0) 3))), (h 135, .inl (cs 0, 4, .inl ((G 0) 4))), (h 136, .inl (cs 0, 5, .inl (A 136)))]
theorem wFO_atG0 {h : Nat → Nat} {cs : Nat → ClassId} {I : Nat → Int32} {L : Nat → Int64} {A : Nat → Nat → Int32} {Q : Nat → Nat → Int64} {G : Nat → Nat → Nat → Int32} {J : Nat → Nat → Nat → Int64} {k : Nat} (hk : k < 5) : (wFO h cs I L A Q G J)[7 + k]? = some (h (k + 131), .inl (cs 0, 4, .inl (G 0 k))) := by
  rcases (show k = 0 ∨ k = 1 ∨ k = 2 ∨ k = 3 ∨ k = 4 by omega) with rfl | rfl | rfl | rfl | rfl <;> rfl
theorem wFO_setG0 {h : Nat → Nat} {cs : Nat → ClassId} {I : Nat → Int32} {L : Nat → Int64} {A : Nat → Nat → Int32} {Q : Nat → Nat → Int64} {G : Nat → Nat → Nat → Int32} {J : Nat → Nat → Nat → Int64} {k : Nat} {f : Nat → Int32} (hk : k < 5) : (wFO h cs I L A Q G J).set (7 + k) (h (k + 131), .inl (cs 0, 4, .inl (f))) = wFO h cs I L A Q (va_up G 0 (va_up (G 0) k f)) J := by
  rcases (show k = 0 ∨ k = 1 ∨ k = 2 ∨ k = 3 ∨ k = 4 by omega) with rfl | rfl | rfl | rfl | rfl <;> rfl
def wFL (h : Nat → Nat) (cs : Nat → ClassId) (I : Nat → Int32) (L : Nat → Int64) (A : Nat → Nat → Int32) (Q : Nat → Nat → Int64) (G : Nat → Nat → Nat → Int32) (J : Nat → Nat → Nat → Int64) : va_W := [(h 100, .inr (9, [.ref (h 101), .ref (h 102), .ref (h 103), .ref (h 104), .ref (h 105), .ref (h 106), .ref (h 107), .ref (h 108), .ref (h 109)])), (h 106, .inr (2, [.ref (h 180), .ref (h 185), .ref (h 186), .ref (h 187), .long (L 188)])), (h 180, .inl (cs 4, 4, .inr (.inr (.inr (.inr (fun i => if i < 4 then some (h (i + 181)) else none)))))), (h 181, .inl (cs 1, 4, .inr (.inl ((J 0) 0)))), (h 182, .inl (cs 1, 4, .inr (.inl ((J 0) 1)))), (h 183, .inl (cs 1, 4, .inr (.inl ((J 0) 2)))), (h 184, .inl (cs 1, 4, .inr (.inl ((J 0) 3)))), (h 185, .inl (cs 1, 4, .inr (.inl (Q 185)))), (h 186, .inl (cs 0, 4, .inl (A 186))), (h 187, .inl (cs 1, 4, .inr (.inl (Q 187)))), (h 101, .inr (3, [.int (I 120), .int (I 121), .int (I 122), .int (I 123), .ref (h 130), .ref (h 136)])), (h 130, .inl (cs 3, 5, .inr (.inr (.inr (.inr (fun i => if i < 5 then some (h (i + 131)) else none)))))), (h 131, .inl (cs 0, 4, .inl ((G 0) 0))), (h 132, .inl (cs 0, 4, .inl ((G 0) 1))), (h 133, .inl (cs 0, 4, .inl ((G 0) 2))), (h 134, .inl (cs 0, 4, .inl ((G 0) 3))), (h 135, .inl (cs 0, 4, .inl ((G 0) 4))), (h 136, .inl (cs 0, 5, .inl (A 136)))]
theorem wFL_atJ0 {h : Nat → Nat} {cs : Nat → ClassId} {I : Nat → Int32} {L : Nat → Int64} {A : Nat → Nat → Int32} {Q : Nat → Nat → Int64} {G : Nat → Nat → Nat → Int32} {J : Nat → Nat → Nat → Int64} {k : Nat} (hk : k < 4) : (wFL h cs I L A Q G J)[3 + k]? = some (h (k + 181), .inl (cs 1, 4, .inr (.inl (J 0 k)))) := by
  rcases (show k = 0 ∨ k = 1 ∨ k = 2 ∨ k = 3 by omega) with rfl | rfl | rfl | rfl <;> rfl
theorem wFL_setJ0 {h : Nat → Nat} {cs : Nat → ClassId} {I : Nat → Int32} {L : Nat → Int64} {A : Nat → Nat → Int32} {Q : Nat → Nat → Int64} {G : Nat → Nat → Nat → Int32} {J : Nat → Nat → Nat → Int64} {k : Nat} {f : Nat → Int64} (hk : k < 4) : (wFL h cs I L A Q G J).set (3 + k) (h (k + 181), .inl (cs 1, 4, .inr (.inl (f)))) = wFL h cs I L A Q G (va_up J 0 (va_up (J 0) k f)) := by
  rcases (show k = 0 ∨ k = 1 ∨ k = 2 ∨ k = 3 by omega) with rfl | rfl | rfl | rfl <;> rfl
theorem wFL_atG0 {h : Nat → Nat} {cs : Nat → ClassId} {I : Nat → Int32} {L : Nat → Int64} {A : Nat → Nat → Int32} {Q : Nat → Nat → Int64} {G : Nat → Nat → Nat → Int32} {J : Nat → Nat → Nat → Int64} {k : Nat} (hk : k < 5) : (wFL h cs I L A Q G J)[12 + k]? = some (h (k + 131), .inl (cs 0, 4, .inl (G 0 k))) := by
  rcases (show k = 0 ∨ k = 1 ∨ k = 2 ∨ k = 3 ∨ k = 4 by omega) with rfl | rfl | rfl | rfl | rfl <;> rfl
theorem wFL_setG0 {h : Nat → Nat} {cs : Nat → ClassId} {I : Nat → Int32} {L : Nat → Int64} {A : Nat → Nat → Int32} {Q : Nat → Nat → Int64} {G : Nat → Nat → Nat → Int32} {J : Nat → Nat → Nat → Int64} {k : Nat} {f : Nat → Int32} (hk : k < 5) : (wFL h cs I L A Q G J).set (12 + k) (h (k + 131), .inl (cs 0, 4, .inl (f))) = wFL h cs I L A Q (va_up G 0 (va_up (G 0) k f)) J := by
  rcases (show k = 0 ∨ k = 1 ∨ k = 2 ∨ k = 3 ∨ k = 4 by omega) with rfl | rfl | rfl | rfl | rfl <;> rfl
def wFK (h : Nat → Nat) (cs : Nat → ClassId) (I : Nat → Int32) (L : Nat → Int64) (A : Nat → Nat → Int32) (Q : Nat → Nat → Int64) (G : Nat → Nat → Nat → Int32) (J : Nat → Nat → Nat → Int64) : va_W := [(h 100, .inr (9, [.ref (h 101), .ref (h 102), .ref (h 103), .ref (h 104), .ref (h 105), .ref (h 106), .ref (h 107), .ref (h 108), .ref (h 109)])), (h 107, .inr (6, [.ref (h 101), .ref (h 190), .ref (h 191), .ref (h 192)])), (h 190, .inl (cs 0, 5, .inl (A 190))), (h 191, .inl (cs 0, 4, .inl (A 191))), (h 192, .inl (cs 0, 4, .inl (A 192))), (h 101, .inr (3, [.int (I 120), .int (I 121), .int (I 122), .int (I 123), .ref (h 130), .ref (h 136)])), (h 130, .inl (cs 3, 5, .inr (.inr (.inr (.inr (fun i => if i < 5 then some (h (i + 131)) else none)))))), (h 131, .inl (cs 0, 4, .inl ((G 0) 0))), (h 132, .inl (cs 0, 4, .inl ((G 0) 1))), (h 133, .inl (cs 0, 4, .inl ((G 0) 2))), (h 134, .inl (cs 0, 4, .inl ((G 0) 3))), (h 135, .inl (cs 0, 4, .inl ((G 0) 4))), (h 136, .inl (cs 0, 5, .inl (A 136)))]
theorem wFK_atG0 {h : Nat → Nat} {cs : Nat → ClassId} {I : Nat → Int32} {L : Nat → Int64} {A : Nat → Nat → Int32} {Q : Nat → Nat → Int64} {G : Nat → Nat → Nat → Int32} {J : Nat → Nat → Nat → Int64} {k : Nat} (hk : k < 5) : (wFK h cs I L A Q G J)[7 + k]? = some (h (k + 131), .inl (cs 0, 4, .inl (G 0 k))) := by
  rcases (show k = 0 ∨ k = 1 ∨ k = 2 ∨ k = 3 ∨ k = 4 by omega) with rfl | rfl | rfl | rfl | rfl <;> rfl
theorem wFK_setG0 {h : Nat → Nat} {cs : Nat → ClassId} {I : Nat → Int32} {L : Nat → Int64} {A : Nat → Nat → Int32} {Q : Nat → Nat → Int64} {G : Nat → Nat → Nat → Int32} {J : Nat → Nat → Nat → Int64} {k : Nat} {f : Nat → Int32} (hk : k < 5) : (wFK h cs I L A Q G J).set (7 + k) (h (k + 131), .inl (cs 0, 4, .inl (f))) = wFK h cs I L A Q (va_up G 0 (va_up (G 0) k f)) J := by
  rcases (show k = 0 ∨ k = 1 ∨ k = 2 ∨ k = 3 ∨ k = 4 by omega) with rfl | rfl | rfl | rfl | rfl <;> rfl
def wFE (h : Nat → Nat) (cs : Nat → ClassId) (I : Nat → Int32) (L : Nat → Int64) (A : Nat → Nat → Int32) (Q : Nat → Nat → Int64) (G : Nat → Nat → Nat → Int32) (J : Nat → Nat → Nat → Int64) : va_W := [(h 100, .inr (9, [.ref (h 101), .ref (h 102), .ref (h 103), .ref (h 104), .ref (h 105), .ref (h 106), .ref (h 107), .ref (h 108), .ref (h 109)])), (h 108, .inr (1, [.ref (h 101), .ref (h 200), .ref (h 206), .ref (h 211), .int (I 212), .int (I 213)])), (h 200, .inl (cs 3, 5, .inr (.inr (.inr (.inr (fun i => if i < 5 then some (h (i + 201)) else none)))))), (h 201, .inl (cs 0, 4, .inl ((G 2) 0))), (h 202, .inl (cs 0, 4, .inl ((G 2) 1))), (h 203, .inl (cs 0, 4, .inl ((G 2) 2))), (h 204, .inl (cs 0, 4, .inl ((G 2) 3))), (h 205, .inl (cs 0, 4, .inl ((G 2) 4))), (h 206, .inl (cs 3, 4, .inr (.inr (.inr (.inr (fun i => if i < 4 then some (h (i + 207)) else none)))))), (h 207, .inl (cs 0, 4, .inl ((G 3) 0))), (h 208, .inl (cs 0, 4, .inl ((G 3) 1))), (h 209, .inl (cs 0, 4, .inl ((G 3) 2))), (h 210, .inl (cs 0, 4, .inl ((G 3) 3))), (h 211, .inl (cs 0, 5, .inl (A 211))), (h 101, .inr (3, [.int (I 120), .int (I 121), .int (I 122), .int (I 123), .ref (h 130), .ref (h 136)])), (h 130, .inl (cs 3, 5, .inr (.inr (.inr (.inr (fun i => if i < 5 then some (h (i + 131)) else none)))))), (h 131, .inl (cs 0, 4, .inl ((G 0) 0))), (h 132, .inl (cs 0, 4, .inl ((G 0) 1))), (h 133, .inl (cs 0, 4, .inl ((G 0) 2))), (h 134, .inl (cs 0, 4, .inl ((G 0) 3))), (h 135, .inl (cs 0, 4, .inl ((G 0) 4))), (h 136, .inl (cs 0, 5, .inl (A 136)))]
theorem wFE_atG2 {h : Nat → Nat} {cs : Nat → ClassId} {I : Nat → Int32} {L : Nat → Int64} {A : Nat → Nat → Int32} {Q : Nat → Nat → Int64} {G : Nat → Nat → Nat → Int32} {J : Nat → Nat → Nat → Int64} {k : Nat} (hk : k < 5) : (wFE h cs I L A Q G J)[3 + k]? = some (h (k + 201), .inl (cs 0, 4, .inl (G 2 k))) := by
  rcases (show k = 0 ∨ k = 1 ∨ k = 2 ∨ k = 3 ∨ k = 4 by omega) with rfl | rfl | rfl | rfl | rfl <;> rfl
theorem wFE_setG2 {h : Nat → Nat} {cs : Nat → ClassId} {I : Nat → Int32} {L : Nat → Int64} {A : Nat → Nat → Int32} {Q : Nat → Nat → Int64} {G : Nat → Nat → Nat → Int32} {J : Nat → Nat → Nat → Int64} {k : Nat} {f : Nat → Int32} (hk : k < 5) : (wFE h cs I L A Q G J).set (3 + k) (h (k + 201), .inl (cs 0, 4, .inl (f))) = wFE h cs I L A Q (va_up G 2 (va_up (G 2) k f)) J := by
  rcases (show k = 0 ∨ k = 1 ∨ k = 2 ∨ k = 3 ∨ k = 4 by omega) with rfl | rfl | rfl | rfl | rfl <;> rfl
theorem wFE_atG3 {h : Nat → Nat} {cs : Nat → ClassId} {I : Nat → Int32} {L : Nat → Int64} {A : Nat → Nat → Int32} {Q : Nat → Nat → Int64} {G : Nat → Nat → Nat → Int32} {J : Nat → Nat → Nat → Int64} {k : Nat} (hk : k < 4) : (wFE h cs I L A Q G J)[9 + k]? = some (h (k + 207), .inl (cs 0, 4, .inl (G 3 k))) := by
  rcases (show k = 0 ∨ k = 1 ∨ k = 2 ∨ k = 3 by omega) with rfl | rfl | rfl | rfl <;> rfl
theorem wFE_setG3 {h : Nat → Nat} {cs : Nat → ClassId} {I : Nat → Int32} {L : Nat → Int64} {A : Nat → Nat → Int32} {Q : Nat → Nat → Int64} {G : Nat → Nat → Nat → Int32} {J : Nat → Nat → Nat → Int64} {k : Nat} {f : Nat → Int32} (hk : k < 4) : (wFE h cs I L A Q G J).set (9 + k) (h (k + 207), .inl (cs 0, 4, .inl (f))) = wFE h cs I L A Q (va_up G 3 (va_up (G 3) k f)) J := by
  rcases (show k = 0 ∨ k = 1 ∨ k = 2 ∨ k = 3 by omega) with rfl | rfl | rfl | rfl <;> rfl
theorem wFE_atG0 {h : Nat → Nat} {cs : Nat → ClassId} {I : Nat → Int32} {L : Nat → Int64} {A : Nat → Nat → Int32} {Q : Nat → Nat → Int64} {G : Nat → Nat → Nat → Int32} {J : Nat → Nat → Nat → Int64} {k : Nat} (hk : k < 5) : (wFE h cs I L A Q G J)[16 + k]? = some (h (k + 131), .inl (cs 0, 4, .inl (G 0 k))) := by
  rcases (show k = 0 ∨ k = 1 ∨ k = 2 ∨ k = 3 ∨ k = 4 by omega) with rfl | rfl | rfl | rfl | rfl <;> rfl
theorem wFE_setG0 {h : Nat → Nat} {cs : Nat → ClassId} {I : Nat → Int32} {L : Nat → Int64} {A : Nat → Nat → Int32} {Q : Nat → Nat → Int64} {G : Nat → Nat → Nat → Int32} {J : Nat → Nat → Nat → Int64} {k : Nat} {f : Nat → Int32} (hk : k < 5) : (wFE h cs I L A Q G J).set (16 + k) (h (k + 131), .inl (cs 0, 4, .inl (f))) = wFE h cs I L A Q (va_up G 0 (va_up (G 0) k f)) J := by
  rcases (show k = 0 ∨ k = 1 ∨ k = 2 ∨ k = 3 ∨ k = 4 by omega) with rfl | rfl | rfl | rfl | rfl <;> rfl
def wFW (h : Nat → Nat) (cs : Nat → ClassId) (I : Nat → Int32) (L : Nat → Int64) (A : Nat → Nat → Int32) (Q : Nat → Nat → Int64) (G : Nat → Nat → Nat → Int32) (J : Nat → Nat → Nat → Int64) : va_W := [(h 100, .inr (9, [.ref (h 101), .ref (h 102), .ref (h 103), .ref (h 104), .ref (h 105), .ref (h 106), .ref (h 107), .ref (h 108), .ref (h 109)])), (h 108, .inr (1, [.ref (h 101), .ref (h 200), .ref (h 206), .ref (h 211), .int (I 212), .int (I 213)])), (h 200, .inl (cs 3, 5, .inr (.inr (.inr (.inr (fun i => if i < 5 then some (h (i + 201)) else none)))))), (h 201, .inl (cs 0, 4, .inl ((G 2) 0))), (h 202, .inl (cs 0, 4, .inl ((G 2) 1))), (h 203, .inl (cs 0, 4, .inl ((G 2) 2))), (h 204, .inl (cs 0, 4, .inl ((G 2) 3))), (h 205, .inl (cs 0, 4, .inl ((G 2) 4))), (h 206, .inl (cs 3, 4, .inr (.inr (.inr (.inr (fun i => if i < 4 then some (h (i + 207)) else none)))))), (h 207, .inl (cs 0, 4, .inl ((G 3) 0))), (h 208, .inl (cs 0, 4, .inl ((G 3) 1))), (h 209, .inl (cs 0, 4, .inl ((G 3) 2))), (h 210, .inl (cs 0, 4, .inl ((G 3) 3))), (h 211, .inl (cs 0, 5, .inl (A 211))), (h 106, .inr (2, [.ref (h 180), .ref (h 185), .ref (h 186), .ref (h 187), .long (L 188)])), (h 180, .inl (cs 4, 4, .inr (.inr (.inr (.inr (fun i => if i < 4 then some (h (i + 181)) else none)))))), (h 181, .inl (cs 1, 4, .inr (.inl ((J 0) 0)))), (h 182, .inl (cs 1, 4, .inr (.inl ((J 0) 1)))), (h 183, .inl (cs 1, 4, .inr (.inl ((J 0) 2)))), (h 184, .inl (cs 1, 4, .inr (.inl ((J 0) 3)))), (h 185, .inl (cs 1, 4, .inr (.inl (Q 185)))), (h 186, .inl (cs 0, 4, .inl (A 186))), (h 187, .inl (cs 1, 4, .inr (.inl (Q 187)))), (h 101, .inr (3, [.int (I 120), .int (I 121), .int (I 122), .int (I 123), .ref (h 130), .ref (h 136)])), (h 130, .inl (cs 3, 5, .inr (.inr (.inr (.inr (fun i => if i < 5 then some (h (i + 131)) else none)))))), (h 131, .inl (cs 0, 4, .inl ((G 0) 0))), (h 132, .inl (cs 0, 4, .inl ((G 0) 1))), (h 133, .inl (cs 0, 4, .inl ((G 0) 2))), (h 134, .inl (cs 0, 4, .inl ((G 0) 3))), (h 135, .inl (cs 0, 4, .inl ((G 0) 4))), (h 136, .inl (cs 0, 5, .inl (A 136)))]
theorem wFW_atG2 {h : Nat → Nat} {cs : Nat → ClassId} {I : Nat → Int32} {L : Nat → Int64} {A : Nat → Nat → Int32} {Q : Nat → Nat → Int64} {G : Nat → Nat → Nat → Int32} {J : Nat → Nat → Nat → Int64} {k : Nat} (hk : k < 5) : (wFW h cs I L A Q G J)[3 + k]? = some (h (k + 201), .inl (cs 0, 4, .inl (G 2 k))) := by
  rcases (show k = 0 ∨ k = 1 ∨ k = 2 ∨ k = 3 ∨ k = 4 by omega) with rfl | rfl | rfl | rfl | rfl <;> rfl
theorem wFW_setG2 {h : Nat → Nat} {cs : Nat → ClassId} {I : Nat → Int32} {L : Nat → Int64} {A : Nat → Nat → Int32} {Q : Nat → Nat → Int64} {G : Nat → Nat → Nat → Int32} {J : Nat → Nat → Nat → Int64} {k : Nat} {f : Nat → Int32} (hk : k < 5) : (wFW h cs I L A Q G J).set (3 + k) (h (k + 201), .inl (cs 0, 4, .inl (f))) = wFW h cs I L A Q (va_up G 2 (va_up (G 2) k f)) J := by
  rcases (show k = 0 ∨ k = 1 ∨ k = 2 ∨ k = 3 ∨ k = 4 by omega) with rfl | rfl | rfl | rfl | rfl <;> rfl
theorem wFW_atG3 {h : Nat → Nat} {cs : Nat → ClassId} {I : Nat → Int32} {L : Nat → Int64} {A : Nat → Nat → Int32} {Q : Nat → Nat → Int64} {G : Nat → Nat → Nat → Int32} {J : Nat → Nat → Nat → Int64} {k : Nat} (hk : k < 4) : (wFW h cs I L A Q G J)[9 + k]? = some (h (k + 207), .inl (cs 0, 4, .inl (G 3 k))) := by
  rcases (show k = 0 ∨ k = 1 ∨ k = 2 ∨ k = 3 by omega) with rfl | rfl | rfl | rfl <;> rfl
theorem wFW_setG3 {h : Nat → Nat} {cs : Nat → ClassId} {I : Nat → Int32} {L : Nat → Int64} {A : Nat → Nat → Int32} {Q : Nat → Nat → Int64} {G : Nat → Nat → Nat → Int32} {J : Nat → Nat → Nat → Int64} {k : Nat} {f : Nat → Int32} (hk : k < 4) : (wFW h cs I L A Q G J).set (9 + k) (h (k + 207), .inl (cs 0, 4, .inl (f))) = wFW h cs I L A Q (va_up G 3 (va_up (G 3) k f)) J := by
  rcases (show k = 0 ∨ k = 1 ∨ k = 2 ∨ k = 3 by omega) with rfl | rfl | rfl | rfl <;> rfl
theorem wFW_atJ0 {h : Nat → Nat} {cs : Nat → ClassId} {I : Nat → Int32} {L : Nat → Int64} {A : Nat → Nat → Int32} {Q : Nat → Nat → Int64} {G : Nat → Nat → Nat → Int32} {J : Nat → Nat → Nat → Int64} {k : Nat} (hk : k < 4) : (wFW h cs I L A Q G J)[16 + k]? = some (h (k + 181), .inl (cs 1, 4, .inr (.inl (J 0 k)))) := by
  rcases (show k = 0 ∨ k = 1 ∨ k = 2 ∨ k = 3 by omega) with rfl | rfl | rfl | rfl <;> rfl
theorem wFW_setJ0 {h : Nat → Nat} {cs : Nat → ClassId} {I : Nat → Int32} {L : Nat → Int64} {A : Nat → Nat → Int32} {Q : Nat → Nat → Int64} {G : Nat → Nat → Nat → Int32} {J : Nat → Nat → Nat → Int64} {k : Nat} {f : Nat → Int64} (hk : k < 4) : (wFW h cs I L A Q G J).set (16 + k) (h (k + 181), .inl (cs 1, 4, .inr (.inl (f)))) = wFW h cs I L A Q G (va_up J 0 (va_up (J 0) k f)) := by
  rcases (show k = 0 ∨ k = 1 ∨ k = 2 ∨ k = 3 by omega) with rfl | rfl | rfl | rfl <;> rfl
theorem wFW_atG0 {h : Nat → Nat} {cs : Nat → ClassId} {I : Nat → Int32} {L : Nat → Int64} {A : Nat → Nat → Int32} {Q : Nat → Nat → Int64} {G : Nat → Nat → Nat → Int32} {J : Nat → Nat → Nat → Int64} {k : Nat} (hk : k < 5) : (wFW h cs I L A Q G J)[25 + k]? = some (h (k + 131), .inl (cs 0, 4, .inl (G 0 k))) := by
  rcases (show k = 0 ∨ k = 1 ∨ k = 2 ∨ k = 3 ∨ k = 4 by omega) with rfl | rfl | rfl | rfl | rfl <;> rfl
theorem wFW_setG0 {h : Nat → Nat} {cs : Nat → ClassId} {I : Nat → Int32} {L : Nat → Int64} {A : Nat → Nat → Int32} {Q : Nat → Nat → Int64} {G : Nat → Nat → Nat → Int32} {J : Nat → Nat → Nat → Int64} {k : Nat} {f : Nat → Int32} (hk : k < 5) : (wFW h cs I L A Q G J).set (25 + k) (h (k + 131), .inl (cs 0, 4, .inl (f))) = wFW h cs I L A Q (va_up G 0 (va_up (G 0) k f)) J := by
  rcases (show k = 0 ∨ k = 1 ∨ k = 2 ∨ k = 3 ∨ k = 4 by omega) with rfl | rfl | rfl | rfl | rfl <;> rfl

theorem bad_lo {x : Int32} {k i : Nat} (hk : k < 2147483648) (hi : i < 2147483648) (h : x < nI k) (e : x = nI i) : i < k := by
  rw [e, Int32.lt_iff_toInt_lt, nI_toInt hi, nI_toInt hk] at h
  omega
theorem bad_hi {x : Int32} {k i : Nat} (hk : k < 2147483648) (hi : i < 2147483648) (h : nI k < x) (e : x = nI i) : k < i := by
  rw [e, Int32.lt_iff_toInt_lt, nI_toInt hi, nI_toInt hk] at h
  omega
theorem rgN {x : Int32} {lo hi : Nat} (hh : hi < 2147483648) (hl : lo < 2147483648) (h1 : ¬ x < nI lo) (h2 : ¬ nI hi < x) : ∃ i : Nat, lo ≤ i ∧ i ≤ hi ∧ x = nI i := by
  rw [Int32.lt_iff_toInt_lt, nI_toInt hl] at h1
  rw [Int32.lt_iff_toInt_lt, nI_toInt hh] at h2
  obtain ⟨e, -⟩ := nI_at (x := x) (by omega)
  exact ⟨x.toInt.toNat, by omega, by omega, e⟩
theorem mx_ne0 {y : Int64} : ¬ (if y < 1 then (1 : Int64) else y) = 0 := by
  split
  · decide
  · rename_i h
    intro e
    rw [e] at h
    exact h (by decide)
theorem shl_pw {M : Nat} (h : M ≤ 4) : nI 1 <<< (nI M &&& 31) = nI (2 ^ M) := by
  have : M = 0 ∨ M = 1 ∨ M = 2 ∨ M = 3 ∨ M = 4 := by omega
  rcases this with rfl | rfl | rfl | rfl | rfl <;> decide
set_option maxRecDepth 20000 in
theorem ggX9_type_X7_takes : GoodIn wsX9_type wsX7_takes := goodIn_r _ [5, 6, 7, 4, 8, 9] (by decide +kernel) (by decide +kernel)
set_option maxRecDepth 20000 in
theorem gX9_type_X7_takes : GoodIn wsX9_type (va_wsS RX9 127 yX7_takes wsX7_takes) := goodIn_app (goodIn_of _ (by decide +kernel)) ggX9_type_X7_takes
set_option maxRecDepth 20000 in
theorem ggX9_type_X7_hasRoom : GoodIn wsX9_type wsX7_hasRoom := goodIn_r _ [13, 14, 29, 30] (by decide +kernel) (by decide +kernel)
set_option maxRecDepth 20000 in
theorem gX9_type_X7_hasRoom : GoodIn wsX9_type (wsV RX9 130 RX7 yX7_hasRoom wsX7_hasRoom) := goodIn_app (goodIn_of _ (by decide +kernel)) ggX9_type_X7_hasRoom
set_option maxRecDepth 20000 in
theorem ggX9_type_X7_append : GoodIn wsX9_type wsX7_append := goodIn_r _ [18, 19, 14, 6, 7, 4, 8, 9, 29, 30] (by decide +kernel) (by decide +kernel)
set_option maxRecDepth 20000 in
theorem gX9_type_X7_append : GoodIn wsX9_type (wsV RX9 133 RX7 yX7_append wsX7_append) := goodIn_app (goodIn_of _ (by decide +kernel)) ggX9_type_X7_append
theorem bdX9_type_0 : (decode cX9_type 0 = .ok (.iload_n 3, 1)) ∧ (decode cX9_type 1 = .ok (.iconst 1, 1)) ∧ (decode cX9_type 2 = .ok (.if_icmp .lt 17, 3)) ∧ (decode cX9_type 5 = .ok (.iload_n 3, 1)) ∧ (decode cX9_type 6 = .ok (.bipush 8, 2)) ∧ (decode cX9_type 8 = .ok (.if_icmp .gt 11, 3)) ∧ (decode cX9_type 11 = .ok (.lload_n 1, 1)) ∧ (decode cX9_type 12 = .ok (.iload_n 3, 1)) ∧ (decode cX9_type 13 = .ok (.invokestatic 127, 3)) ∧ (decode cX9_type 16 = .ok (.ifCond .ne 5, 3)) ∧ (decode cX9_type 19 = .ok (.iconst (-1), 1)) ∧ (decode cX9_type 20 = .ok (.ireturn, 1)) ∧ (decode cX9_type 21 = .ok (.aload_n 0, 1)) ∧ (decode cX9_type 22 = .ok (.getfield 28, 3)) ∧ (decode cX9_type 25 = .ok (.iload_n 3, 1)) ∧ (decode cX9_type 26 = .ok (.invokevirtual 130, 3)) := by decide +kernel
theorem dX9_type_0 : decode cX9_type 0 = .ok (.iload_n 3, 1) := bdX9_type_0.1
theorem dX9_type_1 : decode cX9_type 1 = .ok (.iconst 1, 1) := bdX9_type_0.2.1
theorem dX9_type_2 : decode cX9_type 2 = .ok (.if_icmp .lt 17, 3) := bdX9_type_0.2.2.1
theorem dX9_type_5 : decode cX9_type 5 = .ok (.iload_n 3, 1) := bdX9_type_0.2.2.2.1
theorem dX9_type_6 : decode cX9_type 6 = .ok (.bipush 8, 2) := bdX9_type_0.2.2.2.2.1
theorem dX9_type_8 : decode cX9_type 8 = .ok (.if_icmp .gt 11, 3) := bdX9_type_0.2.2.2.2.2.1
theorem dX9_type_11 : decode cX9_type 11 = .ok (.lload_n 1, 1) := bdX9_type_0.2.2.2.2.2.2.1
theorem dX9_type_12 : decode cX9_type 12 = .ok (.iload_n 3, 1) := bdX9_type_0.2.2.2.2.2.2.2.1
theorem dX9_type_13 : decode cX9_type 13 = .ok (.invokestatic 127, 3) := bdX9_type_0.2.2.2.2.2.2.2.2.1
theorem dX9_type_16 : decode cX9_type 16 = .ok (.ifCond .ne 5, 3) := bdX9_type_0.2.2.2.2.2.2.2.2.2.1
theorem dX9_type_19 : decode cX9_type 19 = .ok (.iconst (-1), 1) := bdX9_type_0.2.2.2.2.2.2.2.2.2.2.1
theorem dX9_type_20 : decode cX9_type 20 = .ok (.ireturn, 1) := bdX9_type_0.2.2.2.2.2.2.2.2.2.2.2.1
theorem dX9_type_21 : decode cX9_type 21 = .ok (.aload_n 0, 1) := bdX9_type_0.2.2.2.2.2.2.2.2.2.2.2.2.1
theorem dX9_type_22 : decode cX9_type 22 = .ok (.getfield 28, 3) := bdX9_type_0.2.2.2.2.2.2.2.2.2.2.2.2.2.1
theorem dX9_type_25 : decode cX9_type 25 = .ok (.iload_n 3, 1) := bdX9_type_0.2.2.2.2.2.2.2.2.2.2.2.2.2.2.1
theorem dX9_type_26 : decode cX9_type 26 = .ok (.invokevirtual 130, 3) := bdX9_type_0.2.2.2.2.2.2.2.2.2.2.2.2.2.2.2
theorem bdX9_type_29 : (decode cX9_type 29 = .ok (.ifCond .eq 15, 3)) ∧ (decode cX9_type 32 = .ok (.aload_n 0, 1)) ∧ (decode cX9_type 33 = .ok (.getfield 28, 3)) ∧ (decode cX9_type 36 = .ok (.lload_n 1, 1)) ∧ (decode cX9_type 37 = .ok (.iload_n 3, 1)) ∧ (decode cX9_type 38 = .ok (.invokevirtual 133, 3)) ∧ (decode cX9_type 41 = .ok (.goto 5, 3)) ∧ (decode cX9_type 44 = .ok (.bipush (-3), 2)) ∧ (decode cX9_type 46 = .ok (.ireturn, 1)) := by decide +kernel
theorem dX9_type_29 : decode cX9_type 29 = .ok (.ifCond .eq 15, 3) := bdX9_type_29.1
theorem dX9_type_32 : decode cX9_type 32 = .ok (.aload_n 0, 1) := bdX9_type_29.2.1
theorem dX9_type_33 : decode cX9_type 33 = .ok (.getfield 28, 3) := bdX9_type_29.2.2.1
theorem dX9_type_36 : decode cX9_type 36 = .ok (.lload_n 1, 1) := bdX9_type_29.2.2.2.1
theorem dX9_type_37 : decode cX9_type 37 = .ok (.iload_n 3, 1) := bdX9_type_29.2.2.2.2.1
theorem dX9_type_38 : decode cX9_type 38 = .ok (.invokevirtual 133, 3) := bdX9_type_29.2.2.2.2.2.1
theorem dX9_type_41 : decode cX9_type 41 = .ok (.goto 5, 3) := bdX9_type_29.2.2.2.2.2.2.1
theorem dX9_type_44 : decode cX9_type 44 = .ok (.bipush (-3), 2) := bdX9_type_29.2.2.2.2.2.2.2.1
theorem dX9_type_46 : decode cX9_type 46 = .ok (.ireturn, 1) := bdX9_type_29.2.2.2.2.2.2.2.2
set_option maxHeartbeats 4000000 in
set_option maxRecDepth 100000 in
theorem k_X9_type (l : Launch) (dC : Nat → ClassId) (dI : Nat → Nat → Nat) (h : Nat → Nat) (cs : Nat → ClassId) (sz : Nat) (I : Nat → Int32) (L : Nat → Int64) (A : Nat → Nat → Int32) (Q : Nat → Nat → Int64) (G : Nat → Nat → Nat → Int32) (J : Nat → Nat → Nat → Int64) (w : Int64) (x : Int32) (T : Nat) (hT : I 151 = nI T) (hT9 : T ≤ 90) : Met l yX9_type wsX9_type ({ frames := 2, cells := 0, slots := 0, locals := 46 }) (va_Pc [.ref (h 100), .long w, .int x] (xPre (dC, dI) (wFT h cs I L A Q G J) (tysA cs) sz)) (va_Qi (fun (r : Int32) (u : CS) => ∃ i151 : Int32, ∃ a150 : Nat → Int32, ((∃ n : Nat, 1 ≤ n ∧ n ≤ 8 ∧ x = nI n ∧ r = nI (T + n) ∧ (∀ t : Nat, t < n → okB w t) ∧ T + n ≤ 90 ∧ i151 = nI (T + n) ∧ (∀ q : Nat, q < T → a150 q = A 150 q) ∧ ∀ i : Nat, i < n → a150 (T + (n - 1 - i)) = byteC w i) ∨ (∃ n : Nat, 1 ≤ n ∧ n ≤ 8 ∧ x = nI n ∧ r = -3 ∧ (∀ t : Nat, t < n → okB w t) ∧ 90 < T + n ∧ i151 = I 151 ∧ a150 = A 150) ∨ (r = -1 ∧ (∀ n : Nat, 1 ≤ n → n ≤ 8 → x = nI n → (∀ t : Nat, t < n → okB w t) → False) ∧ i151 = I 151 ∧ a150 = A 150)) ∧ u = ((va_up I 151 i151), L, (va_up A 150 a150), Q, G, J)) (xB (dC, dI) (tysA cs) (va_A (wFT h cs I L A Q G J) sz) (fun u : CS => wFT h cs u.1 u.2.1 u.2.2.1 u.2.2.2.1 u.2.2.2.2.1 u.2.2.2.2.2)) (va_A (wFT h cs I L A Q G J) sz)) 0 0 (va_A (wFT h cs I L A Q G J) sz) := by
  refine Met.ofW (cc := cX9_type) (maxL := 4) (ret := (some .int)) (by decide) rfl ?_
  intro p e s m args below meth c s₁ B hml hv
  obtain ⟨rfl, hsz, hP, hK, hD0, hN⟩ := hv
  have hx := B.exec
  have hb := B.bytes
  have hr := B.returns
  have hts := atoms_spec (ws := wsX9_type) B.pre
  have hown : s.vm.findClass RX9 = some m.cls := findClass_of_methodNamed B.named
  have hlocks := B.notSynchronized
  subst hsz
  have hD := hD0.self (sz := s.heap.size)
  generalize hAe : va_A (wFT h cs I L A Q G J) s.heap.size = A0 at hD ⊢
  have hA : ∀ q : Nat, s.heap.size ≤ q → A0 q := fun q h => by rw [← hAe]; exact Or.inr h
  have hl := lv_entry ([.ref (h 100), .long w, .int x]) (n := 4) (Nat.le_of_ble_eq_true rfl)
  rw [lg_entry_eq]
  generalize (lg_sl ([.ref (h 100), .long w, .int x]) ++ List.replicate (4 - (lg_sl ([.ref (h 100), .long w, .int x])).length) Slot.unset).toArray = ls at hl ⊢
  have hl : lv_has ls 4 [(0, .ref (h 100)), (1, .long w), (3, .int x)] := hl
  generalize hH : s.heap = H at hP ⊢
  have hS : va_S A0 s.heap H [] := by rw [← hH]; exact va_S.rf
  have hinX9 : ∀ w ∈ wsX90, w ∈ wsX9_type := by decide +kernel
  refine lv_iload_n hx hb dX9_type_0 rfl (lv_at hl 2 rfl) ?_
  refine lv_iconst (v := nI 1) hx hb dX9_type_1 (by decide) ?_
  refine lv_icmp_lt (tgt := 19) hx hb dX9_type_2 (by decide) (fun c_2_0 => ?_) (fun c_2_0 => ?_)
  · skip
    refine lv_iconst (v := (-1)) hx hb dX9_type_19 (by decide) ?_
    exact xr_i (v := (-1)) hx hb hr hlocks hK hS dX9_type_20 ((va_up I 151 (I 151)), L, (va_up A 150 (A 150)), Q, G, J) ⟨(I 151), (A 150), (Or.inr (Or.inr ⟨rfl, fun n a9 b9 e9 g9 => by first | (have q9 := bad_lo (k := 1) (by omega) (by omega) (by assumption) e9; omega) | (have q9 := bad_hi (k := 8) (by omega) (by omega) (by assumption) e9; omega), rfl, rfl⟩)), rfl⟩ hP hD
  · skip
    refine lv_iload_n hx hb dX9_type_5 rfl (lv_at hl 2 rfl) ?_
    refine lv_bipush (v := nI 8) hx hb dX9_type_6 (by decide) ?_
    refine lv_icmp_gt (tgt := 19) hx hb dX9_type_8 (by decide) (fun c_8_1 => ?_) (fun c_8_1 => ?_)
    · skip
      refine lv_iconst (v := (-1)) hx hb dX9_type_19 (by decide) ?_
      exact xr_i (v := (-1)) hx hb hr hlocks hK hS dX9_type_20 ((va_up I 151 (I 151)), L, (va_up A 150 (A 150)), Q, G, J) ⟨(I 151), (A 150), (Or.inr (Or.inr ⟨rfl, fun n a9 b9 e9 g9 => by first | (have q9 := bad_lo (k := 1) (by omega) (by omega) (by assumption) e9; omega) | (have q9 := bad_hi (k := 8) (by omega) (by omega) (by assumption) e9; omega), rfl, rfl⟩)), rfl⟩ hP hD
    · skip
      obtain ⟨n9, h1n9, h2n9, hxn9⟩ := rgN (x := x) (lo := 1) (hi := 8) (by omega) (by omega) (by first | assumption | exact Int32.not_lt.mpr (by assumption)) (by first | assumption | exact Int32.not_lt.mpr (by assumption))
      rw [hxn9] at hl
      refine lv_lload_n hx hb dX9_type_11 rfl (lv_at hl 1 rfl) ?_
      refine lv_iload_n hx hb dX9_type_12 rfl (lv_at hl 2 rfl) ?_
      refine xj_i (wc := ([] : va_W)) (wr := (wFT h cs I L A Q G J)) hP hD hS hA [] [0, 1, 2] rfl rfl (by decide) (by decide) (va_runS (As := [.long w, .int (nI n9)]) (rest := []) ⟨hx, hb, hml, hown, hts⟩ (k_X7_takes l dC dI h cs H.size I L A Q G J w n9 (by first | assumption | omega)) (va_cwS 2 hts gX9_type_X7_takes rfl rfl rfl (by decide +kernel) ⟨Nat.le_of_ble_eq_true rfl, Nat.le_of_ble_eq_true rfl⟩) (xpS (wc := ([] : va_W)) hP hD hK hN [] rfl (by decide) _) rfl rfl hl.1 rfl (lv_room (Nat.le_of_ble_eq_true rfl)) dX9_type_13 ⟨Nat.zero_le _, Nat.zero_le _⟩) (fun r_4 u_3 H locs hw hP hD hS => ?_)
      obtain ⟨hf_5, rfl⟩ := hw
      have hP : va_P (dC, dI) vwCl (wFT h cs I L A Q G J) H := hP
      have hD : va_D A0 (wFT h cs I L A Q G J) := hD
      rcases hf_5 with ⟨rfl, htk_6⟩ | ⟨rfl, htk_6⟩
      · skip
        refine lv_if_ne (tgt := 21) hx hb dX9_type_16 (by decide) (fun _ => ?_) (fun c9 => False.elim (by revert c9; decide +kernel))
        refine lv_aload_n hx hb dX9_type_21 rfl (lv_at hl 0 rfl) ?_
        refine va_get (D := (dC, dI)) (ci := 9) (v := .ref (h 103)) (C := RX9) (T := TX9) (N := 9) hx hb hts hinX9 hown hK hP 0 rfl rfl 2 (by decide) (hts (.fieldLink RX9 28 "MixedWords" "tape" "LMixedWords$Tape;") (by decide +kernel)) (fun _ h9 => h9) rfl dX9_type_22 ?_
        refine lv_iload_n hx hb dX9_type_25 rfl (lv_at hl 2 rfl) ?_
        refine xj_i (wc := (wTape h cs I L A Q G J)) (wr := [(h 100, .inr (9, [.ref (h 101), .ref (h 102), .ref (h 103), .ref (h 104), .ref (h 105), .ref (h 106), .ref (h 107), .ref (h 108), .ref (h 109)]))]) hP hD hS hA [1, 2] [0] rfl rfl (by decide) (by decide) (va_runV (As := [.int (nI n9)]) (rest := []) ⟨hx, hb, hml, hown, hts⟩ (k_X7_hasRoom l dC dI h cs H.size I L A Q G J n9 T (by first | assumption | omega) hT (by first | assumption | omega | exact hT9)) (cwV 1 hts gX9_type_X7_hasRoom rfl rfl rfl (by decide +kernel) ⟨Nat.le_of_ble_eq_true rfl, Nat.le_of_ble_eq_true rfl⟩) (xpV (wc := (wTape h cs I L A Q G J)) hP hD hK hN [1, 2] rfl (by decide) 1 (ci := 7) rfl rfl _) rfl rfl hl.1 rfl (lv_room (Nat.le_of_ble_eq_true rfl)) dX9_type_26 ⟨Nat.zero_le _, Nat.zero_le _⟩) (fun r_8 u_7 H locs hw hP hD hS => ?_)
        obtain ⟨hf_9, rfl⟩ := hw
        have hP : va_P (dC, dI) vwCl (wFT h cs I L A Q G J) H := hP
        have hD : va_D A0 (wFT h cs I L A Q G J) := hD
        rcases hf_9 with ⟨rfl, hrm_10⟩ | ⟨rfl, hrm_10⟩
        · skip
          refine lv_if_eq (tgt := 44) hx hb dX9_type_29 (by decide) (fun c9 => False.elim (by revert c9; decide +kernel)) (fun _ => ?_)
          refine lv_aload_n hx hb dX9_type_32 rfl (lv_at hl 0 rfl) ?_
          refine va_get (D := (dC, dI)) (ci := 9) (v := .ref (h 103)) (C := RX9) (T := TX9) (N := 9) hx hb hts hinX9 hown hK hP 0 rfl rfl 2 (by decide) (hts (.fieldLink RX9 28 "MixedWords" "tape" "LMixedWords$Tape;") (by decide +kernel)) (fun _ h9 => h9) rfl dX9_type_33 ?_
          refine lv_lload_n hx hb dX9_type_36 rfl (lv_at hl 1 rfl) ?_
          refine lv_iload_n hx hb dX9_type_37 rfl (lv_at hl 2 rfl) ?_
          refine xj_i (wc := (wTape h cs I L A Q G J)) (wr := [(h 100, .inr (9, [.ref (h 101), .ref (h 102), .ref (h 103), .ref (h 104), .ref (h 105), .ref (h 106), .ref (h 107), .ref (h 108), .ref (h 109)]))]) hP hD hS hA [1, 2] [0] rfl rfl (by decide) (by decide) (va_runV (As := [.long w, .int (nI n9)]) (rest := []) ⟨hx, hb, hml, hown, hts⟩ (k_X7_append l dC dI h cs H.size I L A Q G J w n9 T (by first | assumption | omega) (by first | assumption | omega) (by first | assumption | omega) hT (by first | assumption | omega | exact hT9)) (cwV 2 hts gX9_type_X7_append rfl rfl rfl (by decide +kernel) ⟨Nat.le_of_ble_eq_true rfl, Nat.le_of_ble_eq_true rfl⟩) (xpV (wc := (wTape h cs I L A Q G J)) hP hD hK hN [1, 2] rfl (by decide) 1 (ci := 7) rfl rfl _) rfl rfl hl.1 rfl (lv_room (Nat.le_of_ble_eq_true rfl)) dX9_type_38 ⟨Nat.zero_le _, Nat.zero_le _⟩) (fun r_12 u_11 H locs hw hP hD hS => ?_)
          obtain ⟨x151_13, f150_14, hf_15, rfl⟩ := hw
          have hP : va_P (dC, dI) vwCl (wFT h cs (va_up I 151 x151_13) L (va_up A 150 f150_14) Q G J) H := hP
          have hD : va_D A0 (wFT h cs (va_up I 151 x151_13) L (va_up A 150 f150_14) Q G J) := hD
          refine lv_goto (tgt := 46) hx hb dX9_type_41 (by decide) ?_
          exact xr_i (v := r_12) hx hb hr hlocks hK hS dX9_type_46 ((va_up I 151 x151_13), L, (va_up A 150 f150_14), Q, G, J) ⟨x151_13, f150_14, (Or.inl ⟨n9, h1n9, h2n9, hxn9, hf_15.1, htk_6, hrm_10, hf_15.2.1, hf_15.2.2.1, hf_15.2.2.2⟩), rfl⟩ hP hD
        · skip
          refine lv_if_eq (tgt := 44) hx hb dX9_type_29 (by decide) (fun _ => ?_) (fun c9 => False.elim (by revert c9; decide +kernel))
          refine lv_bipush (v := (-3)) hx hb dX9_type_44 (by decide) ?_
          exact xr_i (v := (-3)) hx hb hr hlocks hK hS dX9_type_46 ((va_up I 151 (I 151)), L, (va_up A 150 (A 150)), Q, G, J) ⟨(I 151), (A 150), (Or.inr (Or.inl ⟨n9, h1n9, h2n9, hxn9, rfl, htk_6, hrm_10, rfl, rfl⟩)), rfl⟩ hP hD
      · skip
        refine lv_if_ne (tgt := 21) hx hb dX9_type_16 (by decide) (fun c9 => False.elim (by revert c9; decide +kernel)) (fun _ => ?_)
        refine lv_iconst (v := (-1)) hx hb dX9_type_19 (by decide) ?_
        exact xr_i (v := (-1)) hx hb hr hlocks hK hS dX9_type_20 ((va_up I 151 (I 151)), L, (va_up A 150 (A 150)), Q, G, J) ⟨(I 151), (A 150), (Or.inr (Or.inr ⟨rfl, fun n a9 b9 e9 g9 => htk_6 (by rw [(nI_eq (by omega) (by omega)).mp (hxn9.symm.trans e9)]; exact g9), rfl, rfl⟩)), rfl⟩ hP hD
set_option maxRecDepth 20000 in
theorem ggX9_table_X3_reshape : GoodIn wsX9_table wsX3_reshape := goodIn_r _ [7, 8, 9, 10, 11, 12, 13, 14, 15, 16, 34, 35, 36, 37, 38, 39] (by decide +kernel) (by decide +kernel)
set_option maxRecDepth 20000 in
theorem gX9_table_X3_reshape : GoodIn wsX9_table (wsV RX9 76 RX3 yX3_reshape wsX3_reshape) := goodIn_app (goodIn_of _ (by decide +kernel)) ggX9_table_X3_reshape
set_option maxRecDepth 20000 in
theorem ggX9_table_X0_forget : GoodIn wsX9_table wsX0_forget := goodIn_r _ [21, 22, 23, 24, 40, 41, 42, 43, 44, 45, 46, 47] (by decide +kernel) (by decide +kernel)
set_option maxRecDepth 20000 in
theorem gX9_table_X0_forget : GoodIn wsX9_table (wsV RX9 80 RX0 yX0_forget wsX0_forget) := goodIn_app (goodIn_of _ (by decide +kernel)) ggX9_table_X0_forget
theorem bdX9_table_0 : (decode cX9_table 0 = .ok (.iload_n 1, 1)) ∧ (decode cX9_table 1 = .ok (.iconst 1, 1)) ∧ (decode cX9_table 2 = .ok (.if_icmp .lt 18, 3)) ∧ (decode cX9_table 5 = .ok (.iload_n 1, 1)) ∧ (decode cX9_table 6 = .ok (.iconst 5, 1)) ∧ (decode cX9_table 7 = .ok (.if_icmp .gt 13, 3)) ∧ (decode cX9_table 10 = .ok (.iload_n 2, 1)) ∧ (decode cX9_table 11 = .ok (.iconst 1, 1)) ∧ (decode cX9_table 12 = .ok (.if_icmp .lt 8, 3)) ∧ (decode cX9_table 15 = .ok (.iload_n 2, 1)) ∧ (decode cX9_table 16 = .ok (.iconst 4, 1)) ∧ (decode cX9_table 17 = .ok (.if_icmp .le 5, 3)) ∧ (decode cX9_table 20 = .ok (.iconst (-1), 1)) ∧ (decode cX9_table 21 = .ok (.ireturn, 1)) ∧ (decode cX9_table 22 = .ok (.aload_n 0, 1)) ∧ (decode cX9_table 23 = .ok (.getfield 12, 3)) := by decide +kernel
theorem dX9_table_0 : decode cX9_table 0 = .ok (.iload_n 1, 1) := bdX9_table_0.1
theorem dX9_table_1 : decode cX9_table 1 = .ok (.iconst 1, 1) := bdX9_table_0.2.1
theorem dX9_table_2 : decode cX9_table 2 = .ok (.if_icmp .lt 18, 3) := bdX9_table_0.2.2.1
theorem dX9_table_5 : decode cX9_table 5 = .ok (.iload_n 1, 1) := bdX9_table_0.2.2.2.1
theorem dX9_table_6 : decode cX9_table 6 = .ok (.iconst 5, 1) := bdX9_table_0.2.2.2.2.1
theorem dX9_table_7 : decode cX9_table 7 = .ok (.if_icmp .gt 13, 3) := bdX9_table_0.2.2.2.2.2.1
theorem dX9_table_10 : decode cX9_table 10 = .ok (.iload_n 2, 1) := bdX9_table_0.2.2.2.2.2.2.1
theorem dX9_table_11 : decode cX9_table 11 = .ok (.iconst 1, 1) := bdX9_table_0.2.2.2.2.2.2.2.1
theorem dX9_table_12 : decode cX9_table 12 = .ok (.if_icmp .lt 8, 3) := bdX9_table_0.2.2.2.2.2.2.2.2.1
theorem dX9_table_15 : decode cX9_table 15 = .ok (.iload_n 2, 1) := bdX9_table_0.2.2.2.2.2.2.2.2.2.1
theorem dX9_table_16 : decode cX9_table 16 = .ok (.iconst 4, 1) := bdX9_table_0.2.2.2.2.2.2.2.2.2.2.1
theorem dX9_table_17 : decode cX9_table 17 = .ok (.if_icmp .le 5, 3) := bdX9_table_0.2.2.2.2.2.2.2.2.2.2.2.1
theorem dX9_table_20 : decode cX9_table 20 = .ok (.iconst (-1), 1) := bdX9_table_0.2.2.2.2.2.2.2.2.2.2.2.2.1
theorem dX9_table_21 : decode cX9_table 21 = .ok (.ireturn, 1) := bdX9_table_0.2.2.2.2.2.2.2.2.2.2.2.2.2.1
theorem dX9_table_22 : decode cX9_table 22 = .ok (.aload_n 0, 1) := bdX9_table_0.2.2.2.2.2.2.2.2.2.2.2.2.2.2.1
theorem dX9_table_23 : decode cX9_table 23 = .ok (.getfield 12, 3) := bdX9_table_0.2.2.2.2.2.2.2.2.2.2.2.2.2.2.2
theorem bdX9_table_26 : (decode cX9_table 26 = .ok (.iload_n 1, 1)) ∧ (decode cX9_table 27 = .ok (.iload_n 2, 1)) ∧ (decode cX9_table 28 = .ok (.invokevirtual 76, 3)) ∧ (decode cX9_table 31 = .ok (.aload_n 0, 1)) ∧ (decode cX9_table 32 = .ok (.getfield 21, 3)) ∧ (decode cX9_table 35 = .ok (.invokevirtual 80, 3)) ∧ (decode cX9_table 38 = .ok (.iconst 1, 1)) ∧ (decode cX9_table 39 = .ok (.ireturn, 1)) := by decide +kernel
theorem dX9_table_26 : decode cX9_table 26 = .ok (.iload_n 1, 1) := bdX9_table_26.1
theorem dX9_table_27 : decode cX9_table 27 = .ok (.iload_n 2, 1) := bdX9_table_26.2.1
theorem dX9_table_28 : decode cX9_table 28 = .ok (.invokevirtual 76, 3) := bdX9_table_26.2.2.1
theorem dX9_table_31 : decode cX9_table 31 = .ok (.aload_n 0, 1) := bdX9_table_26.2.2.2.1
theorem dX9_table_32 : decode cX9_table 32 = .ok (.getfield 21, 3) := bdX9_table_26.2.2.2.2.1
theorem dX9_table_35 : decode cX9_table 35 = .ok (.invokevirtual 80, 3) := bdX9_table_26.2.2.2.2.2.1
theorem dX9_table_38 : decode cX9_table 38 = .ok (.iconst 1, 1) := bdX9_table_26.2.2.2.2.2.2.1
theorem dX9_table_39 : decode cX9_table 39 = .ok (.ireturn, 1) := bdX9_table_26.2.2.2.2.2.2.2
set_option maxHeartbeats 4000000 in
set_option maxRecDepth 100000 in
theorem k_X9_table (l : Launch) (dC : Nat → ClassId) (dI : Nat → Nat → Nat) (h : Nat → Nat) (cs : Nat → ClassId) (sz : Nat) (I : Nat → Int32) (L : Nat → Int64) (A : Nat → Nat → Int32) (Q : Nat → Nat → Int64) (G : Nat → Nat → Nat → Int32) (J : Nat → Nat → Nat → Int64) (x y : Int32) (sp9 : Nat) (hst : I 123 = nI sp9) (hst2 : sp9 < 1000000000) : Met l yX9_table wsX9_table ({ frames := 2, cells := 0, slots := 0, locals := 46 }) (va_Pc [.ref (h 100), .int x, .int y] (xPre (dC, dI) (wF1 h cs I L A Q G J) (tysA cs) sz)) (va_Qi (fun (r : Int32) (u : CS) => ∃ i120 : Int32, ∃ i121 : Int32, ∃ i123 : Int32, ∃ i144 : Int32, ∃ i145 : Int32, ∃ i146 : Int32, ∃ a136 : Nat → Int32, ∃ g0 : Nat → Nat → Int32, ((r = nI 1 ∧ ∃ i j : Nat, 1 ≤ i ∧ i ≤ 5 ∧ 1 ≤ j ∧ j ≤ 4 ∧ x = nI i ∧ y = nI j ∧ i120 = nI i ∧ i121 = nI j ∧ i123 = nI (sp9 + 1) ∧ i144 = nI 0 ∧ i145 = nI 0 ∧ i146 = nI 0 ∧ (∀ q t : Nat, q < 5 → t < 4 → g0 q t = nI 0) ∧ ∀ t : Nat, t < 5 → a136 t = nI 0) ∨ (r = -1 ∧ (∀ i j : Nat, 1 ≤ i → i ≤ 5 → 1 ≤ j → j ≤ 4 → x = nI i → y = nI j → False) ∧ i120 = I 120 ∧ i121 = I 121 ∧ i123 = I 123 ∧ i144 = I 144 ∧ i145 = I 145 ∧ i146 = I 146 ∧ g0 = G 0 ∧ a136 = A 136)) ∧ u = ((va_up (va_up (va_up (va_up (va_up (va_up I 120 i120) 121 i121) 123 i123) 144 i144) 145 i145) 146 i146), L, (va_up A 136 a136), Q, (va_up G 0 g0), J)) (xB (dC, dI) (tysA cs) (va_A (wF1 h cs I L A Q G J) sz) (fun u : CS => wF1 h cs u.1 u.2.1 u.2.2.1 u.2.2.2.1 u.2.2.2.2.1 u.2.2.2.2.2)) (va_A (wF1 h cs I L A Q G J) sz)) 0 0 (va_A (wF1 h cs I L A Q G J) sz) := by
  refine Met.ofW (cc := cX9_table) (maxL := 3) (ret := (some .int)) (by decide) rfl ?_
  intro p e s m args below meth c s₁ B hml hv
  obtain ⟨rfl, hsz, hP, hK, hD0, hN⟩ := hv
  have hx := B.exec
  have hb := B.bytes
  have hr := B.returns
  have hts := atoms_spec (ws := wsX9_table) B.pre
  have hown : s.vm.findClass RX9 = some m.cls := findClass_of_methodNamed B.named
  have hlocks := B.notSynchronized
  subst hsz
  have hD := hD0.self (sz := s.heap.size)
  generalize hAe : va_A (wF1 h cs I L A Q G J) s.heap.size = A0 at hD ⊢
  have hA : ∀ q : Nat, s.heap.size ≤ q → A0 q := fun q h => by rw [← hAe]; exact Or.inr h
  have hl := lv_entry ([.ref (h 100), .int x, .int y]) (n := 3) (Nat.le_of_ble_eq_true rfl)
  rw [lg_entry_eq]
  generalize (lg_sl ([.ref (h 100), .int x, .int y]) ++ List.replicate (3 - (lg_sl ([.ref (h 100), .int x, .int y])).length) Slot.unset).toArray = ls at hl ⊢
  have hl : lv_has ls 3 [(0, .ref (h 100)), (1, .int x), (2, .int y)] := hl
  generalize hH : s.heap = H at hP ⊢
  have hS : va_S A0 s.heap H [] := by rw [← hH]; exact va_S.rf
  have hinX9 : ∀ w ∈ wsX90, w ∈ wsX9_table := by decide +kernel
  refine lv_iload_n hx hb dX9_table_0 rfl (lv_at hl 1 rfl) ?_
  refine lv_iconst (v := nI 1) hx hb dX9_table_1 (by decide) ?_
  refine lv_icmp_lt (tgt := 20) hx hb dX9_table_2 (by decide) (fun c_2_0 => ?_) (fun c_2_0 => ?_)
  · skip
    refine lv_iconst (v := (-1)) hx hb dX9_table_20 (by decide) ?_
    exact xr_i (v := (-1)) hx hb hr hlocks hK hS dX9_table_21 ((va_up (va_up (va_up (va_up (va_up (va_up I 120 (I 120)) 121 (I 121)) 123 (I 123)) 144 (I 144)) 145 (I 145)) 146 (I 146)), L, (va_up A 136 (A 136)), Q, (va_up G 0 (G 0)), J) ⟨(I 120), (I 121), (I 123), (I 144), (I 145), (I 146), (A 136), (G 0), (Or.inr ⟨rfl, fun i j a b c d e f => by first | (have q9 := bad_lo (k := 1) (x := x) (by omega) (by omega) (by assumption) e; omega) | (have q9 := bad_hi (k := 5) (x := x) (by omega) (by omega) (by assumption) e; omega) | (have q9 := bad_lo (k := 1) (x := y) (by omega) (by omega) (by assumption) f; omega) | (have q9 := bad_hi (k := 4) (x := y) (by omega) (by omega) (Int32.not_le.mp (by assumption)) f; omega), rfl, rfl, rfl, rfl, rfl, rfl, rfl, rfl⟩), rfl⟩ hP hD
  · skip
    refine lv_iload_n hx hb dX9_table_5 rfl (lv_at hl 1 rfl) ?_
    refine lv_iconst (v := nI 5) hx hb dX9_table_6 (by decide) ?_
    refine lv_icmp_gt (tgt := 20) hx hb dX9_table_7 (by decide) (fun c_7_1 => ?_) (fun c_7_1 => ?_)
    · skip
      refine lv_iconst (v := (-1)) hx hb dX9_table_20 (by decide) ?_
      exact xr_i (v := (-1)) hx hb hr hlocks hK hS dX9_table_21 ((va_up (va_up (va_up (va_up (va_up (va_up I 120 (I 120)) 121 (I 121)) 123 (I 123)) 144 (I 144)) 145 (I 145)) 146 (I 146)), L, (va_up A 136 (A 136)), Q, (va_up G 0 (G 0)), J) ⟨(I 120), (I 121), (I 123), (I 144), (I 145), (I 146), (A 136), (G 0), (Or.inr ⟨rfl, fun i j a b c d e f => by first | (have q9 := bad_lo (k := 1) (x := x) (by omega) (by omega) (by assumption) e; omega) | (have q9 := bad_hi (k := 5) (x := x) (by omega) (by omega) (by assumption) e; omega) | (have q9 := bad_lo (k := 1) (x := y) (by omega) (by omega) (by assumption) f; omega) | (have q9 := bad_hi (k := 4) (x := y) (by omega) (by omega) (Int32.not_le.mp (by assumption)) f; omega), rfl, rfl, rfl, rfl, rfl, rfl, rfl, rfl⟩), rfl⟩ hP hD
    · skip
      refine lv_iload_n hx hb dX9_table_10 rfl (lv_at hl 2 rfl) ?_
      refine lv_iconst (v := nI 1) hx hb dX9_table_11 (by decide) ?_
      refine lv_icmp_lt (tgt := 20) hx hb dX9_table_12 (by decide) (fun c_12_2 => ?_) (fun c_12_2 => ?_)
      · skip
        refine lv_iconst (v := (-1)) hx hb dX9_table_20 (by decide) ?_
        exact xr_i (v := (-1)) hx hb hr hlocks hK hS dX9_table_21 ((va_up (va_up (va_up (va_up (va_up (va_up I 120 (I 120)) 121 (I 121)) 123 (I 123)) 144 (I 144)) 145 (I 145)) 146 (I 146)), L, (va_up A 136 (A 136)), Q, (va_up G 0 (G 0)), J) ⟨(I 120), (I 121), (I 123), (I 144), (I 145), (I 146), (A 136), (G 0), (Or.inr ⟨rfl, fun i j a b c d e f => by first | (have q9 := bad_lo (k := 1) (x := x) (by omega) (by omega) (by assumption) e; omega) | (have q9 := bad_hi (k := 5) (x := x) (by omega) (by omega) (by assumption) e; omega) | (have q9 := bad_lo (k := 1) (x := y) (by omega) (by omega) (by assumption) f; omega) | (have q9 := bad_hi (k := 4) (x := y) (by omega) (by omega) (Int32.not_le.mp (by assumption)) f; omega), rfl, rfl, rfl, rfl, rfl, rfl, rfl, rfl⟩), rfl⟩ hP hD
      · skip
        refine lv_iload_n hx hb dX9_table_15 rfl (lv_at hl 2 rfl) ?_
        refine lv_iconst (v := nI 4) hx hb dX9_table_16 (by decide) ?_
        refine lv_icmp_le (tgt := 22) hx hb dX9_table_17 (by decide) (fun c_17_3 => ?_) (fun c_17_3 => ?_)
        · skip
          obtain ⟨i9, h1i9, h2i9, hxi9⟩ := rgN (x := x) (lo := 1) (hi := 5) (by omega) (by omega) (by first | assumption | exact Int32.not_lt.mpr (by assumption)) (by first | assumption | exact Int32.not_lt.mpr (by assumption))
          rw [hxi9] at hl
          obtain ⟨j9, h1j9, h2j9, hxj9⟩ := rgN (x := y) (lo := 1) (hi := 4) (by omega) (by omega) (by first | assumption | exact Int32.not_lt.mpr (by assumption)) (by first | assumption | exact Int32.not_lt.mpr (by assumption))
          rw [hxj9] at hl
          refine lv_aload_n hx hb dX9_table_22 rfl (lv_at hl 0 rfl) ?_
          refine va_get (D := (dC, dI)) (ci := 9) (v := .ref (h 101)) (C := RX9) (T := TX9) (N := 9) hx hb hts hinX9 hown hK hP 0 rfl rfl 0 (by decide) (hts (.fieldLink RX9 12 "MixedWords" "mix" "LMixedWords$Mix;") (by decide +kernel)) (fun _ h9 => h9) rfl dX9_table_23 ?_
          refine lv_iload_n hx hb dX9_table_26 rfl (lv_at hl 1 rfl) ?_
          refine lv_iload_n hx hb dX9_table_27 rfl (lv_at hl 2 rfl) ?_
          refine xj_v (wc := (wMix h cs I L A Q G J)) (wr := [(h 100, .inr (9, [.ref (h 101), .ref (h 102), .ref (h 103), .ref (h 104), .ref (h 105), .ref (h 106), .ref (h 107), .ref (h 108), .ref (h 109)])), (h 102, .inr (0, [.ref (h 101), .ref (h 140), .ref (h 141), .ref (h 142), .ref (h 143), .int (I 144), .int (I 145), .int (I 146)])), (h 140, .inl (cs 0, 40, .inl (A 140))), (h 141, .inl (cs 0, 40, .inl (A 141))), (h 142, .inl (cs 0, 40, .inl (A 142))), (h 143, .inl (cs 0, 40, .inl (A 143)))]) hP hD hS hA [6, 7, 8, 9, 10, 11, 12, 13] [0, 1, 2, 3, 4, 5] rfl rfl (by decide) (by decide) (va_runV (As := [.int (nI i9), .int (nI j9)]) (rest := []) ⟨hx, hb, hml, hown, hts⟩ (k_X3_reshape l dC dI h cs H.size I L A Q G J i9 j9 sp9 hst (by first | assumption | omega | exact hst2)) (cwV 2 hts gX9_table_X3_reshape rfl rfl rfl (by decide +kernel) ⟨Nat.le_of_ble_eq_true rfl, Nat.le_of_ble_eq_true rfl⟩) (xpV (wc := (wMix h cs I L A Q G J)) hP hD hK hN [6, 7, 8, 9, 10, 11, 12, 13] rfl (by decide) 6 (ci := 3) rfl rfl _) rfl rfl hl.1 rfl (lv_room (Nat.le_of_ble_eq_true rfl)) dX9_table_28 ⟨Nat.zero_le _, Nat.zero_le _⟩) (fun u_5 H locs hw hP hD hS => ?_)
          obtain ⟨i120_7, i121_8, i123_9, a136_10, g0_11, hf_12, rfl⟩ := hw
          have hP : va_P (dC, dI) vwCl (wF1 h cs (va_up (va_up (va_up I 120 i120_7) 121 i121_8) 123 i123_9) L (va_up A 136 a136_10) Q (va_up G 0 g0_11) J) H := hP
          have hD : va_D A0 (wF1 h cs (va_up (va_up (va_up I 120 i120_7) 121 i121_8) 123 i123_9) L (va_up A 136 a136_10) Q (va_up G 0 g0_11) J) := hD
          obtain ⟨hz_13, hz_14, rfl, rfl, rfl⟩ := hf_12
          refine lv_aload_n hx hb dX9_table_31 rfl (lv_at hl 0 rfl) ?_
          refine va_get (D := (dC, dI)) (ci := 9) (v := .ref (h 102)) (C := RX9) (T := TX9) (N := 9) hx hb hts hinX9 hown hK hP 0 rfl rfl 1 (by decide) (hts (.fieldLink RX9 21 "MixedWords" "acts" "LMixedWords$Acts;") (by decide +kernel)) (fun _ h9 => h9) rfl dX9_table_32 ?_
          refine xj_v (wc := (wAct0 h cs (va_up (va_up (va_up I 120 (nI i9)) 121 (nI j9)) 123 (nI (sp9 + 1))) L (va_up A 136 a136_10) Q (va_up G 0 g0_11) J)) (wr := [(h 100, .inr (9, [.ref (h 101), .ref (h 102), .ref (h 103), .ref (h 104), .ref (h 105), .ref (h 106), .ref (h 107), .ref (h 108), .ref (h 109)])), (h 101, .inr (3, [.int (nI i9), .int (nI j9), .int (I 122), .int (nI (sp9 + 1)), .ref (h 130), .ref (h 136)])), (h 130, .inl (cs 3, 5, .inr (.inr (.inr (.inr (fun i => if i < 5 then some (h (i + 131)) else none)))))), (h 131, .inl (cs 0, 4, .inl (g0_11 0))), (h 132, .inl (cs 0, 4, .inl (g0_11 1))), (h 133, .inl (cs 0, 4, .inl (g0_11 2))), (h 134, .inl (cs 0, 4, .inl (g0_11 3))), (h 135, .inl (cs 0, 4, .inl (g0_11 4))), (h 136, .inl (cs 0, 5, .inl a136_10))]) hP hD hS hA [1, 2, 3, 4, 5] [0, 6, 7, 8, 9, 10, 11, 12, 13] rfl rfl (by decide) (by decide) (va_runV (As := []) (rest := []) ⟨hx, hb, hml, hown, hts⟩ (k_X0_forget l dC dI h cs H.size (va_up (va_up (va_up I 120 (nI i9)) 121 (nI j9)) 123 (nI (sp9 + 1))) L (va_up A 136 a136_10) Q (va_up G 0 g0_11) J ) (cwV 0 hts gX9_table_X0_forget rfl rfl rfl (by decide +kernel) ⟨Nat.le_of_ble_eq_true rfl, Nat.le_of_ble_eq_true rfl⟩) (xpV (wc := (wAct0 h cs (va_up (va_up (va_up I 120 (nI i9)) 121 (nI j9)) 123 (nI (sp9 + 1))) L (va_up A 136 a136_10) Q (va_up G 0 g0_11) J)) hP hD hK hN [1, 2, 3, 4, 5] rfl (by decide) 1 (ci := 0) rfl rfl _) rfl rfl hl.1 rfl (lv_room (Nat.le_of_ble_eq_true rfl)) dX9_table_35 ⟨Nat.zero_le _, Nat.zero_le _⟩) (fun u_15 H locs hw hP hD hS => ?_)
          obtain ⟨x144_17, x145_18, x146_19, hf_20, rfl⟩ := hw
          have hP : va_P (dC, dI) vwCl (wF1 h cs (va_up (va_up (va_up (va_up (va_up (va_up I 120 (nI i9)) 121 (nI j9)) 123 (nI (sp9 + 1))) 144 x144_17) 145 x145_18) 146 x146_19) L (va_up A 136 a136_10) Q (va_up G 0 g0_11) J) H := xP_sub hP [0, 9, 10, 11, 12, 13, 1, 2, 3, 4, 5, 6, 7, 8] rfl
          have hD : va_D A0 (wF1 h cs (va_up (va_up (va_up (va_up (va_up (va_up I 120 (nI i9)) 121 (nI j9)) 123 (nI (sp9 + 1))) 144 x144_17) 145 x145_18) 146 x146_19) L (va_up A 136 a136_10) Q (va_up G 0 g0_11) J) := hD.sub [0, 9, 10, 11, 12, 13, 1, 2, 3, 4, 5, 6, 7, 8] (by decide) rfl
          obtain ⟨rfl, rfl, rfl⟩ := hf_20
          refine lv_iconst (v := nI 1) hx hb dX9_table_38 (by decide) ?_
          exact xr_i (v := (nI 1)) hx hb hr hlocks hK hS dX9_table_39 ((va_up (va_up (va_up (va_up (va_up (va_up I 120 (nI i9)) 121 (nI j9)) 123 (nI (sp9 + 1))) 144 (nI 0)) 145 (nI 0)) 146 (nI 0)), L, (va_up A 136 a136_10), Q, (va_up G 0 g0_11), J) ⟨(nI i9), (nI j9), (nI (sp9 + 1)), (nI 0), (nI 0), (nI 0), a136_10, g0_11, (Or.inl ⟨rfl, i9, j9, h1i9, h2i9, h1j9, h2j9, hxi9, hxj9, rfl, rfl, rfl, rfl, rfl, rfl, hz_13, hz_14⟩), rfl⟩ hP hD
        · skip
          refine lv_iconst (v := (-1)) hx hb dX9_table_20 (by decide) ?_
          exact xr_i (v := (-1)) hx hb hr hlocks hK hS dX9_table_21 ((va_up (va_up (va_up (va_up (va_up (va_up I 120 (I 120)) 121 (I 121)) 123 (I 123)) 144 (I 144)) 145 (I 145)) 146 (I 146)), L, (va_up A 136 (A 136)), Q, (va_up G 0 (G 0)), J) ⟨(I 120), (I 121), (I 123), (I 144), (I 145), (I 146), (A 136), (G 0), (Or.inr ⟨rfl, fun i j a b c d e f => by first | (have q9 := bad_lo (k := 1) (x := x) (by omega) (by omega) (by assumption) e; omega) | (have q9 := bad_hi (k := 5) (x := x) (by omega) (by omega) (by assumption) e; omega) | (have q9 := bad_lo (k := 1) (x := y) (by omega) (by omega) (by assumption) f; omega) | (have q9 := bad_hi (k := 4) (x := y) (by omega) (by omega) (Int32.not_le.mp (by assumption)) f; omega), rfl, rfl, rfl, rfl, rfl, rfl, rfl, rfl⟩), rfl⟩ hP hD
set_option maxRecDepth 20000 in
theorem ggX9_off_X3_wordCount : GoodIn wsX9_off wsX3_wordCount := goodIn_r _ [7, 8, 9, 10, 11, 6, 12, 13, 39, 40, 41, 42, 43, 44] (by decide +kernel) (by decide +kernel)
set_option maxRecDepth 20000 in
theorem gX9_off_X3_wordCount : GoodIn wsX9_off (wsV RX9 156 RX3 yX3_wordCount wsX3_wordCount) := goodIn_app (goodIn_of _ (by decide +kernel)) ggX9_off_X3_wordCount
set_option maxRecDepth 20000 in
theorem ggX9_off_X8_offOf : GoodIn wsX9_off wsX8_offOf := goodIn_r _ [18, 19, 20, 21, 22, 23, 24, 25, 26, 27, 17, 28, 29, 10, 11, 6, 12, 13, 45, 46, 47, 48, 49, 50, 39, 40, 41, 42, 43, 44] (by decide +kernel) (by decide +kernel)
set_option maxRecDepth 20000 in
theorem gX9_off_X8_offOf : GoodIn wsX9_off (wsV RX9 159 RX8 yX8_offOf wsX8_offOf) := goodIn_app (goodIn_of _ (by decide +kernel)) ggX9_off_X8_offOf
theorem bdX9_off_0 : (decode cX9_off 0 = .ok (.iload_n 1, 1)) ∧ (decode cX9_off 1 = .ok (.ifCond .lt 14, 3)) ∧ (decode cX9_off 4 = .ok (.iload_n 1, 1)) ∧ (decode cX9_off 5 = .ok (.aload_n 0, 1)) ∧ (decode cX9_off 6 = .ok (.getfield 12, 3)) ∧ (decode cX9_off 9 = .ok (.invokevirtual 156, 3)) ∧ (decode cX9_off 12 = .ok (.if_icmp .lt 7, 3)) ∧ (decode cX9_off 15 = .ok (.iconst (-1), 1)) ∧ (decode cX9_off 16 = .ok (.goto 11, 3)) ∧ (decode cX9_off 19 = .ok (.aload_n 0, 1)) ∧ (decode cX9_off 20 = .ok (.getfield 44, 3)) ∧ (decode cX9_off 23 = .ok (.iload_n 1, 1)) ∧ (decode cX9_off 24 = .ok (.invokevirtual 159, 3)) ∧ (decode cX9_off 27 = .ok (.ireturn, 1)) := by decide +kernel
theorem dX9_off_0 : decode cX9_off 0 = .ok (.iload_n 1, 1) := bdX9_off_0.1
theorem dX9_off_1 : decode cX9_off 1 = .ok (.ifCond .lt 14, 3) := bdX9_off_0.2.1
theorem dX9_off_4 : decode cX9_off 4 = .ok (.iload_n 1, 1) := bdX9_off_0.2.2.1
theorem dX9_off_5 : decode cX9_off 5 = .ok (.aload_n 0, 1) := bdX9_off_0.2.2.2.1
theorem dX9_off_6 : decode cX9_off 6 = .ok (.getfield 12, 3) := bdX9_off_0.2.2.2.2.1
theorem dX9_off_9 : decode cX9_off 9 = .ok (.invokevirtual 156, 3) := bdX9_off_0.2.2.2.2.2.1
theorem dX9_off_12 : decode cX9_off 12 = .ok (.if_icmp .lt 7, 3) := bdX9_off_0.2.2.2.2.2.2.1
theorem dX9_off_15 : decode cX9_off 15 = .ok (.iconst (-1), 1) := bdX9_off_0.2.2.2.2.2.2.2.1
theorem dX9_off_16 : decode cX9_off 16 = .ok (.goto 11, 3) := bdX9_off_0.2.2.2.2.2.2.2.2.1
theorem dX9_off_19 : decode cX9_off 19 = .ok (.aload_n 0, 1) := bdX9_off_0.2.2.2.2.2.2.2.2.2.1
theorem dX9_off_20 : decode cX9_off 20 = .ok (.getfield 44, 3) := bdX9_off_0.2.2.2.2.2.2.2.2.2.2.1
theorem dX9_off_23 : decode cX9_off 23 = .ok (.iload_n 1, 1) := bdX9_off_0.2.2.2.2.2.2.2.2.2.2.2.1
theorem dX9_off_24 : decode cX9_off 24 = .ok (.invokevirtual 159, 3) := bdX9_off_0.2.2.2.2.2.2.2.2.2.2.2.2.1
theorem dX9_off_27 : decode cX9_off 27 = .ok (.ireturn, 1) := bdX9_off_0.2.2.2.2.2.2.2.2.2.2.2.2.2
set_option maxHeartbeats 4000000 in
set_option maxRecDepth 100000 in
theorem k_X9_off (l : Launch) (dC : Nat → ClassId) (dI : Nat → Nat → Nat) (h : Nat → Nat) (cs : Nat → ClassId) (sz : Nat) (I : Nat → Int32) (L : Nat → Int64) (A : Nat → Nat → Int32) (Q : Nat → Nat → Int64) (G : Nat → Nat → Nat → Int32) (J : Nat → Nat → Nat → Int64) (x : Int32) (R M a : Nat) (hR : I 120 = nI R) (hR1 : 1 ≤ R) (hR5 : R ≤ 5) (hM : I 121 = nI M) (hM1 : 1 ≤ M) (hM4 : M ≤ 4) (ha : I 122 = nI a) (ha2 : a = 2 ∨ a = 4) : Met l yX9_off wsX9_off ({ frames := 3, cells := 0, slots := 0, locals := 67 }) (va_Pc [.ref (h 100), .int x] (xPre (dC, dI) (wFO h cs I L A Q G J) (tysA cs) sz)) (va_Qi (fun (r : Int32) (u : CS) => (True) ∧ u = (I, L, A, Q, G, J)) (xB (dC, dI) (tysA cs) (va_A (wFO h cs I L A Q G J) sz) (fun u : CS => wFO h cs u.1 u.2.1 u.2.2.1 u.2.2.2.1 u.2.2.2.2.1 u.2.2.2.2.2)) (va_A (wFO h cs I L A Q G J) sz)) 0 0 (va_A (wFO h cs I L A Q G J) sz) := by
  refine Met.ofW (cc := cX9_off) (maxL := 2) (ret := (some .int)) (by decide) rfl ?_
  intro p e s m args below meth c s₁ B hml hv
  obtain ⟨rfl, hsz, hP, hK, hD0, hN⟩ := hv
  have hx := B.exec
  have hb := B.bytes
  have hr := B.returns
  have hts := atoms_spec (ws := wsX9_off) B.pre
  have hown : s.vm.findClass RX9 = some m.cls := findClass_of_methodNamed B.named
  have hlocks := B.notSynchronized
  subst hsz
  have hD := hD0.self (sz := s.heap.size)
  generalize hAe : va_A (wFO h cs I L A Q G J) s.heap.size = A0 at hD ⊢
  have hA : ∀ q : Nat, s.heap.size ≤ q → A0 q := fun q h => by rw [← hAe]; exact Or.inr h
  have hl := lv_entry ([.ref (h 100), .int x]) (n := 2) (Nat.le_of_ble_eq_true rfl)
  rw [lg_entry_eq]
  generalize (lg_sl ([.ref (h 100), .int x]) ++ List.replicate (2 - (lg_sl ([.ref (h 100), .int x])).length) Slot.unset).toArray = ls at hl ⊢
  have hl : lv_has ls 2 [(0, .ref (h 100)), (1, .int x)] := hl
  generalize hH : s.heap = H at hP ⊢
  have hS : va_S A0 s.heap H [] := by rw [← hH]; exact va_S.rf
  have hinX9 : ∀ w ∈ wsX90, w ∈ wsX9_off := by decide +kernel
  have hpw : a ^ M ≤ 256 := pw_le ha2 hM4
  refine lv_iload_n hx hb dX9_off_0 rfl (lv_at hl 1 rfl) ?_
  refine lv_if_lt (tgt := 15) hx hb dX9_off_1 (by decide) (fun c_1_0 => ?_) (fun c_1_0 => ?_)
  · skip
    refine lv_iconst (v := (-1)) hx hb dX9_off_15 (by decide) ?_
    refine lv_goto (tgt := 27) hx hb dX9_off_16 (by decide) ?_
    exact xr_i (v := (-1)) hx hb hr hlocks hK hS dX9_off_27 (I, L, A, Q, G, J) ⟨trivial, rfl⟩ hP hD
  · skip
    refine lv_iload_n hx hb dX9_off_4 rfl (lv_at hl 1 rfl) ?_
    refine lv_aload_n hx hb dX9_off_5 rfl (lv_at hl 0 rfl) ?_
    refine va_get (D := (dC, dI)) (ci := 9) (v := .ref (h 101)) (C := RX9) (T := TX9) (N := 9) hx hb hts hinX9 hown hK hP 0 rfl rfl 0 (by decide) (hts (.fieldLink RX9 12 "MixedWords" "mix" "LMixedWords$Mix;") (by decide +kernel)) (fun _ h9 => h9) rfl dX9_off_6 ?_
    refine xj_i (wc := (wMix h cs I L A Q G J)) (wr := [(h 100, .inr (9, [.ref (h 101), .ref (h 102), .ref (h 103), .ref (h 104), .ref (h 105), .ref (h 106), .ref (h 107), .ref (h 108), .ref (h 109)])), (h 105, .inr (8, [.ref (h 101), .ref (h 170), .ref (h 171), .ref (h 172), .int (I 173), .int (I 174)])), (h 170, .inl (cs 0, 256, .inl (A 170))), (h 171, .inl (cs 0, 256, .inl (A 171))), (h 172, .inl (cs 0, 256, .inl (A 172)))]) hP hD hS hA [5, 6, 7, 8, 9, 10, 11, 12] [0, 1, 2, 3, 4] rfl rfl (by decide) (by decide) (va_runV (As := []) (rest := [.int x]) ⟨hx, hb, hml, hown, hts⟩ (k_X3_wordCount l dC dI h cs H.size I L A Q G J M a hM (by first | assumption | omega | exact hM1) (by first | assumption | omega | exact hM4) ha (by first | assumption | omega | exact ha2)) (cwV 0 hts gX9_off_X3_wordCount rfl rfl rfl (by decide +kernel) ⟨Nat.le_of_ble_eq_true rfl, Nat.le_of_ble_eq_true rfl⟩) (xpV (wc := (wMix h cs I L A Q G J)) hP hD hK hN [5, 6, 7, 8, 9, 10, 11, 12] rfl (by decide) 5 (ci := 3) rfl rfl _) rfl rfl hl.1 rfl (lv_room (Nat.le_of_ble_eq_true rfl)) dX9_off_9 ⟨Nat.zero_le _, Nat.zero_le _⟩) (fun r_3 u_2 H locs hw hP hD hS => ?_)
    obtain ⟨hf_4, rfl⟩ := hw
    have hP : va_P (dC, dI) vwCl (wFO h cs I L A Q G J) H := hP
    have hD : va_D A0 (wFO h cs I L A Q G J) := hD
    obtain rfl := hf_4
    refine lv_icmp_lt (tgt := 19) hx hb dX9_off_12 (by decide) (fun c_12_4 => ?_) (fun c_12_4 => ?_)
    · skip
      obtain ⟨w9, hw9, hxw9⟩ := rg_yes (x := x) (n := a ^ M) (by omega) (by assumption) (Int32.not_le.mpr (by assumption))
      rw [hxw9] at hl
      refine lv_aload_n hx hb dX9_off_19 rfl (lv_at hl 0 rfl) ?_
      refine va_get (D := (dC, dI)) (ci := 9) (v := .ref (h 105)) (C := RX9) (T := TX9) (N := 9) hx hb hts hinX9 hown hK hP 0 rfl rfl 4 (by decide) (hts (.fieldLink RX9 44 "MixedWords" "words" "LMixedWords$Words;") (by decide +kernel)) (fun _ h9 => h9) rfl dX9_off_20 ?_
      refine lv_iload_n hx hb dX9_off_23 rfl (lv_at hl 1 rfl) ?_
      refine xj_i (wc := (wWords h cs I L A Q G J)) (wr := [(h 100, .inr (9, [.ref (h 101), .ref (h 102), .ref (h 103), .ref (h 104), .ref (h 105), .ref (h 106), .ref (h 107), .ref (h 108), .ref (h 109)]))]) hP hD hS hA [1, 2, 3, 4, 5, 6, 7, 8, 9, 10, 11, 12] [0] rfl rfl (by decide) (by decide) (va_runV (As := [.int (nI w9)]) (rest := []) ⟨hx, hb, hml, hown, hts⟩ (k_X8_offOf l dC dI h cs H.size I L A Q G J w9 R M a (by first | assumption | omega) hR (by first | assumption | omega | exact hR1) (by first | assumption | omega | exact hR5) hM (by first | assumption | omega | exact hM1) (by first | assumption | omega | exact hM4) ha (by first | assumption | omega | exact ha2)) (cwV 1 hts gX9_off_X8_offOf rfl rfl rfl (by decide +kernel) ⟨Nat.le_of_ble_eq_true rfl, Nat.le_of_ble_eq_true rfl⟩) (xpV (wc := (wWords h cs I L A Q G J)) hP hD hK hN [1, 2, 3, 4, 5, 6, 7, 8, 9, 10, 11, 12] rfl (by decide) 1 (ci := 8) rfl rfl _) rfl rfl hl.1 rfl (lv_room (Nat.le_of_ble_eq_true rfl)) dX9_off_24 ⟨Nat.zero_le _, Nat.zero_le _⟩) (fun r_7 u_6 H locs hw hP hD hS => ?_)
      obtain ⟨hf_8, rfl⟩ := hw
      have hP : va_P (dC, dI) vwCl (wFO h cs I L A Q G J) H := hP
      have hD : va_D A0 (wFO h cs I L A Q G J) := hD
      exact xr_i (v := r_7) hx hb hr hlocks hK hS dX9_off_27 (I, L, A, Q, G, J) ⟨trivial, rfl⟩ hP hD
    · skip
      refine lv_iconst (v := (-1)) hx hb dX9_off_15 (by decide) ?_
      refine lv_goto (tgt := 27) hx hb dX9_off_16 (by decide) ?_
      exact xr_i (v := (-1)) hx hb hr hlocks hK hS dX9_off_27 (I, L, A, Q, G, J) ⟨trivial, rfl⟩ hP hD
set_option maxRecDepth 20000 in
theorem ggX9_nearest_X3_wordCount : GoodIn wsX9_nearest wsX3_wordCount := goodIn_r _ [7, 8, 9, 10, 11, 6, 12, 13, 70, 71, 72, 73, 74, 75] (by decide +kernel) (by decide +kernel)
set_option maxRecDepth 20000 in
theorem gX9_nearest_X3_wordCount : GoodIn wsX9_nearest (wsV RX9 156 RX3 yX3_wordCount wsX3_wordCount) := goodIn_app (goodIn_of _ (by decide +kernel)) ggX9_nearest_X3_wordCount
set_option maxRecDepth 20000 in
theorem ggX9_nearest_X8_ranked : GoodIn wsX9_nearest wsX8_ranked := goodIn_r _ [18, 19, 20, 21, 22, 17, 23, 24, 25, 26, 27, 28, 4, 5, 6, 7, 8, 9, 10, 11, 12, 13, 29, 30, 31, 32, 33, 34, 35, 36, 37, 38, 39, 40, 41, 42, 43, 44, 45, 46, 47, 48, 49, 50, 51, 52, 53, 54, 55, 56, 57, 58, 59, 60, 76, 77, 78, 79, 80, 81, 70, 71, 72, 73, 74, 75] (by decide +kernel) (by decide +kernel)
set_option maxRecDepth 20000 in
theorem gX9_nearest_X8_ranked : GoodIn wsX9_nearest (wsV RX9 163 RX8 yX8_ranked wsX8_ranked) := goodIn_app (goodIn_of _ (by decide +kernel)) ggX9_nearest_X8_ranked
theorem bdX9_nearest_0 : (decode cX9_nearest 0 = .ok (.iload_n 1, 1)) ∧ (decode cX9_nearest 1 = .ok (.ifCond .lt 14, 3)) ∧ (decode cX9_nearest 4 = .ok (.iload_n 1, 1)) ∧ (decode cX9_nearest 5 = .ok (.aload_n 0, 1)) ∧ (decode cX9_nearest 6 = .ok (.getfield 12, 3)) ∧ (decode cX9_nearest 9 = .ok (.invokevirtual 156, 3)) ∧ (decode cX9_nearest 12 = .ok (.if_icmp .lt 7, 3)) ∧ (decode cX9_nearest 15 = .ok (.iconst (-1), 1)) ∧ (decode cX9_nearest 16 = .ok (.goto 11, 3)) ∧ (decode cX9_nearest 19 = .ok (.aload_n 0, 1)) ∧ (decode cX9_nearest 20 = .ok (.getfield 44, 3)) ∧ (decode cX9_nearest 23 = .ok (.iload_n 1, 1)) ∧ (decode cX9_nearest 24 = .ok (.invokevirtual 163, 3)) ∧ (decode cX9_nearest 27 = .ok (.ireturn, 1)) := by decide +kernel
theorem dX9_nearest_0 : decode cX9_nearest 0 = .ok (.iload_n 1, 1) := bdX9_nearest_0.1
theorem dX9_nearest_1 : decode cX9_nearest 1 = .ok (.ifCond .lt 14, 3) := bdX9_nearest_0.2.1
theorem dX9_nearest_4 : decode cX9_nearest 4 = .ok (.iload_n 1, 1) := bdX9_nearest_0.2.2.1
theorem dX9_nearest_5 : decode cX9_nearest 5 = .ok (.aload_n 0, 1) := bdX9_nearest_0.2.2.2.1
theorem dX9_nearest_6 : decode cX9_nearest 6 = .ok (.getfield 12, 3) := bdX9_nearest_0.2.2.2.2.1
theorem dX9_nearest_9 : decode cX9_nearest 9 = .ok (.invokevirtual 156, 3) := bdX9_nearest_0.2.2.2.2.2.1
theorem dX9_nearest_12 : decode cX9_nearest 12 = .ok (.if_icmp .lt 7, 3) := bdX9_nearest_0.2.2.2.2.2.2.1
theorem dX9_nearest_15 : decode cX9_nearest 15 = .ok (.iconst (-1), 1) := bdX9_nearest_0.2.2.2.2.2.2.2.1
theorem dX9_nearest_16 : decode cX9_nearest 16 = .ok (.goto 11, 3) := bdX9_nearest_0.2.2.2.2.2.2.2.2.1
theorem dX9_nearest_19 : decode cX9_nearest 19 = .ok (.aload_n 0, 1) := bdX9_nearest_0.2.2.2.2.2.2.2.2.2.1
theorem dX9_nearest_20 : decode cX9_nearest 20 = .ok (.getfield 44, 3) := bdX9_nearest_0.2.2.2.2.2.2.2.2.2.2.1
theorem dX9_nearest_23 : decode cX9_nearest 23 = .ok (.iload_n 1, 1) := bdX9_nearest_0.2.2.2.2.2.2.2.2.2.2.2.1
theorem dX9_nearest_24 : decode cX9_nearest 24 = .ok (.invokevirtual 163, 3) := bdX9_nearest_0.2.2.2.2.2.2.2.2.2.2.2.2.1
theorem dX9_nearest_27 : decode cX9_nearest 27 = .ok (.ireturn, 1) := bdX9_nearest_0.2.2.2.2.2.2.2.2.2.2.2.2.2
set_option maxHeartbeats 4000000 in
set_option maxRecDepth 100000 in
theorem k_X9_nearest (l : Launch) (dC : Nat → ClassId) (dI : Nat → Nat → Nat) (h : Nat → Nat) (cs : Nat → ClassId) (sz : Nat) (I : Nat → Int32) (L : Nat → Int64) (A : Nat → Nat → Int32) (Q : Nat → Nat → Int64) (G : Nat → Nat → Nat → Int32) (J : Nat → Nat → Nat → Int64) (x : Int32) (R M a : Nat) (hR : I 120 = nI R) (hR1 : 1 ≤ R) (hR5 : R ≤ 5) (hM : I 121 = nI M) (hM1 : 1 ≤ M) (hM4 : M ≤ 4) (ha : I 122 = nI a) (ha2 : a = 2 ∨ a = 4) : Met l yX9_nearest wsX9_nearest ({ frames := 5, cells := 0, slots := 0, locals := 109 }) (va_Pc [.ref (h 100), .int x] (xPre (dC, dI) (wFO h cs I L A Q G J) (tysA cs) sz)) (va_Qi (fun (r : Int32) (u : CS) => ∃ i173 : Int32, ∃ i174 : Int32, ∃ a170 : Nat → Int32, ∃ a171 : Nat → Int32, ∃ a172 : Nat → Int32, (True) ∧ u = ((va_up (va_up I 173 i173) 174 i174), L, (va_up (va_up (va_up A 170 a170) 171 a171) 172 a172), Q, G, J)) (xB (dC, dI) (tysA cs) (va_A (wFO h cs I L A Q G J) sz) (fun u : CS => wFO h cs u.1 u.2.1 u.2.2.1 u.2.2.2.1 u.2.2.2.2.1 u.2.2.2.2.2)) (va_A (wFO h cs I L A Q G J) sz)) 0 0 (va_A (wFO h cs I L A Q G J) sz) := by
  refine Met.ofW (cc := cX9_nearest) (maxL := 2) (ret := (some .int)) (by decide) rfl ?_
  intro p e s m args below meth c s₁ B hml hv
  obtain ⟨rfl, hsz, hP, hK, hD0, hN⟩ := hv
  have hx := B.exec
  have hb := B.bytes
  have hr := B.returns
  have hts := atoms_spec (ws := wsX9_nearest) B.pre
  have hown : s.vm.findClass RX9 = some m.cls := findClass_of_methodNamed B.named
  have hlocks := B.notSynchronized
  subst hsz
  have hD := hD0.self (sz := s.heap.size)
  generalize hAe : va_A (wFO h cs I L A Q G J) s.heap.size = A0 at hD ⊢
  have hA : ∀ q : Nat, s.heap.size ≤ q → A0 q := fun q h => by rw [← hAe]; exact Or.inr h
  have hl := lv_entry ([.ref (h 100), .int x]) (n := 2) (Nat.le_of_ble_eq_true rfl)
  rw [lg_entry_eq]
  generalize (lg_sl ([.ref (h 100), .int x]) ++ List.replicate (2 - (lg_sl ([.ref (h 100), .int x])).length) Slot.unset).toArray = ls at hl ⊢
  have hl : lv_has ls 2 [(0, .ref (h 100)), (1, .int x)] := hl
  generalize hH : s.heap = H at hP ⊢
  have hS : va_S A0 s.heap H [] := by rw [← hH]; exact va_S.rf
  have hinX9 : ∀ w ∈ wsX90, w ∈ wsX9_nearest := by decide +kernel
  have hpw : a ^ M ≤ 256 := pw_le ha2 hM4
  refine lv_iload_n hx hb dX9_nearest_0 rfl (lv_at hl 1 rfl) ?_
  refine lv_if_lt (tgt := 15) hx hb dX9_nearest_1 (by decide) (fun c_1_0 => ?_) (fun c_1_0 => ?_)
  · skip
    refine lv_iconst (v := (-1)) hx hb dX9_nearest_15 (by decide) ?_
    refine lv_goto (tgt := 27) hx hb dX9_nearest_16 (by decide) ?_
    exact xr_i (v := (-1)) hx hb hr hlocks hK hS dX9_nearest_27 ((va_up (va_up I 173 (I 173)) 174 (I 174)), L, (va_up (va_up (va_up A 170 (A 170)) 171 (A 171)) 172 (A 172)), Q, G, J) ⟨(I 173), (I 174), (A 170), (A 171), (A 172), trivial, rfl⟩ hP hD
  · skip
    refine lv_iload_n hx hb dX9_nearest_4 rfl (lv_at hl 1 rfl) ?_
    refine lv_aload_n hx hb dX9_nearest_5 rfl (lv_at hl 0 rfl) ?_
    refine va_get (D := (dC, dI)) (ci := 9) (v := .ref (h 101)) (C := RX9) (T := TX9) (N := 9) hx hb hts hinX9 hown hK hP 0 rfl rfl 0 (by decide) (hts (.fieldLink RX9 12 "MixedWords" "mix" "LMixedWords$Mix;") (by decide +kernel)) (fun _ h9 => h9) rfl dX9_nearest_6 ?_
    refine xj_i (wc := (wMix h cs I L A Q G J)) (wr := [(h 100, .inr (9, [.ref (h 101), .ref (h 102), .ref (h 103), .ref (h 104), .ref (h 105), .ref (h 106), .ref (h 107), .ref (h 108), .ref (h 109)])), (h 105, .inr (8, [.ref (h 101), .ref (h 170), .ref (h 171), .ref (h 172), .int (I 173), .int (I 174)])), (h 170, .inl (cs 0, 256, .inl (A 170))), (h 171, .inl (cs 0, 256, .inl (A 171))), (h 172, .inl (cs 0, 256, .inl (A 172)))]) hP hD hS hA [5, 6, 7, 8, 9, 10, 11, 12] [0, 1, 2, 3, 4] rfl rfl (by decide) (by decide) (va_runV (As := []) (rest := [.int x]) ⟨hx, hb, hml, hown, hts⟩ (k_X3_wordCount l dC dI h cs H.size I L A Q G J M a hM (by first | assumption | omega | exact hM1) (by first | assumption | omega | exact hM4) ha (by first | assumption | omega | exact ha2)) (cwV 0 hts gX9_nearest_X3_wordCount rfl rfl rfl (by decide +kernel) ⟨Nat.le_of_ble_eq_true rfl, Nat.le_of_ble_eq_true rfl⟩) (xpV (wc := (wMix h cs I L A Q G J)) hP hD hK hN [5, 6, 7, 8, 9, 10, 11, 12] rfl (by decide) 5 (ci := 3) rfl rfl _) rfl rfl hl.1 rfl (lv_room (Nat.le_of_ble_eq_true rfl)) dX9_nearest_9 ⟨Nat.zero_le _, Nat.zero_le _⟩) (fun r_3 u_2 H locs hw hP hD hS => ?_)
    obtain ⟨hf_4, rfl⟩ := hw
    have hP : va_P (dC, dI) vwCl (wFO h cs I L A Q G J) H := hP
    have hD : va_D A0 (wFO h cs I L A Q G J) := hD
    obtain rfl := hf_4
    refine lv_icmp_lt (tgt := 19) hx hb dX9_nearest_12 (by decide) (fun c_12_4 => ?_) (fun c_12_4 => ?_)
    · skip
      obtain ⟨w9, hw9, hxw9⟩ := rg_yes (x := x) (n := a ^ M) (by omega) (by assumption) (Int32.not_le.mpr (by assumption))
      rw [hxw9] at hl
      refine lv_aload_n hx hb dX9_nearest_19 rfl (lv_at hl 0 rfl) ?_
      refine va_get (D := (dC, dI)) (ci := 9) (v := .ref (h 105)) (C := RX9) (T := TX9) (N := 9) hx hb hts hinX9 hown hK hP 0 rfl rfl 4 (by decide) (hts (.fieldLink RX9 44 "MixedWords" "words" "LMixedWords$Words;") (by decide +kernel)) (fun _ h9 => h9) rfl dX9_nearest_20 ?_
      refine lv_iload_n hx hb dX9_nearest_23 rfl (lv_at hl 1 rfl) ?_
      refine xj_i (wc := (wWords h cs I L A Q G J)) (wr := [(h 100, .inr (9, [.ref (h 101), .ref (h 102), .ref (h 103), .ref (h 104), .ref (h 105), .ref (h 106), .ref (h 107), .ref (h 108), .ref (h 109)]))]) hP hD hS hA [1, 2, 3, 4, 5, 6, 7, 8, 9, 10, 11, 12] [0] rfl rfl (by decide) (by decide) (va_runV (As := [.int (nI w9)]) (rest := []) ⟨hx, hb, hml, hown, hts⟩ (k_X8_ranked l dC dI h cs H.size I L A Q G J w9 R M a (by first | assumption | omega) hR (by first | assumption | omega | exact hR1) (by first | assumption | omega | exact hR5) hM (by first | assumption | omega | exact hM1) (by first | assumption | omega | exact hM4) ha (by first | assumption | omega | exact ha2)) (cwV 1 hts gX9_nearest_X8_ranked rfl rfl rfl (by decide +kernel) ⟨Nat.le_of_ble_eq_true rfl, Nat.le_of_ble_eq_true rfl⟩) (xpV (wc := (wWords h cs I L A Q G J)) hP hD hK hN [1, 2, 3, 4, 5, 6, 7, 8, 9, 10, 11, 12] rfl (by decide) 1 (ci := 8) rfl rfl _) rfl rfl hl.1 rfl (lv_room (Nat.le_of_ble_eq_true rfl)) dX9_nearest_24 ⟨Nat.zero_le _, Nat.zero_le _⟩) (fun r_7 u_6 H locs hw hP hD hS => ?_)
      obtain ⟨i173_8, i174_9, a170_10, a171_11, a172_12, hf_13, rfl⟩ := hw
      have hP : va_P (dC, dI) vwCl (wFO h cs (va_up (va_up I 173 i173_8) 174 i174_9) L (va_up (va_up (va_up A 170 a170_10) 171 a171_11) 172 a172_12) Q G J) H := hP
      have hD : va_D A0 (wFO h cs (va_up (va_up I 173 i173_8) 174 i174_9) L (va_up (va_up (va_up A 170 a170_10) 171 a171_11) 172 a172_12) Q G J) := hD
      exact xr_i (v := r_7) hx hb hr hlocks hK hS dX9_nearest_27 ((va_up (va_up I 173 i173_8) 174 i174_9), L, (va_up (va_up (va_up A 170 a170_10) 171 a171_11) 172 a172_12), Q, G, J) ⟨i173_8, i174_9, a170_10, a171_11, a172_12, trivial, rfl⟩ hP hD
    · skip
      refine lv_iconst (v := (-1)) hx hb dX9_nearest_15 (by decide) ?_
      refine lv_goto (tgt := 27) hx hb dX9_nearest_16 (by decide) ?_
      exact xr_i (v := (-1)) hx hb hr hlocks hK hS dX9_nearest_27 ((va_up (va_up I 173 (I 173)) 174 (I 174)), L, (va_up (va_up (va_up A 170 (A 170)) 171 (A 171)) 172 (A 172)), Q, G, J) ⟨(I 173), (I 174), (A 170), (A 171), (A 172), trivial, rfl⟩ hP hD
set_option maxRecDepth 20000 in
theorem ggX9_soft_X3_hasColumn : GoodIn wsX9_soft wsX3_hasColumn := goodIn_r _ [8, 9, 65, 66, 67, 68, 69, 70] (by decide +kernel) (by decide +kernel)
set_option maxRecDepth 20000 in
theorem gX9_soft_X3_hasColumn : GoodIn wsX9_soft (wsV RX9 95 RX3 yX3_hasColumn wsX3_hasColumn) := goodIn_app (goodIn_of _ (by decide +kernel)) ggX9_soft_X3_hasColumn
set_option maxRecDepth 20000 in
theorem ggX9_soft_X3_bitsOfLetter : GoodIn wsX9_soft wsX3_bitsOfLetter := goodIn_r _ [13, 14, 65, 66, 67, 68, 69, 70] (by decide +kernel) (by decide +kernel)
set_option maxRecDepth 20000 in
theorem gX9_soft_X3_bitsOfLetter : GoodIn wsX9_soft (wsV RX9 166 RX3 yX3_bitsOfLetter wsX3_bitsOfLetter) := goodIn_app (goodIn_of _ (by decide +kernel)) ggX9_soft_X3_bitsOfLetter
set_option maxRecDepth 20000 in
theorem ggX9_soft_X8_leastWith : GoodIn wsX9_soft wsX8_leastWith := goodIn_r _ [19, 20, 21, 22, 23, 24, 25, 26, 27, 28, 29, 18, 30, 31, 32, 33, 34, 35, 7, 36, 9, 37, 11, 12, 13, 14, 38, 39, 40, 41, 42, 43, 44, 45, 46, 47, 48, 49, 50, 51, 52, 53, 54, 55, 71, 72, 73, 74, 75, 76, 65, 66, 67, 68, 69, 70] (by decide +kernel) (by decide +kernel)
set_option maxRecDepth 20000 in
theorem gX9_soft_X8_leastWith : GoodIn wsX9_soft (wsV RX9 170 RX8 yX8_leastWith wsX8_leastWith) := goodIn_app (goodIn_of _ (by decide +kernel)) ggX9_soft_X8_leastWith
theorem bdX9_soft_0 : (decode cX9_soft 0 = .ok (.aload_n 0, 1)) ∧ (decode cX9_soft 1 = .ok (.getfield 12, 3)) ∧ (decode cX9_soft 4 = .ok (.iload_n 1, 1)) ∧ (decode cX9_soft 5 = .ok (.invokevirtual 95, 3)) ∧ (decode cX9_soft 8 = .ok (.ifCond .eq 18, 3)) ∧ (decode cX9_soft 11 = .ok (.iload_n 2, 1)) ∧ (decode cX9_soft 12 = .ok (.ifCond .lt 14, 3)) ∧ (decode cX9_soft 15 = .ok (.iload_n 2, 1)) ∧ (decode cX9_soft 16 = .ok (.aload_n 0, 1)) ∧ (decode cX9_soft 17 = .ok (.getfield 12, 3)) ∧ (decode cX9_soft 20 = .ok (.invokevirtual 166, 3)) ∧ (decode cX9_soft 23 = .ok (.if_icmp .lt 6, 3)) ∧ (decode cX9_soft 26 = .ok (.ldc 169, 2)) ∧ (decode cX9_soft 28 = .ok (.ireturn, 1)) ∧ (decode cX9_soft 29 = .ok (.aload_n 0, 1)) ∧ (decode cX9_soft 30 = .ok (.getfield 44, 3)) := by decide +kernel
theorem dX9_soft_0 : decode cX9_soft 0 = .ok (.aload_n 0, 1) := bdX9_soft_0.1
theorem dX9_soft_1 : decode cX9_soft 1 = .ok (.getfield 12, 3) := bdX9_soft_0.2.1
theorem dX9_soft_4 : decode cX9_soft 4 = .ok (.iload_n 1, 1) := bdX9_soft_0.2.2.1
theorem dX9_soft_5 : decode cX9_soft 5 = .ok (.invokevirtual 95, 3) := bdX9_soft_0.2.2.2.1
theorem dX9_soft_8 : decode cX9_soft 8 = .ok (.ifCond .eq 18, 3) := bdX9_soft_0.2.2.2.2.1
theorem dX9_soft_11 : decode cX9_soft 11 = .ok (.iload_n 2, 1) := bdX9_soft_0.2.2.2.2.2.1
theorem dX9_soft_12 : decode cX9_soft 12 = .ok (.ifCond .lt 14, 3) := bdX9_soft_0.2.2.2.2.2.2.1
theorem dX9_soft_15 : decode cX9_soft 15 = .ok (.iload_n 2, 1) := bdX9_soft_0.2.2.2.2.2.2.2.1
theorem dX9_soft_16 : decode cX9_soft 16 = .ok (.aload_n 0, 1) := bdX9_soft_0.2.2.2.2.2.2.2.2.1
theorem dX9_soft_17 : decode cX9_soft 17 = .ok (.getfield 12, 3) := bdX9_soft_0.2.2.2.2.2.2.2.2.2.1
theorem dX9_soft_20 : decode cX9_soft 20 = .ok (.invokevirtual 166, 3) := bdX9_soft_0.2.2.2.2.2.2.2.2.2.2.1
theorem dX9_soft_23 : decode cX9_soft 23 = .ok (.if_icmp .lt 6, 3) := bdX9_soft_0.2.2.2.2.2.2.2.2.2.2.2.1
theorem dX9_soft_26 : decode cX9_soft 26 = .ok (.ldc 169, 2) := bdX9_soft_0.2.2.2.2.2.2.2.2.2.2.2.2.1
theorem dX9_soft_28 : decode cX9_soft 28 = .ok (.ireturn, 1) := bdX9_soft_0.2.2.2.2.2.2.2.2.2.2.2.2.2.1
theorem dX9_soft_29 : decode cX9_soft 29 = .ok (.aload_n 0, 1) := bdX9_soft_0.2.2.2.2.2.2.2.2.2.2.2.2.2.2.1
theorem dX9_soft_30 : decode cX9_soft 30 = .ok (.getfield 44, 3) := bdX9_soft_0.2.2.2.2.2.2.2.2.2.2.2.2.2.2.2
theorem bdX9_soft_33 : (decode cX9_soft 33 = .ok (.iload_n 1, 1)) ∧ (decode cX9_soft 34 = .ok (.iload_n 2, 1)) ∧ (decode cX9_soft 35 = .ok (.iconst 1, 1)) ∧ (decode cX9_soft 36 = .ok (.invokevirtual 170, 3)) ∧ (decode cX9_soft 39 = .ok (.aload_n 0, 1)) ∧ (decode cX9_soft 40 = .ok (.getfield 44, 3)) ∧ (decode cX9_soft 43 = .ok (.iload_n 1, 1)) ∧ (decode cX9_soft 44 = .ok (.iload_n 2, 1)) ∧ (decode cX9_soft 45 = .ok (.iconst 0, 1)) ∧ (decode cX9_soft 46 = .ok (.invokevirtual 170, 3)) ∧ (decode cX9_soft 49 = .ok (.isub, 1)) ∧ (decode cX9_soft 50 = .ok (.ireturn, 1)) := by decide +kernel
theorem dX9_soft_33 : decode cX9_soft 33 = .ok (.iload_n 1, 1) := bdX9_soft_33.1
theorem dX9_soft_34 : decode cX9_soft 34 = .ok (.iload_n 2, 1) := bdX9_soft_33.2.1
theorem dX9_soft_35 : decode cX9_soft 35 = .ok (.iconst 1, 1) := bdX9_soft_33.2.2.1
theorem dX9_soft_36 : decode cX9_soft 36 = .ok (.invokevirtual 170, 3) := bdX9_soft_33.2.2.2.1
theorem dX9_soft_39 : decode cX9_soft 39 = .ok (.aload_n 0, 1) := bdX9_soft_33.2.2.2.2.1
theorem dX9_soft_40 : decode cX9_soft 40 = .ok (.getfield 44, 3) := bdX9_soft_33.2.2.2.2.2.1
theorem dX9_soft_43 : decode cX9_soft 43 = .ok (.iload_n 1, 1) := bdX9_soft_33.2.2.2.2.2.2.1
theorem dX9_soft_44 : decode cX9_soft 44 = .ok (.iload_n 2, 1) := bdX9_soft_33.2.2.2.2.2.2.2.1
theorem dX9_soft_45 : decode cX9_soft 45 = .ok (.iconst 0, 1) := bdX9_soft_33.2.2.2.2.2.2.2.2.1
theorem dX9_soft_46 : decode cX9_soft 46 = .ok (.invokevirtual 170, 3) := bdX9_soft_33.2.2.2.2.2.2.2.2.2.1
theorem dX9_soft_49 : decode cX9_soft 49 = .ok (.isub, 1) := bdX9_soft_33.2.2.2.2.2.2.2.2.2.2.1
theorem dX9_soft_50 : decode cX9_soft 50 = .ok (.ireturn, 1) := bdX9_soft_33.2.2.2.2.2.2.2.2.2.2.2
set_option maxHeartbeats 4000000 in
set_option maxRecDepth 100000 in
theorem k_X9_soft (l : Launch) (dC : Nat → ClassId) (dI : Nat → Nat → Nat) (h : Nat → Nat) (cs : Nat → ClassId) (sz : Nat) (I : Nat → Int32) (L : Nat → Int64) (A : Nat → Nat → Int32) (Q : Nat → Nat → Int64) (G : Nat → Nat → Nat → Int32) (J : Nat → Nat → Nat → Int64) (x y : Int32) (R M a : Nat) (hR : I 120 = nI R) (hR1 : 1 ≤ R) (hR5 : R ≤ 5) (hM : I 121 = nI M) (hM1 : 1 ≤ M) (hM4 : M ≤ 4) (ha : I 122 = nI a) (ha2 : a = 2 ∨ a = 4) : Met l yX9_soft wsX9_soft ({ frames := 5, cells := 0, slots := 0, locals := 113 }) (va_Pc [.ref (h 100), .int x, .int y] (xPre (dC, dI) (wFO h cs I L A Q G J) (tysA cs) sz)) (va_Qi (fun (r : Int32) (u : CS) => ∃ i173 : Int32, ∃ a170 : Nat → Int32, (True) ∧ u = ((va_up I 173 i173), L, (va_up A 170 a170), Q, G, J)) (xB (dC, dI) (tysA cs) (va_A (wFO h cs I L A Q G J) sz) (fun u : CS => wFO h cs u.1 u.2.1 u.2.2.1 u.2.2.2.1 u.2.2.2.2.1 u.2.2.2.2.2)) (va_A (wFO h cs I L A Q G J) sz)) 0 0 (va_A (wFO h cs I L A Q G J) sz) := by
  refine Met.ofW (cc := cX9_soft) (maxL := 3) (ret := (some .int)) (by decide) rfl ?_
  intro p e s m args below meth c s₁ B hml hv
  obtain ⟨rfl, hsz, hP, hK, hD0, hN⟩ := hv
  have hx := B.exec
  have hb := B.bytes
  have hr := B.returns
  have hts := atoms_spec (ws := wsX9_soft) B.pre
  have hown : s.vm.findClass RX9 = some m.cls := findClass_of_methodNamed B.named
  have hlocks := B.notSynchronized
  subst hsz
  have hD := hD0.self (sz := s.heap.size)
  generalize hAe : va_A (wFO h cs I L A Q G J) s.heap.size = A0 at hD ⊢
  have hA : ∀ q : Nat, s.heap.size ≤ q → A0 q := fun q h => by rw [← hAe]; exact Or.inr h
  have hl := lv_entry ([.ref (h 100), .int x, .int y]) (n := 3) (Nat.le_of_ble_eq_true rfl)
  rw [lg_entry_eq]
  generalize (lg_sl ([.ref (h 100), .int x, .int y]) ++ List.replicate (3 - (lg_sl ([.ref (h 100), .int x, .int y])).length) Slot.unset).toArray = ls at hl ⊢
  have hl : lv_has ls 3 [(0, .ref (h 100)), (1, .int x), (2, .int y)] := hl
  generalize hH : s.heap = H at hP ⊢
  have hS : va_S A0 s.heap H [] := by rw [← hH]; exact va_S.rf
  have hinX9 : ∀ w ∈ wsX90, w ∈ wsX9_soft := by decide +kernel
  have hpw : a ^ M ≤ 256 := pw_le ha2 hM4
  refine lv_aload_n hx hb dX9_soft_0 rfl (lv_at hl 0 rfl) ?_
  refine va_get (D := (dC, dI)) (ci := 9) (v := .ref (h 101)) (C := RX9) (T := TX9) (N := 9) hx hb hts hinX9 hown hK hP 0 rfl rfl 0 (by decide) (hts (.fieldLink RX9 12 "MixedWords" "mix" "LMixedWords$Mix;") (by decide +kernel)) (fun _ h9 => h9) rfl dX9_soft_1 ?_
  refine lv_iload_n hx hb dX9_soft_4 rfl (lv_at hl 1 rfl) ?_
  refine xj_i (wc := (wMix h cs I L A Q G J)) (wr := [(h 100, .inr (9, [.ref (h 101), .ref (h 102), .ref (h 103), .ref (h 104), .ref (h 105), .ref (h 106), .ref (h 107), .ref (h 108), .ref (h 109)])), (h 105, .inr (8, [.ref (h 101), .ref (h 170), .ref (h 171), .ref (h 172), .int (I 173), .int (I 174)])), (h 170, .inl (cs 0, 256, .inl (A 170))), (h 171, .inl (cs 0, 256, .inl (A 171))), (h 172, .inl (cs 0, 256, .inl (A 172)))]) hP hD hS hA [5, 6, 7, 8, 9, 10, 11, 12] [0, 1, 2, 3, 4] rfl rfl (by decide) (by decide) (va_runV (As := [.int x]) (rest := []) ⟨hx, hb, hml, hown, hts⟩ (k_X3_hasColumn l dC dI h cs H.size I L A Q G J x M hM (by first | assumption | omega | exact hM1) (by first | assumption | omega | exact hM4)) (cwV 1 hts gX9_soft_X3_hasColumn rfl rfl rfl (by decide +kernel) ⟨Nat.le_of_ble_eq_true rfl, Nat.le_of_ble_eq_true rfl⟩) (xpV (wc := (wMix h cs I L A Q G J)) hP hD hK hN [5, 6, 7, 8, 9, 10, 11, 12] rfl (by decide) 5 (ci := 3) rfl rfl _) rfl rfl hl.1 rfl (lv_room (Nat.le_of_ble_eq_true rfl)) dX9_soft_5 ⟨Nat.zero_le _, Nat.zero_le _⟩) (fun r_2 u_1 H locs hw hP hD hS => ?_)
  obtain ⟨hf_3, rfl⟩ := hw
  have hP : va_P (dC, dI) vwCl (wFO h cs I L A Q G J) H := hP
  have hD : va_D A0 (wFO h cs I L A Q G J) := hD
  rcases hf_3 with ⟨rfl, i_4, hi_5, hx_6⟩ | ⟨rfl, hn_7⟩
  · skip
    rw [hx_6] at hl
    refine lv_if_eq (tgt := 26) hx hb dX9_soft_8 (by decide) (fun c9 => False.elim (by revert c9; decide +kernel)) (fun _ => ?_)
    refine lv_iload_n hx hb dX9_soft_11 rfl (lv_at hl 2 rfl) ?_
    refine lv_if_lt (tgt := 26) hx hb dX9_soft_12 (by decide) (fun c_12_7 => ?_) (fun c_12_7 => ?_)
    · skip
      refine lv_ldc (v := (-100000001)) hx hb hown (hts (.constant RX9 169 (-100000001)) (by decide +kernel)) dX9_soft_26 ?_
      exact xr_i (v := (-100000001 : Int32)) hx hb hr hlocks hK hS dX9_soft_28 ((va_up I 173 (I 173)), L, (va_up A 170 (A 170)), Q, G, J) ⟨(I 173), (A 170), trivial, rfl⟩ hP hD
    · skip
      refine lv_iload_n hx hb dX9_soft_15 rfl (lv_at hl 2 rfl) ?_
      refine lv_aload_n hx hb dX9_soft_16 rfl (lv_at hl 0 rfl) ?_
      refine va_get (D := (dC, dI)) (ci := 9) (v := .ref (h 101)) (C := RX9) (T := TX9) (N := 9) hx hb hts hinX9 hown hK hP 0 rfl rfl 0 (by decide) (hts (.fieldLink RX9 12 "MixedWords" "mix" "LMixedWords$Mix;") (by decide +kernel)) (fun _ h9 => h9) rfl dX9_soft_17 ?_
      refine xj_i (wc := (wMix h cs I L A Q G J)) (wr := [(h 100, .inr (9, [.ref (h 101), .ref (h 102), .ref (h 103), .ref (h 104), .ref (h 105), .ref (h 106), .ref (h 107), .ref (h 108), .ref (h 109)])), (h 105, .inr (8, [.ref (h 101), .ref (h 170), .ref (h 171), .ref (h 172), .int (I 173), .int (I 174)])), (h 170, .inl (cs 0, 256, .inl (A 170))), (h 171, .inl (cs 0, 256, .inl (A 171))), (h 172, .inl (cs 0, 256, .inl (A 172)))]) hP hD hS hA [5, 6, 7, 8, 9, 10, 11, 12] [0, 1, 2, 3, 4] rfl rfl (by decide) (by decide) (va_runV (As := []) (rest := [.int y]) ⟨hx, hb, hml, hown, hts⟩ (k_X3_bitsOfLetter l dC dI h cs H.size I L A Q G J a ha (by first | assumption | omega | exact ha2)) (cwV 0 hts gX9_soft_X3_bitsOfLetter rfl rfl rfl (by decide +kernel) ⟨Nat.le_of_ble_eq_true rfl, Nat.le_of_ble_eq_true rfl⟩) (xpV (wc := (wMix h cs I L A Q G J)) hP hD hK hN [5, 6, 7, 8, 9, 10, 11, 12] rfl (by decide) 5 (ci := 3) rfl rfl _) rfl rfl hl.1 rfl (lv_room (Nat.le_of_ble_eq_true rfl)) dX9_soft_20 ⟨Nat.zero_le _, Nat.zero_le _⟩) (fun r_10 u_9 H locs hw hP hD hS => ?_)
      obtain ⟨hf_11, rfl⟩ := hw
      have hP : va_P (dC, dI) vwCl (wFO h cs I L A Q G J) H := hP
      have hD : va_D A0 (wFO h cs I L A Q G J) := hD
      obtain rfl := hf_11
      refine lv_icmp_lt (tgt := 29) hx hb dX9_soft_23 (by decide) (fun c_23_11 => ?_) (fun c_23_11 => ?_)
      · skip
        obtain ⟨b9, hb9, hxb9⟩ := rg_yes (x := y) (n := a / 2) (by omega) (by assumption) (Int32.not_le.mpr (by assumption))
        rw [hxb9] at hl
        refine lv_aload_n hx hb dX9_soft_29 rfl (lv_at hl 0 rfl) ?_
        refine va_get (D := (dC, dI)) (ci := 9) (v := .ref (h 105)) (C := RX9) (T := TX9) (N := 9) hx hb hts hinX9 hown hK hP 0 rfl rfl 4 (by decide) (hts (.fieldLink RX9 44 "MixedWords" "words" "LMixedWords$Words;") (by decide +kernel)) (fun _ h9 => h9) rfl dX9_soft_30 ?_
        refine lv_iload_n hx hb dX9_soft_33 rfl (lv_at hl 1 rfl) ?_
        refine lv_iload_n hx hb dX9_soft_34 rfl (lv_at hl 2 rfl) ?_
        refine lv_iconst (v := nI 1) hx hb dX9_soft_35 (by decide) ?_
        refine xj_i (wc := (wWords h cs I L A Q G J)) (wr := [(h 100, .inr (9, [.ref (h 101), .ref (h 102), .ref (h 103), .ref (h 104), .ref (h 105), .ref (h 106), .ref (h 107), .ref (h 108), .ref (h 109)]))]) hP hD hS hA [1, 2, 3, 4, 5, 6, 7, 8, 9, 10, 11, 12] [0] rfl rfl (by decide) (by decide) (va_runV (As := [.int (nI i_4), .int (nI b9), .int (nI 1)]) (rest := []) ⟨hx, hb, hml, hown, hts⟩ (k_X8_leastWith l dC dI h cs H.size I L A Q G J i_4 b9 1 R M a (by first | assumption | omega) (by first | assumption | omega) (by first | assumption | omega) hR (by first | assumption | omega | exact hR1) (by first | assumption | omega | exact hR5) hM (by first | assumption | omega | exact hM1) (by first | assumption | omega | exact hM4) ha (by first | assumption | omega | exact ha2)) (cwV 3 hts gX9_soft_X8_leastWith rfl rfl rfl (by decide +kernel) ⟨Nat.le_of_ble_eq_true rfl, Nat.le_of_ble_eq_true rfl⟩) (xpV (wc := (wWords h cs I L A Q G J)) hP hD hK hN [1, 2, 3, 4, 5, 6, 7, 8, 9, 10, 11, 12] rfl (by decide) 1 (ci := 8) rfl rfl _) rfl rfl hl.1 rfl (lv_room (Nat.le_of_ble_eq_true rfl)) dX9_soft_36 ⟨Nat.zero_le _, Nat.zero_le _⟩) (fun r_14 u_13 H locs hw hP hD hS => ?_)
        obtain ⟨f170_15, x173_16, hf_17, rfl⟩ := hw
        have hP : va_P (dC, dI) vwCl (wFO h cs (va_up I 173 x173_16) L (va_up A 170 f170_15) Q G J) H := hP
        have hD : va_D A0 (wFO h cs (va_up I 173 x173_16) L (va_up A 170 f170_15) Q G J) := hD
        refine lv_aload_n hx hb dX9_soft_39 rfl (lv_at hl 0 rfl) ?_
        refine va_get (D := (dC, dI)) (ci := 9) (v := .ref (h 105)) (C := RX9) (T := TX9) (N := 9) hx hb hts hinX9 hown hK hP 0 rfl rfl 4 (by decide) (hts (.fieldLink RX9 44 "MixedWords" "words" "LMixedWords$Words;") (by decide +kernel)) (fun _ h9 => h9) rfl dX9_soft_40 ?_
        refine lv_iload_n hx hb dX9_soft_43 rfl (lv_at hl 1 rfl) ?_
        refine lv_iload_n hx hb dX9_soft_44 rfl (lv_at hl 2 rfl) ?_
        refine lv_iconst (v := nI 0) hx hb dX9_soft_45 (by decide) ?_
        refine xj_i (wc := (wWords h cs (va_up I 173 x173_16) L (va_up A 170 f170_15) Q G J)) (wr := [(h 100, .inr (9, [.ref (h 101), .ref (h 102), .ref (h 103), .ref (h 104), .ref (h 105), .ref (h 106), .ref (h 107), .ref (h 108), .ref (h 109)]))]) hP hD hS hA [1, 2, 3, 4, 5, 6, 7, 8, 9, 10, 11, 12] [0] rfl rfl (by decide) (by decide) (va_runV (As := [.int (nI i_4), .int (nI b9), .int (nI 0)]) (rest := [.int r_14]) ⟨hx, hb, hml, hown, hts⟩ (k_X8_leastWith l dC dI h cs H.size (va_up I 173 x173_16) L (va_up A 170 f170_15) Q G J i_4 b9 0 R M a (by first | assumption | omega) (by first | assumption | omega) (by first | assumption | omega) hR (by first | assumption | omega | exact hR1) (by first | assumption | omega | exact hR5) hM (by first | assumption | omega | exact hM1) (by first | assumption | omega | exact hM4) ha (by first | assumption | omega | exact ha2)) (cwV 3 hts gX9_soft_X8_leastWith rfl rfl rfl (by decide +kernel) ⟨Nat.le_of_ble_eq_true rfl, Nat.le_of_ble_eq_true rfl⟩) (xpV (wc := (wWords h cs (va_up I 173 x173_16) L (va_up A 170 f170_15) Q G J)) hP hD hK hN [1, 2, 3, 4, 5, 6, 7, 8, 9, 10, 11, 12] rfl (by decide) 1 (ci := 8) rfl rfl _) rfl rfl hl.1 rfl (lv_room (Nat.le_of_ble_eq_true rfl)) dX9_soft_46 ⟨Nat.zero_le _, Nat.zero_le _⟩) (fun r_19 u_18 H locs hw hP hD hS => ?_)
        obtain ⟨f170_20, x173_21, hf_22, rfl⟩ := hw
        have hP : va_P (dC, dI) vwCl (wFO h cs (va_up I 173 x173_21) L (va_up A 170 f170_20) Q G J) H := hP
        have hD : va_D A0 (wFO h cs (va_up I 173 x173_21) L (va_up A 170 f170_20) Q G J) := hD
        refine lv_isub hx hb dX9_soft_49 ?_
        exact xr_i (v := (r_14 - r_19)) hx hb hr hlocks hK hS dX9_soft_50 ((va_up I 173 x173_21), L, (va_up A 170 f170_20), Q, G, J) ⟨x173_21, f170_20, trivial, rfl⟩ hP hD
      · skip
        refine lv_ldc (v := (-100000001)) hx hb hown (hts (.constant RX9 169 (-100000001)) (by decide +kernel)) dX9_soft_26 ?_
        exact xr_i (v := (-100000001 : Int32)) hx hb hr hlocks hK hS dX9_soft_28 ((va_up I 173 (I 173)), L, (va_up A 170 (A 170)), Q, G, J) ⟨(I 173), (A 170), trivial, rfl⟩ hP hD
  · skip
    refine lv_if_eq (tgt := 26) hx hb dX9_soft_8 (by decide) (fun _ => ?_) (fun c9 => False.elim (by revert c9; decide +kernel))
    refine lv_ldc (v := (-100000001)) hx hb hown (hts (.constant RX9 169 (-100000001)) (by decide +kernel)) dX9_soft_26 ?_
    exact xr_i (v := (-100000001 : Int32)) hx hb hr hlocks hK hS dX9_soft_28 ((va_up I 173 (I 173)), L, (va_up A 170 (A 170)), Q, G, J) ⟨(I 173), (A 170), trivial, rfl⟩ hP hD
set_option maxRecDepth 20000 in
theorem ggX9_worth_X2_worthOf : GoodIn wsX9_worth wsX2_worthOf := goodIn_r _ [9, 10, 11, 12, 13, 14, 15, 16, 17, 18, 19, 8, 20, 30, 31, 32, 33, 34, 35, 36, 37, 38, 39, 40] (by decide +kernel) (by decide +kernel)
set_option maxRecDepth 20000 in
theorem gX9_worth_X2_worthOf : GoodIn wsX9_worth (wsV RX9 180 RX2 yX2_worthOf wsX2_worthOf) := goodIn_app (goodIn_of _ (by decide +kernel)) ggX9_worth_X2_worthOf
theorem bdX9_worth_0 : (decode cX9_worth 0 = .ok (.iload_n 1, 1)) ∧ (decode cX9_worth 1 = .ok (.iconst 1, 1)) ∧ (decode cX9_worth 2 = .ok (.if_icmp .lt 16, 3)) ∧ (decode cX9_worth 5 = .ok (.iload_n 1, 1)) ∧ (decode cX9_worth 6 = .ok (.iconst 1, 1)) ∧ (decode cX9_worth 7 = .ok (.aload_n 0, 1)) ∧ (decode cX9_worth 8 = .ok (.getfield 12, 3)) ∧ (decode cX9_worth 11 = .ok (.getfield 106, 3)) ∧ (decode cX9_worth 14 = .ok (.ishl, 1)) ∧ (decode cX9_worth 15 = .ok (.if_icmp .lt 7, 3)) ∧ (decode cX9_worth 18 = .ok (.ldc2_w 178, 3)) ∧ (decode cX9_worth 21 = .ok (.lreturn, 1)) ∧ (decode cX9_worth 22 = .ok (.aload_n 0, 1)) ∧ (decode cX9_worth 23 = .ok (.getfield 51, 3)) ∧ (decode cX9_worth 26 = .ok (.aload_n 0, 1)) ∧ (decode cX9_worth 27 = .ok (.getfield 12, 3)) := by decide +kernel
theorem dX9_worth_0 : decode cX9_worth 0 = .ok (.iload_n 1, 1) := bdX9_worth_0.1
theorem dX9_worth_1 : decode cX9_worth 1 = .ok (.iconst 1, 1) := bdX9_worth_0.2.1
theorem dX9_worth_2 : decode cX9_worth 2 = .ok (.if_icmp .lt 16, 3) := bdX9_worth_0.2.2.1
theorem dX9_worth_5 : decode cX9_worth 5 = .ok (.iload_n 1, 1) := bdX9_worth_0.2.2.2.1
theorem dX9_worth_6 : decode cX9_worth 6 = .ok (.iconst 1, 1) := bdX9_worth_0.2.2.2.2.1
theorem dX9_worth_7 : decode cX9_worth 7 = .ok (.aload_n 0, 1) := bdX9_worth_0.2.2.2.2.2.1
theorem dX9_worth_8 : decode cX9_worth 8 = .ok (.getfield 12, 3) := bdX9_worth_0.2.2.2.2.2.2.1
theorem dX9_worth_11 : decode cX9_worth 11 = .ok (.getfield 106, 3) := bdX9_worth_0.2.2.2.2.2.2.2.1
theorem dX9_worth_14 : decode cX9_worth 14 = .ok (.ishl, 1) := bdX9_worth_0.2.2.2.2.2.2.2.2.1
theorem dX9_worth_15 : decode cX9_worth 15 = .ok (.if_icmp .lt 7, 3) := bdX9_worth_0.2.2.2.2.2.2.2.2.2.1
theorem dX9_worth_18 : decode cX9_worth 18 = .ok (.ldc2_w 178, 3) := bdX9_worth_0.2.2.2.2.2.2.2.2.2.2.1
theorem dX9_worth_21 : decode cX9_worth 21 = .ok (.lreturn, 1) := bdX9_worth_0.2.2.2.2.2.2.2.2.2.2.2.1
theorem dX9_worth_22 : decode cX9_worth 22 = .ok (.aload_n 0, 1) := bdX9_worth_0.2.2.2.2.2.2.2.2.2.2.2.2.1
theorem dX9_worth_23 : decode cX9_worth 23 = .ok (.getfield 51, 3) := bdX9_worth_0.2.2.2.2.2.2.2.2.2.2.2.2.2.1
theorem dX9_worth_26 : decode cX9_worth 26 = .ok (.aload_n 0, 1) := bdX9_worth_0.2.2.2.2.2.2.2.2.2.2.2.2.2.2.1
theorem dX9_worth_27 : decode cX9_worth 27 = .ok (.getfield 12, 3) := bdX9_worth_0.2.2.2.2.2.2.2.2.2.2.2.2.2.2.2
theorem bdX9_worth_30 : (decode cX9_worth 30 = .ok (.iload_n 1, 1)) ∧ (decode cX9_worth 31 = .ok (.invokevirtual 180, 3)) ∧ (decode cX9_worth 34 = .ok (.lreturn, 1)) := by decide +kernel
theorem dX9_worth_30 : decode cX9_worth 30 = .ok (.iload_n 1, 1) := bdX9_worth_30.1
theorem dX9_worth_31 : decode cX9_worth 31 = .ok (.invokevirtual 180, 3) := bdX9_worth_30.2.1
theorem dX9_worth_34 : decode cX9_worth 34 = .ok (.lreturn, 1) := bdX9_worth_30.2.2
set_option maxHeartbeats 4000000 in
set_option maxRecDepth 100000 in
theorem k_X9_worth (l : Launch) (dC : Nat → ClassId) (dI : Nat → Nat → Nat) (h : Nat → Nat) (cs : Nat → ClassId) (sz : Nat) (I : Nat → Int32) (L : Nat → Int64) (A : Nat → Nat → Int32) (Q : Nat → Nat → Int64) (G : Nat → Nat → Nat → Int32) (J : Nat → Nat → Nat → Int64) (x : Int32) (R M : Nat) (hR : I 120 = nI R) (hR1 : 1 ≤ R) (hR5 : R ≤ 5) (hM : I 121 = nI M) (hM1 : 1 ≤ M) (hM4 : M ≤ 4) : Met l yX9_worth wsX9_worth ({ frames := 6, cells := 0, slots := 0, locals := 165 }) (va_Pc [.ref (h 100), .int x] (xPre (dC, dI) (wFL h cs I L A Q G J) (tysA cs) sz)) (va_Ql (fun (r : Int64) (u : CS) => ∃ a186 : Nat → Int32, ∃ j0 : Nat → Nat → Int64, (True) ∧ u = (I, L, (va_up A 186 a186), Q, G, (va_up J 0 j0))) (xB (dC, dI) (tysA cs) (va_A (wFL h cs I L A Q G J) sz) (fun u : CS => wFL h cs u.1 u.2.1 u.2.2.1 u.2.2.2.1 u.2.2.2.2.1 u.2.2.2.2.2)) (va_A (wFL h cs I L A Q G J) sz)) 0 0 (va_A (wFL h cs I L A Q G J) sz) := by
  refine Met.ofW (cc := cX9_worth) (maxL := 2) (ret := (some .long)) (by decide) rfl ?_
  intro p e s m args below meth c s₁ B hml hv
  obtain ⟨rfl, hsz, hP, hK, hD0, hN⟩ := hv
  have hx := B.exec
  have hb := B.bytes
  have hr := B.returns
  have hts := atoms_spec (ws := wsX9_worth) B.pre
  have hown : s.vm.findClass RX9 = some m.cls := findClass_of_methodNamed B.named
  have hlocks := B.notSynchronized
  subst hsz
  have hD := hD0.self (sz := s.heap.size)
  generalize hAe : va_A (wFL h cs I L A Q G J) s.heap.size = A0 at hD ⊢
  have hA : ∀ q : Nat, s.heap.size ≤ q → A0 q := fun q h => by rw [← hAe]; exact Or.inr h
  have hl := lv_entry ([.ref (h 100), .int x]) (n := 2) (Nat.le_of_ble_eq_true rfl)
  rw [lg_entry_eq]
  generalize (lg_sl ([.ref (h 100), .int x]) ++ List.replicate (2 - (lg_sl ([.ref (h 100), .int x])).length) Slot.unset).toArray = ls at hl ⊢
  have hl : lv_has ls 2 [(0, .ref (h 100)), (1, .int x)] := hl
  generalize hH : s.heap = H at hP ⊢
  have hS : va_S A0 s.heap H [] := by rw [← hH]; exact va_S.rf
  have hinX9 : ∀ w ∈ wsX90, w ∈ wsX9_worth := by decide +kernel
  have hinX3 : ∀ w ∈ wsX30, w ∈ wsX9_worth := by decide +kernel
  refine lv_iload_n hx hb dX9_worth_0 rfl (lv_at hl 1 rfl) ?_
  refine lv_iconst (v := nI 1) hx hb dX9_worth_1 (by decide) ?_
  refine lv_icmp_lt (tgt := 18) hx hb dX9_worth_2 (by decide) (fun c_2_0 => ?_) (fun c_2_0 => ?_)
  · skip
    refine lv_ldc2 (v := (-1)) hx hb hown (hts (.constantLong RX9 178 (-1)) (by decide +kernel)) dX9_worth_18 ?_
    exact xr_l (v := (-1 : Int64)) hx hb hr hlocks hK hS dX9_worth_21 (I, L, (va_up A 186 (A 186)), Q, G, (va_up J 0 (J 0))) ⟨(A 186), (J 0), trivial, rfl⟩ hP hD
  · skip
    refine lv_iload_n hx hb dX9_worth_5 rfl (lv_at hl 1 rfl) ?_
    refine lv_iconst (v := nI 1) hx hb dX9_worth_6 (by decide) ?_
    refine lv_aload_n hx hb dX9_worth_7 rfl (lv_at hl 0 rfl) ?_
    refine va_get (D := (dC, dI)) (ci := 9) (v := .ref (h 101)) (C := RX9) (T := TX9) (N := 9) hx hb hts hinX9 hown hK hP 0 rfl rfl 0 (by decide) (hts (.fieldLink RX9 12 "MixedWords" "mix" "LMixedWords$Mix;") (by decide +kernel)) (fun _ h9 => h9) rfl dX9_worth_8 ?_
    refine va_get (D := (dC, dI)) (ci := 3) (v := .int (I 121)) (C := RX3) (T := TX3) (N := 6) hx hb hts hinX3 hown hK hP 10 rfl rfl 1 (by decide) (hts (.fieldLink RX9 106 "MixedWords$Mix" "width" "I") (by decide +kernel)) (fun _ h9 => h9) rfl dX9_worth_11 ?_
    refine xt_i (y := nI M) (hM) ?_
    refine lv_ishl hx hb dX9_worth_14 ?_
    refine lv_icmp_lt (tgt := 22) hx hb dX9_worth_15 (by decide) (fun c_15_1 => ?_) (fun c_15_1 => ?_)
    · skip
      refine lv_aload_n hx hb dX9_worth_22 rfl (lv_at hl 0 rfl) ?_
      refine va_get (D := (dC, dI)) (ci := 9) (v := .ref (h 106)) (C := RX9) (T := TX9) (N := 9) hx hb hts hinX9 hown hK hP 0 rfl rfl 5 (by decide) (hts (.fieldLink RX9 51 "MixedWords" "least" "LMixedWords$Least;") (by decide +kernel)) (fun _ h9 => h9) rfl dX9_worth_23 ?_
      refine lv_aload_n hx hb dX9_worth_26 rfl (lv_at hl 0 rfl) ?_
      refine va_get (D := (dC, dI)) (ci := 9) (v := .ref (h 101)) (C := RX9) (T := TX9) (N := 9) hx hb hts hinX9 hown hK hP 0 rfl rfl 0 (by decide) (hts (.fieldLink RX9 12 "MixedWords" "mix" "LMixedWords$Mix;") (by decide +kernel)) (fun _ h9 => h9) rfl dX9_worth_27 ?_
      refine lv_iload_n hx hb dX9_worth_30 rfl (lv_at hl 1 rfl) ?_
      refine xj_l (wc := (wLm h cs I L A Q G J)) (wr := [(h 100, .inr (9, [.ref (h 101), .ref (h 102), .ref (h 103), .ref (h 104), .ref (h 105), .ref (h 106), .ref (h 107), .ref (h 108), .ref (h 109)]))]) hP hD hS hA [1, 2, 3, 4, 5, 6, 7, 8, 9, 10, 11, 12, 13, 14, 15, 16, 17] [0] rfl rfl (by decide) (by decide) (va_runV (As := [.ref (h 101), .int x]) (rest := []) ⟨hx, hb, hml, hown, hts⟩ (k_X2_worthOf l dC dI h cs H.size I L A Q G J x R M hR (by first | assumption | omega | exact hR1) (by first | assumption | omega | exact hR5) hM (by first | assumption | omega | exact hM1) (by first | assumption | omega | exact hM4)) (cwV 2 hts gX9_worth_X2_worthOf rfl rfl rfl (by decide +kernel) ⟨Nat.le_of_ble_eq_true rfl, Nat.le_of_ble_eq_true rfl⟩) (xpV (wc := (wLm h cs I L A Q G J)) hP hD hK hN [1, 2, 3, 4, 5, 6, 7, 8, 9, 10, 11, 12, 13, 14, 15, 16, 17] rfl (by decide) 1 (ci := 2) rfl rfl _) rfl rfl hl.1 rfl (lv_room (Nat.le_of_ble_eq_true rfl)) dX9_worth_31 ⟨Nat.zero_le _, Nat.zero_le _⟩) (fun r_4 u_3 H locs hw hP hD hS => ?_)
      obtain ⟨a186_5, j0_6, hf_7, rfl⟩ := hw
      have hP : va_P (dC, dI) vwCl (wFL h cs I L (va_up A 186 a186_5) Q G (va_up J 0 j0_6)) H := hP
      have hD : va_D A0 (wFL h cs I L (va_up A 186 a186_5) Q G (va_up J 0 j0_6)) := hD
      exact xr_l (v := r_4) hx hb hr hlocks hK hS dX9_worth_34 (I, L, (va_up A 186 a186_5), Q, G, (va_up J 0 j0_6)) ⟨a186_5, j0_6, trivial, rfl⟩ hP hD
    · skip
      refine lv_ldc2 (v := (-1)) hx hb hown (hts (.constantLong RX9 178 (-1)) (by decide +kernel)) dX9_worth_18 ?_
      exact xr_l (v := (-1 : Int64)) hx hb hr hlocks hK hS dX9_worth_21 (I, L, (va_up A 186 (A 186)), Q, G, (va_up J 0 (J 0))) ⟨(A 186), (J 0), trivial, rfl⟩ hP hD
theorem bdJ6_bitCount_0f7a4_0 : (decode cJ6_bitCount_0f7a4 0 = .ok (.iload_n 0, 1)) ∧ (decode cJ6_bitCount_0f7a4 1 = .ok (.iload_n 0, 1)) ∧ (decode cJ6_bitCount_0f7a4 2 = .ok (.iconst 1, 1)) ∧ (decode cJ6_bitCount_0f7a4 3 = .ok (.iushr, 1)) ∧ (decode cJ6_bitCount_0f7a4 4 = .ok (.ldc_w 265, 3)) ∧ (decode cJ6_bitCount_0f7a4 7 = .ok (.iand, 1)) ∧ (decode cJ6_bitCount_0f7a4 8 = .ok (.isub, 1)) ∧ (decode cJ6_bitCount_0f7a4 9 = .ok (.istore_n 0, 1)) ∧ (decode cJ6_bitCount_0f7a4 10 = .ok (.iload_n 0, 1)) ∧ (decode cJ6_bitCount_0f7a4 11 = .ok (.ldc_w 266, 3)) ∧ (decode cJ6_bitCount_0f7a4 14 = .ok (.iand, 1)) ∧ (decode cJ6_bitCount_0f7a4 15 = .ok (.iload_n 0, 1)) ∧ (decode cJ6_bitCount_0f7a4 16 = .ok (.iconst 2, 1)) ∧ (decode cJ6_bitCount_0f7a4 17 = .ok (.iushr, 1)) ∧ (decode cJ6_bitCount_0f7a4 18 = .ok (.ldc_w 266, 3)) ∧ (decode cJ6_bitCount_0f7a4 21 = .ok (.iand, 1)) := by decide +kernel
theorem dJ6_bitCount_0f7a4_0 : decode cJ6_bitCount_0f7a4 0 = .ok (.iload_n 0, 1) := bdJ6_bitCount_0f7a4_0.1
theorem dJ6_bitCount_0f7a4_1 : decode cJ6_bitCount_0f7a4 1 = .ok (.iload_n 0, 1) := bdJ6_bitCount_0f7a4_0.2.1
theorem dJ6_bitCount_0f7a4_2 : decode cJ6_bitCount_0f7a4 2 = .ok (.iconst 1, 1) := bdJ6_bitCount_0f7a4_0.2.2.1
theorem dJ6_bitCount_0f7a4_3 : decode cJ6_bitCount_0f7a4 3 = .ok (.iushr, 1) := bdJ6_bitCount_0f7a4_0.2.2.2.1
theorem dJ6_bitCount_0f7a4_4 : decode cJ6_bitCount_0f7a4 4 = .ok (.ldc_w 265, 3) := bdJ6_bitCount_0f7a4_0.2.2.2.2.1
theorem dJ6_bitCount_0f7a4_7 : decode cJ6_bitCount_0f7a4 7 = .ok (.iand, 1) := bdJ6_bitCount_0f7a4_0.2.2.2.2.2.1
theorem dJ6_bitCount_0f7a4_8 : decode cJ6_bitCount_0f7a4 8 = .ok (.isub, 1) := bdJ6_bitCount_0f7a4_0.2.2.2.2.2.2.1
theorem dJ6_bitCount_0f7a4_9 : decode cJ6_bitCount_0f7a4 9 = .ok (.istore_n 0, 1) := bdJ6_bitCount_0f7a4_0.2.2.2.2.2.2.2.1
theorem dJ6_bitCount_0f7a4_10 : decode cJ6_bitCount_0f7a4 10 = .ok (.iload_n 0, 1) := bdJ6_bitCount_0f7a4_0.2.2.2.2.2.2.2.2.1
theorem dJ6_bitCount_0f7a4_11 : decode cJ6_bitCount_0f7a4 11 = .ok (.ldc_w 266, 3) := bdJ6_bitCount_0f7a4_0.2.2.2.2.2.2.2.2.2.1
theorem dJ6_bitCount_0f7a4_14 : decode cJ6_bitCount_0f7a4 14 = .ok (.iand, 1) := bdJ6_bitCount_0f7a4_0.2.2.2.2.2.2.2.2.2.2.1
theorem dJ6_bitCount_0f7a4_15 : decode cJ6_bitCount_0f7a4 15 = .ok (.iload_n 0, 1) := bdJ6_bitCount_0f7a4_0.2.2.2.2.2.2.2.2.2.2.2.1
theorem dJ6_bitCount_0f7a4_16 : decode cJ6_bitCount_0f7a4 16 = .ok (.iconst 2, 1) := bdJ6_bitCount_0f7a4_0.2.2.2.2.2.2.2.2.2.2.2.2.1
theorem dJ6_bitCount_0f7a4_17 : decode cJ6_bitCount_0f7a4 17 = .ok (.iushr, 1) := bdJ6_bitCount_0f7a4_0.2.2.2.2.2.2.2.2.2.2.2.2.2.1
theorem dJ6_bitCount_0f7a4_18 : decode cJ6_bitCount_0f7a4 18 = .ok (.ldc_w 266, 3) := bdJ6_bitCount_0f7a4_0.2.2.2.2.2.2.2.2.2.2.2.2.2.2.1
theorem dJ6_bitCount_0f7a4_21 : decode cJ6_bitCount_0f7a4 21 = .ok (.iand, 1) := bdJ6_bitCount_0f7a4_0.2.2.2.2.2.2.2.2.2.2.2.2.2.2.2
theorem bdJ6_bitCount_0f7a4_22 : (decode cJ6_bitCount_0f7a4 22 = .ok (.iadd, 1)) ∧ (decode cJ6_bitCount_0f7a4 23 = .ok (.istore_n 0, 1)) ∧ (decode cJ6_bitCount_0f7a4 24 = .ok (.iload_n 0, 1)) ∧ (decode cJ6_bitCount_0f7a4 25 = .ok (.iload_n 0, 1)) ∧ (decode cJ6_bitCount_0f7a4 26 = .ok (.iconst 4, 1)) ∧ (decode cJ6_bitCount_0f7a4 27 = .ok (.iushr, 1)) ∧ (decode cJ6_bitCount_0f7a4 28 = .ok (.iadd, 1)) ∧ (decode cJ6_bitCount_0f7a4 29 = .ok (.ldc_w 267, 3)) ∧ (decode cJ6_bitCount_0f7a4 32 = .ok (.iand, 1)) ∧ (decode cJ6_bitCount_0f7a4 33 = .ok (.istore_n 0, 1)) ∧ (decode cJ6_bitCount_0f7a4 34 = .ok (.iload_n 0, 1)) ∧ (decode cJ6_bitCount_0f7a4 35 = .ok (.iload_n 0, 1)) ∧ (decode cJ6_bitCount_0f7a4 36 = .ok (.bipush 8, 2)) ∧ (decode cJ6_bitCount_0f7a4 38 = .ok (.iushr, 1)) ∧ (decode cJ6_bitCount_0f7a4 39 = .ok (.iadd, 1)) ∧ (decode cJ6_bitCount_0f7a4 40 = .ok (.istore_n 0, 1)) := by decide +kernel
theorem dJ6_bitCount_0f7a4_22 : decode cJ6_bitCount_0f7a4 22 = .ok (.iadd, 1) := bdJ6_bitCount_0f7a4_22.1
theorem dJ6_bitCount_0f7a4_23 : decode cJ6_bitCount_0f7a4 23 = .ok (.istore_n 0, 1) := bdJ6_bitCount_0f7a4_22.2.1
theorem dJ6_bitCount_0f7a4_24 : decode cJ6_bitCount_0f7a4 24 = .ok (.iload_n 0, 1) := bdJ6_bitCount_0f7a4_22.2.2.1
theorem dJ6_bitCount_0f7a4_25 : decode cJ6_bitCount_0f7a4 25 = .ok (.iload_n 0, 1) := bdJ6_bitCount_0f7a4_22.2.2.2.1
theorem dJ6_bitCount_0f7a4_26 : decode cJ6_bitCount_0f7a4 26 = .ok (.iconst 4, 1) := bdJ6_bitCount_0f7a4_22.2.2.2.2.1
theorem dJ6_bitCount_0f7a4_27 : decode cJ6_bitCount_0f7a4 27 = .ok (.iushr, 1) := bdJ6_bitCount_0f7a4_22.2.2.2.2.2.1
theorem dJ6_bitCount_0f7a4_28 : decode cJ6_bitCount_0f7a4 28 = .ok (.iadd, 1) := bdJ6_bitCount_0f7a4_22.2.2.2.2.2.2.1
theorem dJ6_bitCount_0f7a4_29 : decode cJ6_bitCount_0f7a4 29 = .ok (.ldc_w 267, 3) := bdJ6_bitCount_0f7a4_22.2.2.2.2.2.2.2.1
theorem dJ6_bitCount_0f7a4_32 : decode cJ6_bitCount_0f7a4 32 = .ok (.iand, 1) := bdJ6_bitCount_0f7a4_22.2.2.2.2.2.2.2.2.1
theorem dJ6_bitCount_0f7a4_33 : decode cJ6_bitCount_0f7a4 33 = .ok (.istore_n 0, 1) := bdJ6_bitCount_0f7a4_22.2.2.2.2.2.2.2.2.2.1
theorem dJ6_bitCount_0f7a4_34 : decode cJ6_bitCount_0f7a4 34 = .ok (.iload_n 0, 1) := bdJ6_bitCount_0f7a4_22.2.2.2.2.2.2.2.2.2.2.1
theorem dJ6_bitCount_0f7a4_35 : decode cJ6_bitCount_0f7a4 35 = .ok (.iload_n 0, 1) := bdJ6_bitCount_0f7a4_22.2.2.2.2.2.2.2.2.2.2.2.1
theorem dJ6_bitCount_0f7a4_36 : decode cJ6_bitCount_0f7a4 36 = .ok (.bipush 8, 2) := bdJ6_bitCount_0f7a4_22.2.2.2.2.2.2.2.2.2.2.2.2.1
theorem dJ6_bitCount_0f7a4_38 : decode cJ6_bitCount_0f7a4 38 = .ok (.iushr, 1) := bdJ6_bitCount_0f7a4_22.2.2.2.2.2.2.2.2.2.2.2.2.2.1
theorem dJ6_bitCount_0f7a4_39 : decode cJ6_bitCount_0f7a4 39 = .ok (.iadd, 1) := bdJ6_bitCount_0f7a4_22.2.2.2.2.2.2.2.2.2.2.2.2.2.2.1
theorem dJ6_bitCount_0f7a4_40 : decode cJ6_bitCount_0f7a4 40 = .ok (.istore_n 0, 1) := bdJ6_bitCount_0f7a4_22.2.2.2.2.2.2.2.2.2.2.2.2.2.2.2
theorem bdJ6_bitCount_0f7a4_41 : (decode cJ6_bitCount_0f7a4 41 = .ok (.iload_n 0, 1)) ∧ (decode cJ6_bitCount_0f7a4 42 = .ok (.iload_n 0, 1)) ∧ (decode cJ6_bitCount_0f7a4 43 = .ok (.bipush 16, 2)) ∧ (decode cJ6_bitCount_0f7a4 45 = .ok (.iushr, 1)) ∧ (decode cJ6_bitCount_0f7a4 46 = .ok (.iadd, 1)) ∧ (decode cJ6_bitCount_0f7a4 47 = .ok (.istore_n 0, 1)) ∧ (decode cJ6_bitCount_0f7a4 48 = .ok (.iload_n 0, 1)) ∧ (decode cJ6_bitCount_0f7a4 49 = .ok (.bipush 63, 2)) ∧ (decode cJ6_bitCount_0f7a4 51 = .ok (.iand, 1)) ∧ (decode cJ6_bitCount_0f7a4 52 = .ok (.ireturn, 1)) := by decide +kernel
theorem dJ6_bitCount_0f7a4_41 : decode cJ6_bitCount_0f7a4 41 = .ok (.iload_n 0, 1) := bdJ6_bitCount_0f7a4_41.1
theorem dJ6_bitCount_0f7a4_42 : decode cJ6_bitCount_0f7a4 42 = .ok (.iload_n 0, 1) := bdJ6_bitCount_0f7a4_41.2.1
theorem dJ6_bitCount_0f7a4_43 : decode cJ6_bitCount_0f7a4 43 = .ok (.bipush 16, 2) := bdJ6_bitCount_0f7a4_41.2.2.1
theorem dJ6_bitCount_0f7a4_45 : decode cJ6_bitCount_0f7a4 45 = .ok (.iushr, 1) := bdJ6_bitCount_0f7a4_41.2.2.2.1
theorem dJ6_bitCount_0f7a4_46 : decode cJ6_bitCount_0f7a4 46 = .ok (.iadd, 1) := bdJ6_bitCount_0f7a4_41.2.2.2.2.1
theorem dJ6_bitCount_0f7a4_47 : decode cJ6_bitCount_0f7a4 47 = .ok (.istore_n 0, 1) := bdJ6_bitCount_0f7a4_41.2.2.2.2.2.1
theorem dJ6_bitCount_0f7a4_48 : decode cJ6_bitCount_0f7a4 48 = .ok (.iload_n 0, 1) := bdJ6_bitCount_0f7a4_41.2.2.2.2.2.2.1
theorem dJ6_bitCount_0f7a4_49 : decode cJ6_bitCount_0f7a4 49 = .ok (.bipush 63, 2) := bdJ6_bitCount_0f7a4_41.2.2.2.2.2.2.2.1
theorem dJ6_bitCount_0f7a4_51 : decode cJ6_bitCount_0f7a4 51 = .ok (.iand, 1) := bdJ6_bitCount_0f7a4_41.2.2.2.2.2.2.2.2.1
theorem dJ6_bitCount_0f7a4_52 : decode cJ6_bitCount_0f7a4 52 = .ok (.ireturn, 1) := bdJ6_bitCount_0f7a4_41.2.2.2.2.2.2.2.2.2
set_option maxHeartbeats 4000000 in
set_option maxRecDepth 100000 in
theorem k_J6_bitCount (l : Launch) (dC : Nat → ClassId) (dI : Nat → Nat → Nat) (h : Nat → Nat) (cs : Nat → ClassId) (sz : Nat) (I : Nat → Int32) (L : Nat → Int64) (A : Nat → Nat → Int32) (Q : Nat → Nat → Int64) (G : Nat → Nat → Nat → Int32) (J : Nat → Nat → Nat → Int64) (x : Int32) : Met l yJ6_bitCount_0f7a4 wsJ6_bitCount_0f7a4 ({ frames := 0, cells := 0, slots := 0, locals := 0 }) (va_Pc [.int x] (xPre (dC, dI) ([] : va_W) (tysA cs) sz)) (va_Qi (fun (r : Int32) (u : CS) => (True) ∧ u = (I, L, A, Q, G, J)) (xB (dC, dI) (tysA cs) (va_A ([] : va_W) sz) (fun _ : CS => ([] : va_W))) (va_A ([] : va_W) sz)) 0 0 (va_A ([] : va_W) sz) := by
  refine Met.ofW (cc := cJ6_bitCount_0f7a4) (maxL := 1) (ret := (some .int)) (by decide) rfl ?_
  intro p e s m args below meth c s₁ B hml hv
  obtain ⟨rfl, hsz, hP, hK, hD0, hN⟩ := hv
  have hx := B.exec
  have hb := B.bytes
  have hr := B.returns
  have hts := atoms_spec (ws := wsJ6_bitCount_0f7a4) B.pre
  have hown : s.vm.findClass RJ6 = some m.cls := findClass_of_methodNamed B.named
  have hlocks := B.notSynchronized
  subst hsz
  have hD := hD0.self (sz := s.heap.size)
  generalize hAe : va_A ([] : va_W) s.heap.size = A0 at hD ⊢
  have hA : ∀ q : Nat, s.heap.size ≤ q → A0 q := fun q h => by rw [← hAe]; exact Or.inr h
  have hl := lv_entry ([.int x]) (n := 1) (Nat.le_of_ble_eq_true rfl)
  rw [lg_entry_eq]
  generalize (lg_sl ([.int x]) ++ List.replicate (1 - (lg_sl ([.int x])).length) Slot.unset).toArray = ls at hl ⊢
  have hl : lv_has ls 1 [(0, .int x)] := hl
  generalize hH : s.heap = H at hP ⊢
  have hS : va_S A0 s.heap H [] := by rw [← hH]; exact va_S.rf
  refine lv_iload_n hx hb dJ6_bitCount_0f7a4_0 rfl (lv_at hl 0 rfl) ?_
  refine lv_iload_n hx hb dJ6_bitCount_0f7a4_1 rfl (lv_at hl 0 rfl) ?_
  refine lv_iconst (v := nI 1) hx hb dJ6_bitCount_0f7a4_2 (by decide) ?_
  refine lv_iushr (v := (x.toUInt32 >>> ((nI 1).toUInt32 &&& Int32.toUInt32 31)).toInt32) hx hb dJ6_bitCount_0f7a4_3 rfl ?_
  refine lv_ldcw (v := 1431655765) hx hb hown (hts (.constant RJ6 265 (1431655765)) (by decide +kernel)) dJ6_bitCount_0f7a4_4 ?_
  refine xt_i (y := nI 1431655765) (rfl) ?_
  refine lv_iand hx hb dJ6_bitCount_0f7a4_7 ?_
  refine lv_isub hx hb dJ6_bitCount_0f7a4_8 ?_
  refine lv_topi (fun x_1 ex_1 => ?_)
  refine lv_istore_n (lv' := [(0, .int x_1)]) hx hb dJ6_bitCount_0f7a4_9 rfl hl (by decide) rfl (fun ls hl => ?_)
  refine lv_iload_n hx hb dJ6_bitCount_0f7a4_10 rfl (lv_at hl 0 rfl) ?_
  refine lv_ldcw (v := 858993459) hx hb hown (hts (.constant RJ6 266 (858993459)) (by decide +kernel)) dJ6_bitCount_0f7a4_11 ?_
  refine xt_i (y := nI 858993459) (rfl) ?_
  refine lv_iand hx hb dJ6_bitCount_0f7a4_14 ?_
  refine lv_iload_n hx hb dJ6_bitCount_0f7a4_15 rfl (lv_at hl 0 rfl) ?_
  refine lv_iconst (v := nI 2) hx hb dJ6_bitCount_0f7a4_16 (by decide) ?_
  refine lv_iushr (v := (x_1.toUInt32 >>> ((nI 2).toUInt32 &&& Int32.toUInt32 31)).toInt32) hx hb dJ6_bitCount_0f7a4_17 rfl ?_
  refine lv_ldcw (v := 858993459) hx hb hown (hts (.constant RJ6 266 (858993459)) (by decide +kernel)) dJ6_bitCount_0f7a4_18 ?_
  refine xt_i (y := nI 858993459) (rfl) ?_
  refine lv_iand hx hb dJ6_bitCount_0f7a4_21 ?_
  refine lv_iadd hx hb dJ6_bitCount_0f7a4_22 ?_
  refine lv_topi (fun x_2 ex_2 => ?_)
  refine lv_istore_n (lv' := [(0, .int x_2)]) hx hb dJ6_bitCount_0f7a4_23 rfl hl (by decide) rfl (fun ls hl => ?_)
  refine lv_iload_n hx hb dJ6_bitCount_0f7a4_24 rfl (lv_at hl 0 rfl) ?_
  refine lv_iload_n hx hb dJ6_bitCount_0f7a4_25 rfl (lv_at hl 0 rfl) ?_
  refine lv_iconst (v := nI 4) hx hb dJ6_bitCount_0f7a4_26 (by decide) ?_
  refine lv_iushr (v := (x_2.toUInt32 >>> ((nI 4).toUInt32 &&& Int32.toUInt32 31)).toInt32) hx hb dJ6_bitCount_0f7a4_27 rfl ?_
  refine lv_iadd hx hb dJ6_bitCount_0f7a4_28 ?_
  refine lv_ldcw (v := 252645135) hx hb hown (hts (.constant RJ6 267 (252645135)) (by decide +kernel)) dJ6_bitCount_0f7a4_29 ?_
  refine xt_i (y := nI 252645135) (rfl) ?_
  refine lv_iand hx hb dJ6_bitCount_0f7a4_32 ?_
  refine lv_topi (fun x_3 ex_3 => ?_)
  refine lv_istore_n (lv' := [(0, .int x_3)]) hx hb dJ6_bitCount_0f7a4_33 rfl hl (by decide) rfl (fun ls hl => ?_)
  refine lv_iload_n hx hb dJ6_bitCount_0f7a4_34 rfl (lv_at hl 0 rfl) ?_
  refine lv_iload_n hx hb dJ6_bitCount_0f7a4_35 rfl (lv_at hl 0 rfl) ?_
  refine lv_bipush (v := nI 8) hx hb dJ6_bitCount_0f7a4_36 (by decide) ?_
  refine lv_iushr (v := (x_3.toUInt32 >>> ((nI 8).toUInt32 &&& Int32.toUInt32 31)).toInt32) hx hb dJ6_bitCount_0f7a4_38 rfl ?_
  refine lv_iadd hx hb dJ6_bitCount_0f7a4_39 ?_
  refine lv_topi (fun x_4 ex_4 => ?_)
  refine lv_istore_n (lv' := [(0, .int x_4)]) hx hb dJ6_bitCount_0f7a4_40 rfl hl (by decide) rfl (fun ls hl => ?_)
  refine lv_iload_n hx hb dJ6_bitCount_0f7a4_41 rfl (lv_at hl 0 rfl) ?_
  refine lv_iload_n hx hb dJ6_bitCount_0f7a4_42 rfl (lv_at hl 0 rfl) ?_
  refine lv_bipush (v := nI 16) hx hb dJ6_bitCount_0f7a4_43 (by decide) ?_
  refine lv_iushr (v := (x_4.toUInt32 >>> ((nI 16).toUInt32 &&& Int32.toUInt32 31)).toInt32) hx hb dJ6_bitCount_0f7a4_45 rfl ?_
  refine lv_iadd hx hb dJ6_bitCount_0f7a4_46 ?_
  refine lv_topi (fun x_5 ex_5 => ?_)
  refine lv_istore_n (lv' := [(0, .int x_5)]) hx hb dJ6_bitCount_0f7a4_47 rfl hl (by decide) rfl (fun ls hl => ?_)
  refine lv_iload_n hx hb dJ6_bitCount_0f7a4_48 rfl (lv_at hl 0 rfl) ?_
  refine lv_bipush (v := nI 63) hx hb dJ6_bitCount_0f7a4_49 (by decide) ?_
  refine lv_iand hx hb dJ6_bitCount_0f7a4_51 ?_
  exact xr_i (v := (x_5 &&& (nI 63))) hx hb hr hlocks hK hS dJ6_bitCount_0f7a4_52 (I, L, A, Q, G, J) ⟨trivial, rfl⟩ hP hD
set_option maxRecDepth 20000 in
theorem ggX9_chosen_X9_mirror : GoodIn wsX9_chosen wsX9_mirror := goodIn_r _ [8] (by decide +kernel) (by decide +kernel)
set_option maxRecDepth 20000 in
theorem gX9_chosen_X9_mirror : GoodIn wsX9_chosen (va_wsS RX9 258 yX9_mirror wsX9_mirror) := goodIn_app (goodIn_of _ (by decide +kernel)) ggX9_chosen_X9_mirror
set_option maxRecDepth 20000 in
theorem ggX9_chosen_J6_bitCount_0f7a4 : GoodIn wsX9_chosen wsJ6_bitCount_0f7a4 := goodIn_r _ [12, 13, 14, 15] (by decide +kernel) (by decide +kernel)
set_option maxRecDepth 20000 in
theorem gX9_chosen_J6_bitCount_0f7a4 : GoodIn wsX9_chosen (va_wsS RX9 261 yJ6_bitCount_0f7a4 wsJ6_bitCount_0f7a4) := goodIn_app (goodIn_of _ (by decide +kernel)) ggX9_chosen_J6_bitCount_0f7a4
set_option maxRecDepth 20000 in
theorem ggX9_chosen_X2_worthOf : GoodIn wsX9_chosen wsX2_worthOf := goodIn_r _ [20, 21, 22, 23, 24, 25, 26, 7, 27, 28, 29, 19, 30, 40, 41, 42, 43, 44, 45, 46, 47, 48, 49, 50] (by decide +kernel) (by decide +kernel)
set_option maxRecDepth 20000 in
theorem gX9_chosen_X2_worthOf : GoodIn wsX9_chosen (wsV RX9 180 RX2 yX2_worthOf wsX2_worthOf) := goodIn_app (goodIn_of _ (by decide +kernel)) ggX9_chosen_X2_worthOf
theorem bdX9_chosen_0 : (decode cX9_chosen 0 = .ok (.iload_n 1, 1)) ∧ (decode cX9_chosen 1 = .ok (.iconst 1, 1)) ∧ (decode cX9_chosen 2 = .ok (.if_icmp .lt 14, 3)) ∧ (decode cX9_chosen 5 = .ok (.iload_n 1, 1)) ∧ (decode cX9_chosen 6 = .ok (.aload_n 0, 1)) ∧ (decode cX9_chosen 7 = .ok (.getfield 12, 3)) ∧ (decode cX9_chosen 10 = .ok (.getfield 106, 3)) ∧ (decode cX9_chosen 13 = .ok (.if_icmp .le 5, 3)) ∧ (decode cX9_chosen 16 = .ok (.iconst (-1), 1)) ∧ (decode cX9_chosen 17 = .ok (.ireturn, 1)) ∧ (decode cX9_chosen 18 = .ok (.iconst 0, 1)) ∧ (decode cX9_chosen 19 = .ok (.istore_n 2, 1)) ∧ (decode cX9_chosen 20 = .ok (.ldc2_w 178, 3)) ∧ (decode cX9_chosen 23 = .ok (.lstore_n 3, 1)) ∧ (decode cX9_chosen 24 = .ok (.iconst 1, 1)) ∧ (decode cX9_chosen 25 = .ok (.aload_n 0, 1)) := by decide +kernel
theorem dX9_chosen_0 : decode cX9_chosen 0 = .ok (.iload_n 1, 1) := bdX9_chosen_0.1
theorem dX9_chosen_1 : decode cX9_chosen 1 = .ok (.iconst 1, 1) := bdX9_chosen_0.2.1
theorem dX9_chosen_2 : decode cX9_chosen 2 = .ok (.if_icmp .lt 14, 3) := bdX9_chosen_0.2.2.1
theorem dX9_chosen_5 : decode cX9_chosen 5 = .ok (.iload_n 1, 1) := bdX9_chosen_0.2.2.2.1
theorem dX9_chosen_6 : decode cX9_chosen 6 = .ok (.aload_n 0, 1) := bdX9_chosen_0.2.2.2.2.1
theorem dX9_chosen_7 : decode cX9_chosen 7 = .ok (.getfield 12, 3) := bdX9_chosen_0.2.2.2.2.2.1
theorem dX9_chosen_10 : decode cX9_chosen 10 = .ok (.getfield 106, 3) := bdX9_chosen_0.2.2.2.2.2.2.1
theorem dX9_chosen_13 : decode cX9_chosen 13 = .ok (.if_icmp .le 5, 3) := bdX9_chosen_0.2.2.2.2.2.2.2.1
theorem dX9_chosen_16 : decode cX9_chosen 16 = .ok (.iconst (-1), 1) := bdX9_chosen_0.2.2.2.2.2.2.2.2.1
theorem dX9_chosen_17 : decode cX9_chosen 17 = .ok (.ireturn, 1) := bdX9_chosen_0.2.2.2.2.2.2.2.2.2.1
theorem dX9_chosen_18 : decode cX9_chosen 18 = .ok (.iconst 0, 1) := bdX9_chosen_0.2.2.2.2.2.2.2.2.2.2.1
theorem dX9_chosen_19 : decode cX9_chosen 19 = .ok (.istore_n 2, 1) := bdX9_chosen_0.2.2.2.2.2.2.2.2.2.2.2.1
theorem dX9_chosen_20 : decode cX9_chosen 20 = .ok (.ldc2_w 178, 3) := bdX9_chosen_0.2.2.2.2.2.2.2.2.2.2.2.2.1
theorem dX9_chosen_23 : decode cX9_chosen 23 = .ok (.lstore_n 3, 1) := bdX9_chosen_0.2.2.2.2.2.2.2.2.2.2.2.2.2.1
theorem dX9_chosen_24 : decode cX9_chosen 24 = .ok (.iconst 1, 1) := bdX9_chosen_0.2.2.2.2.2.2.2.2.2.2.2.2.2.2.1
theorem dX9_chosen_25 : decode cX9_chosen 25 = .ok (.aload_n 0, 1) := bdX9_chosen_0.2.2.2.2.2.2.2.2.2.2.2.2.2.2.2
theorem bdX9_chosen_26 : (decode cX9_chosen 26 = .ok (.getfield 12, 3)) ∧ (decode cX9_chosen 29 = .ok (.getfield 106, 3)) ∧ (decode cX9_chosen 32 = .ok (.ishl, 1)) ∧ (decode cX9_chosen 33 = .ok (.iconst 1, 1)) ∧ (decode cX9_chosen 34 = .ok (.isub, 1)) ∧ (decode cX9_chosen 35 = .ok (.istore 5, 2)) ∧ (decode cX9_chosen 37 = .ok (.iload 5, 2)) ∧ (decode cX9_chosen 39 = .ok (.iconst 1, 1)) ∧ (decode cX9_chosen 40 = .ok (.if_icmp .lt 63, 3)) ∧ (decode cX9_chosen 43 = .ok (.iload 5, 2)) ∧ (decode cX9_chosen 45 = .ok (.aload_n 0, 1)) ∧ (decode cX9_chosen 46 = .ok (.getfield 12, 3)) ∧ (decode cX9_chosen 49 = .ok (.getfield 106, 3)) ∧ (decode cX9_chosen 52 = .ok (.invokestatic 258, 3)) ∧ (decode cX9_chosen 55 = .ok (.istore 6, 2)) ∧ (decode cX9_chosen 57 = .ok (.iload 6, 2)) := by decide +kernel
theorem dX9_chosen_26 : decode cX9_chosen 26 = .ok (.getfield 12, 3) := bdX9_chosen_26.1
theorem dX9_chosen_29 : decode cX9_chosen 29 = .ok (.getfield 106, 3) := bdX9_chosen_26.2.1
theorem dX9_chosen_32 : decode cX9_chosen 32 = .ok (.ishl, 1) := bdX9_chosen_26.2.2.1
theorem dX9_chosen_33 : decode cX9_chosen 33 = .ok (.iconst 1, 1) := bdX9_chosen_26.2.2.2.1
theorem dX9_chosen_34 : decode cX9_chosen 34 = .ok (.isub, 1) := bdX9_chosen_26.2.2.2.2.1
theorem dX9_chosen_35 : decode cX9_chosen 35 = .ok (.istore 5, 2) := bdX9_chosen_26.2.2.2.2.2.1
theorem dX9_chosen_37 : decode cX9_chosen 37 = .ok (.iload 5, 2) := bdX9_chosen_26.2.2.2.2.2.2.1
theorem dX9_chosen_39 : decode cX9_chosen 39 = .ok (.iconst 1, 1) := bdX9_chosen_26.2.2.2.2.2.2.2.1
theorem dX9_chosen_40 : decode cX9_chosen 40 = .ok (.if_icmp .lt 63, 3) := bdX9_chosen_26.2.2.2.2.2.2.2.2.1
theorem dX9_chosen_43 : decode cX9_chosen 43 = .ok (.iload 5, 2) := bdX9_chosen_26.2.2.2.2.2.2.2.2.2.1
theorem dX9_chosen_45 : decode cX9_chosen 45 = .ok (.aload_n 0, 1) := bdX9_chosen_26.2.2.2.2.2.2.2.2.2.2.1
theorem dX9_chosen_46 : decode cX9_chosen 46 = .ok (.getfield 12, 3) := bdX9_chosen_26.2.2.2.2.2.2.2.2.2.2.2.1
theorem dX9_chosen_49 : decode cX9_chosen 49 = .ok (.getfield 106, 3) := bdX9_chosen_26.2.2.2.2.2.2.2.2.2.2.2.2.1
theorem dX9_chosen_52 : decode cX9_chosen 52 = .ok (.invokestatic 258, 3) := bdX9_chosen_26.2.2.2.2.2.2.2.2.2.2.2.2.2.1
theorem dX9_chosen_55 : decode cX9_chosen 55 = .ok (.istore 6, 2) := bdX9_chosen_26.2.2.2.2.2.2.2.2.2.2.2.2.2.2.1
theorem dX9_chosen_57 : decode cX9_chosen 57 = .ok (.iload 6, 2) := bdX9_chosen_26.2.2.2.2.2.2.2.2.2.2.2.2.2.2.2
theorem bdX9_chosen_59 : (decode cX9_chosen 59 = .ok (.invokestatic 261, 3)) ∧ (decode cX9_chosen 62 = .ok (.iload_n 1, 1)) ∧ (decode cX9_chosen 63 = .ok (.if_icmp .eq 6, 3)) ∧ (decode cX9_chosen 66 = .ok (.goto 31, 3)) ∧ (decode cX9_chosen 69 = .ok (.aload_n 0, 1)) ∧ (decode cX9_chosen 70 = .ok (.getfield 51, 3)) ∧ (decode cX9_chosen 73 = .ok (.aload_n 0, 1)) ∧ (decode cX9_chosen 74 = .ok (.getfield 12, 3)) ∧ (decode cX9_chosen 77 = .ok (.iload 6, 2)) ∧ (decode cX9_chosen 79 = .ok (.invokevirtual 180, 3)) ∧ (decode cX9_chosen 82 = .ok (.lstore 7, 2)) ∧ (decode cX9_chosen 84 = .ok (.lload 7, 2)) ∧ (decode cX9_chosen 86 = .ok (.lload_n 3, 1)) ∧ (decode cX9_chosen 87 = .ok (.lcmp, 1)) ∧ (decode cX9_chosen 88 = .ok (.ifCond .le 9, 3)) ∧ (decode cX9_chosen 91 = .ok (.iload 6, 2)) := by decide +kernel
theorem dX9_chosen_59 : decode cX9_chosen 59 = .ok (.invokestatic 261, 3) := bdX9_chosen_59.1
theorem dX9_chosen_62 : decode cX9_chosen 62 = .ok (.iload_n 1, 1) := bdX9_chosen_59.2.1
theorem dX9_chosen_63 : decode cX9_chosen 63 = .ok (.if_icmp .eq 6, 3) := bdX9_chosen_59.2.2.1
theorem dX9_chosen_66 : decode cX9_chosen 66 = .ok (.goto 31, 3) := bdX9_chosen_59.2.2.2.1
theorem dX9_chosen_69 : decode cX9_chosen 69 = .ok (.aload_n 0, 1) := bdX9_chosen_59.2.2.2.2.1
theorem dX9_chosen_70 : decode cX9_chosen 70 = .ok (.getfield 51, 3) := bdX9_chosen_59.2.2.2.2.2.1
theorem dX9_chosen_73 : decode cX9_chosen 73 = .ok (.aload_n 0, 1) := bdX9_chosen_59.2.2.2.2.2.2.1
theorem dX9_chosen_74 : decode cX9_chosen 74 = .ok (.getfield 12, 3) := bdX9_chosen_59.2.2.2.2.2.2.2.1
theorem dX9_chosen_77 : decode cX9_chosen 77 = .ok (.iload 6, 2) := bdX9_chosen_59.2.2.2.2.2.2.2.2.1
theorem dX9_chosen_79 : decode cX9_chosen 79 = .ok (.invokevirtual 180, 3) := bdX9_chosen_59.2.2.2.2.2.2.2.2.2.1
theorem dX9_chosen_82 : decode cX9_chosen 82 = .ok (.lstore 7, 2) := bdX9_chosen_59.2.2.2.2.2.2.2.2.2.2.1
theorem dX9_chosen_84 : decode cX9_chosen 84 = .ok (.lload 7, 2) := bdX9_chosen_59.2.2.2.2.2.2.2.2.2.2.2.1
theorem dX9_chosen_86 : decode cX9_chosen 86 = .ok (.lload_n 3, 1) := bdX9_chosen_59.2.2.2.2.2.2.2.2.2.2.2.2.1
theorem dX9_chosen_87 : decode cX9_chosen 87 = .ok (.lcmp, 1) := bdX9_chosen_59.2.2.2.2.2.2.2.2.2.2.2.2.2.1
theorem dX9_chosen_88 : decode cX9_chosen 88 = .ok (.ifCond .le 9, 3) := bdX9_chosen_59.2.2.2.2.2.2.2.2.2.2.2.2.2.2.1
theorem dX9_chosen_91 : decode cX9_chosen 91 = .ok (.iload 6, 2) := bdX9_chosen_59.2.2.2.2.2.2.2.2.2.2.2.2.2.2.2
theorem bdX9_chosen_93 : (decode cX9_chosen 93 = .ok (.istore_n 2, 1)) ∧ (decode cX9_chosen 94 = .ok (.lload 7, 2)) ∧ (decode cX9_chosen 96 = .ok (.lstore_n 3, 1)) ∧ (decode cX9_chosen 97 = .ok (.iinc 5 (-1), 3)) ∧ (decode cX9_chosen 100 = .ok (.goto (-63), 3)) ∧ (decode cX9_chosen 103 = .ok (.iload_n 2, 1)) ∧ (decode cX9_chosen 104 = .ok (.ireturn, 1)) := by decide +kernel
theorem dX9_chosen_93 : decode cX9_chosen 93 = .ok (.istore_n 2, 1) := bdX9_chosen_93.1
theorem dX9_chosen_94 : decode cX9_chosen 94 = .ok (.lload 7, 2) := bdX9_chosen_93.2.1
theorem dX9_chosen_96 : decode cX9_chosen 96 = .ok (.lstore_n 3, 1) := bdX9_chosen_93.2.2.1
theorem dX9_chosen_97 : decode cX9_chosen 97 = .ok (.iinc 5 (-1), 3) := bdX9_chosen_93.2.2.2.1
theorem dX9_chosen_100 : decode cX9_chosen 100 = .ok (.goto (-63), 3) := bdX9_chosen_93.2.2.2.2.1
theorem dX9_chosen_103 : decode cX9_chosen 103 = .ok (.iload_n 2, 1) := bdX9_chosen_93.2.2.2.2.2.1
theorem dX9_chosen_104 : decode cX9_chosen 104 = .ok (.ireturn, 1) := bdX9_chosen_93.2.2.2.2.2.2
set_option maxHeartbeats 4000000 in
set_option maxRecDepth 100000 in
theorem k_X9_chosen (l : Launch) (dC : Nat → ClassId) (dI : Nat → Nat → Nat) (h : Nat → Nat) (cs : Nat → ClassId) (sz : Nat) (I : Nat → Int32) (L : Nat → Int64) (A : Nat → Nat → Int32) (Q : Nat → Nat → Int64) (G : Nat → Nat → Nat → Int32) (J : Nat → Nat → Nat → Int64) (x : Int32) (R M : Nat) (hR : I 120 = nI R) (hR1 : 1 ≤ R) (hR5 : R ≤ 5) (hM : I 121 = nI M) (hM1 : 1 ≤ M) (hM4 : M ≤ 4) : Met l yX9_chosen wsX9_chosen ({ frames := 6, cells := 0, slots := 0, locals := 165 }) (va_Pc [.ref (h 100), .int x] (xPre (dC, dI) (wFL h cs I L A Q G J) (tysA cs) sz)) (va_Qi (fun (r : Int32) (u : CS) => ∃ a186 : Nat → Int32, ∃ j0 : Nat → Nat → Int64, (True) ∧ u = (I, L, (va_up A 186 a186), Q, G, (va_up J 0 j0))) (xB (dC, dI) (tysA cs) (va_A (wFL h cs I L A Q G J) sz) (fun u : CS => wFL h cs u.1 u.2.1 u.2.2.1 u.2.2.2.1 u.2.2.2.2.1 u.2.2.2.2.2)) (va_A (wFL h cs I L A Q G J) sz)) 0 0 (va_A (wFL h cs I L A Q G J) sz) := by
  refine Met.ofW (cc := cX9_chosen) (maxL := 9) (ret := (some .int)) (by decide) rfl ?_
  intro p e s m args below meth c s₁ B hml hv
  obtain ⟨rfl, hsz, hP, hK, hD0, hN⟩ := hv
  have hx := B.exec
  have hb := B.bytes
  have hr := B.returns
  have hts := atoms_spec (ws := wsX9_chosen) B.pre
  have hown : s.vm.findClass RX9 = some m.cls := findClass_of_methodNamed B.named
  have hlocks := B.notSynchronized
  subst hsz
  have hD := hD0.self (sz := s.heap.size)
  generalize hAe : va_A (wFL h cs I L A Q G J) s.heap.size = A0 at hD ⊢
  have hA : ∀ q : Nat, s.heap.size ≤ q → A0 q := fun q h => by rw [← hAe]; exact Or.inr h
  have hl := lv_entry ([.ref (h 100), .int x]) (n := 9) (Nat.le_of_ble_eq_true rfl)
  rw [lg_entry_eq]
  generalize (lg_sl ([.ref (h 100), .int x]) ++ List.replicate (9 - (lg_sl ([.ref (h 100), .int x])).length) Slot.unset).toArray = ls at hl ⊢
  have hl : lv_has ls 9 [(0, .ref (h 100)), (1, .int x)] := hl
  generalize hH : s.heap = H at hP ⊢
  have hS : va_S A0 s.heap H [] := by rw [← hH]; exact va_S.rf
  have hinX9 : ∀ w ∈ wsX90, w ∈ wsX9_chosen := by decide +kernel
  have hinX3 : ∀ w ∈ wsX30, w ∈ wsX9_chosen := by decide +kernel
  have hp2 : 1 ≤ 2 ^ M := Nat.one_le_two_pow
  have hp16 : 2 ^ M ≤ 16 := Nat.pow_le_pow_right (by decide) hM4
  refine lv_iload_n hx hb dX9_chosen_0 rfl (lv_at hl 1 rfl) ?_
  refine lv_iconst (v := nI 1) hx hb dX9_chosen_1 (by decide) ?_
  refine lv_icmp_lt (tgt := 16) hx hb dX9_chosen_2 (by decide) (fun c_2_0 => ?_) (fun c_2_0 => ?_)
  · skip
    refine lv_iconst (v := (-1)) hx hb dX9_chosen_16 (by decide) ?_
    exact xr_i (v := (-1)) hx hb hr hlocks hK hS dX9_chosen_17 (I, L, (va_up A 186 (A 186)), Q, G, (va_up J 0 (J 0))) ⟨(A 186), (J 0), trivial, rfl⟩ hP hD
  · skip
    refine lv_iload_n hx hb dX9_chosen_5 rfl (lv_at hl 1 rfl) ?_
    refine lv_aload_n hx hb dX9_chosen_6 rfl (lv_at hl 0 rfl) ?_
    refine va_get (D := (dC, dI)) (ci := 9) (v := .ref (h 101)) (C := RX9) (T := TX9) (N := 9) hx hb hts hinX9 hown hK hP 0 rfl rfl 0 (by decide) (hts (.fieldLink RX9 12 "MixedWords" "mix" "LMixedWords$Mix;") (by decide +kernel)) (fun _ h9 => h9) rfl dX9_chosen_7 ?_
    refine va_get (D := (dC, dI)) (ci := 3) (v := .int (I 121)) (C := RX3) (T := TX3) (N := 6) hx hb hts hinX3 hown hK hP 10 rfl rfl 1 (by decide) (hts (.fieldLink RX9 106 "MixedWords$Mix" "width" "I") (by decide +kernel)) (fun _ h9 => h9) rfl dX9_chosen_10 ?_
    refine xt_i (y := nI M) (hM) ?_
    refine lv_icmp_le (tgt := 18) hx hb dX9_chosen_13 (by decide) (fun c_13_1 => ?_) (fun c_13_1 => ?_)
    · skip
      refine lv_iconst (v := nI 0) hx hb dX9_chosen_18 (by decide) ?_
      refine lv_istore_n (lv' := [(2, .int (nI 0)), (0, .ref (h 100)), (1, .int x)]) hx hb dX9_chosen_19 rfl hl (by decide) rfl (fun ls hl => ?_)
      refine lv_ldc2 (v := (-1)) hx hb hown (hts (.constantLong RX9 178 (-1)) (by decide +kernel)) dX9_chosen_20 ?_
      refine lv_lstore_n (lv' := [(3, .long (-1 : Int64)), (2, .int (nI 0)), (0, .ref (h 100)), (1, .int x)]) hx hb dX9_chosen_23 rfl hl (by decide) rfl (fun ls hl => ?_)
      refine lv_iconst (v := nI 1) hx hb dX9_chosen_24 (by decide) ?_
      refine lv_aload_n hx hb dX9_chosen_25 rfl (lv_at hl 2 rfl) ?_
      refine va_get (D := (dC, dI)) (ci := 9) (v := .ref (h 101)) (C := RX9) (T := TX9) (N := 9) hx hb hts hinX9 hown hK hP 0 rfl rfl 0 (by decide) (hts (.fieldLink RX9 12 "MixedWords" "mix" "LMixedWords$Mix;") (by decide +kernel)) (fun _ h9 => h9) rfl dX9_chosen_26 ?_
      refine va_get (D := (dC, dI)) (ci := 3) (v := .int (I 121)) (C := RX3) (T := TX3) (N := 6) hx hb hts hinX3 hown hK hP 10 rfl rfl 1 (by decide) (hts (.fieldLink RX9 106 "MixedWords$Mix" "width" "I") (by decide +kernel)) (fun _ h9 => h9) rfl dX9_chosen_29 ?_
      refine xt_i (y := nI M) (hM) ?_
      refine lv_ishl hx hb dX9_chosen_32 ?_
      refine xt_i (y := nI (2 ^ M)) (shl_pw hM4) ?_
      refine lv_iconst (v := nI 1) hx hb dX9_chosen_33 (by decide) ?_
      refine lv_isub hx hb dX9_chosen_34 ?_
      refine xt_i (y := nI ((2 ^ M) - 1)) (pk_sub (by omega)) ?_
      refine lv_istore (lv' := [(5, .int (nI ((2 ^ M) - 1))), (3, .long (-1 : Int64)), (2, .int (nI 0)), (0, .ref (h 100)), (1, .int x)]) hx hb dX9_chosen_35 hl (by decide) rfl (fun ls hl => ?_)
      have cut_37 : ∀ (nf : Nat) (n2 : Nat) (z2 : Int32) (z3 : Int64) (f6 : Nat → Int32) (jj : Nat → Nat → Int64), n2 < nf → (n2 ≤ 16) → ∀ (H : Heap) (locs : List Loc) (ls : Array Slot), va_P (dC, dI) vwCl (wFL h cs I L (va_up A 186 f6) Q G (va_up J 0 jj)) H → va_D A0 (wFL h cs I L (va_up A 186 f6) Q G (va_up J 0 jj)) → va_S A0 s.heap H locs → lv_has ls 9 [(0, .ref (h 100)), (1, .int x), (2, .int z2), (3, .long z3), (5, .int (nI n2))] → W p l e (headSpec wsX9_chosen ({ frames := 6, cells := 0, slots := 0, locals := 165 })).room s m ([.ref (h 100), .int x] : List Value).toArray below meth c H locs 0 0 (MQ below (va_Qi (fun (r : Int32) (u : CS) => ∃ a186 : Nat → Int32, ∃ j0 : Nat → Nat → Int64, (True) ∧ u = (I, L, (va_up A 186 a186), Q, G, (va_up J 0 j0))) (xB (dC, dI) (tysA cs) A0 (fun u : CS => wFL h cs u.1 u.2.1 u.2.2.1 u.2.2.2.1 u.2.2.2.2.1 u.2.2.2.2.2)) A0) ([.ref (h 100), .int x] : List Value).toArray s 0 0 A0) (F0 m 37 ls []) := by
        intro nf
        induction nf with
        | zero => intro n2 z2 z3 f6 jj hm; exact absurd hm (Nat.not_lt_zero _)
        | succ nf ih_37 =>
          intro n2 z2 z3 f6 jj hm_37 hn37 H locs ls hP hD hS hl
          refine lv_iload hx hb dX9_chosen_37 (lv_at hl 4 rfl) ?_
          refine lv_iconst (v := nI 1) hx hb dX9_chosen_39 (by decide) ?_
          refine xn_lt (tgt := 103) hx hb dX9_chosen_40 (by decide) (by omega) (by omega) (fun c_40_2 => ?_) (fun c_40_2 => ?_)
          · skip
            refine lv_iload_n hx hb dX9_chosen_103 rfl (lv_at hl 2 rfl) ?_
            exact xr_i (v := z2) hx hb hr hlocks hK hS dX9_chosen_104 (I, L, (va_up A 186 f6), Q, G, (va_up J 0 jj)) ⟨f6, jj, trivial, rfl⟩ hP hD
          · skip
            refine lv_iload hx hb dX9_chosen_43 (lv_at hl 4 rfl) ?_
            refine lv_aload_n hx hb dX9_chosen_45 rfl (lv_at hl 0 rfl) ?_
            refine va_get (D := (dC, dI)) (ci := 9) (v := .ref (h 101)) (C := RX9) (T := TX9) (N := 9) hx hb hts hinX9 hown hK hP 0 rfl rfl 0 (by decide) (hts (.fieldLink RX9 12 "MixedWords" "mix" "LMixedWords$Mix;") (by decide +kernel)) (fun _ h9 => h9) rfl dX9_chosen_46 ?_
            refine va_get (D := (dC, dI)) (ci := 3) (v := .int (I 121)) (C := RX3) (T := TX3) (N := 6) hx hb hts hinX3 hown hK hP 10 rfl rfl 1 (by decide) (hts (.fieldLink RX9 106 "MixedWords$Mix" "width" "I") (by decide +kernel)) (fun _ h9 => h9) rfl dX9_chosen_49 ?_
            refine xt_i (y := nI M) (hM) ?_
            refine xj_i (wc := ([] : va_W)) (wr := (wFL h cs I L (va_up A 186 f6) Q G (va_up J 0 jj))) hP hD hS hA [] [0, 1, 2, 3, 4, 5, 6, 7, 8, 9, 10, 11, 12, 13, 14, 15, 16, 17] rfl rfl (by decide) (by decide) (va_runS (As := [.int (nI n2), .int (nI M)]) (rest := []) ⟨hx, hb, hml, hown, hts⟩ (k_X9_mirror l dC dI h cs H.size I L A Q G J (nI n2) M (by first | assumption | omega)) (va_cwS 2 hts gX9_chosen_X9_mirror rfl rfl rfl (by decide +kernel) ⟨Nat.le_of_ble_eq_true rfl, Nat.le_of_ble_eq_true rfl⟩) (xpS (wc := ([] : va_W)) hP hD hK hN [] rfl (by decide) _) rfl rfl hl.1 rfl (lv_room (Nat.le_of_ble_eq_true rfl)) dX9_chosen_52 ⟨Nat.zero_le _, Nat.zero_le _⟩) (fun r_5 u_4 H locs hw hP hD hS => ?_)
            obtain ⟨hf_6, rfl⟩ := hw
            have hP : va_P (dC, dI) vwCl (wFL h cs I L (va_up A 186 f6) Q G (va_up J 0 jj)) H := hP
            have hD : va_D A0 (wFL h cs I L (va_up A 186 f6) Q G (va_up J 0 jj)) := hD
            refine lv_topi (fun x_7 ex_7 => ?_)
            refine lv_istore (lv' := [(6, .int x_7), (0, .ref (h 100)), (1, .int x), (2, .int z2), (3, .long z3), (5, .int (nI n2))]) hx hb dX9_chosen_55 hl (by decide) rfl (fun ls hl => ?_)
            refine lv_iload hx hb dX9_chosen_57 (lv_at hl 0 rfl) ?_
            refine xj_i (wc := ([] : va_W)) (wr := (wFL h cs I L (va_up A 186 f6) Q G (va_up J 0 jj))) hP hD hS hA [] [0, 1, 2, 3, 4, 5, 6, 7, 8, 9, 10, 11, 12, 13, 14, 15, 16, 17] rfl rfl (by decide) (by decide) (va_runS (As := [.int x_7]) (rest := []) ⟨hx, hb, hml, hown, hts⟩ (k_J6_bitCount l dC dI h cs H.size I L A Q G J x_7) (va_cwS 1 hts gX9_chosen_J6_bitCount_0f7a4 rfl rfl rfl (by decide +kernel) ⟨Nat.le_of_ble_eq_true rfl, Nat.le_of_ble_eq_true rfl⟩) (xpS (wc := ([] : va_W)) hP hD hK hN [] rfl (by decide) _) rfl rfl hl.1 rfl (lv_room (Nat.le_of_ble_eq_true rfl)) dX9_chosen_59 ⟨Nat.zero_le _, Nat.zero_le _⟩) (fun r_9 u_8 H locs hw hP hD hS => ?_)
            obtain ⟨hf_10, rfl⟩ := hw
            have hP : va_P (dC, dI) vwCl (wFL h cs I L (va_up A 186 f6) Q G (va_up J 0 jj)) H := hP
            have hD : va_D A0 (wFL h cs I L (va_up A 186 f6) Q G (va_up J 0 jj)) := hD
            refine lv_iload_n hx hb dX9_chosen_62 rfl (lv_at hl 2 rfl) ?_
            refine lv_icmp_eq (tgt := 69) hx hb dX9_chosen_63 (by decide) (fun c_63_10 => ?_) (fun c_63_10 => ?_)
            · skip
              refine lv_aload_n hx hb dX9_chosen_69 rfl (lv_at hl 1 rfl) ?_
              refine va_get (D := (dC, dI)) (ci := 9) (v := .ref (h 106)) (C := RX9) (T := TX9) (N := 9) hx hb hts hinX9 hown hK hP 0 rfl rfl 5 (by decide) (hts (.fieldLink RX9 51 "MixedWords" "least" "LMixedWords$Least;") (by decide +kernel)) (fun _ h9 => h9) rfl dX9_chosen_70 ?_
              refine lv_aload_n hx hb dX9_chosen_73 rfl (lv_at hl 1 rfl) ?_
              refine va_get (D := (dC, dI)) (ci := 9) (v := .ref (h 101)) (C := RX9) (T := TX9) (N := 9) hx hb hts hinX9 hown hK hP 0 rfl rfl 0 (by decide) (hts (.fieldLink RX9 12 "MixedWords" "mix" "LMixedWords$Mix;") (by decide +kernel)) (fun _ h9 => h9) rfl dX9_chosen_74 ?_
              refine lv_iload hx hb dX9_chosen_77 (lv_at hl 0 rfl) ?_
              refine xj_l (wc := (wLm h cs I L (va_up A 186 f6) Q G (va_up J 0 jj))) (wr := [(h 100, .inr (9, [.ref (h 101), .ref (h 102), .ref (h 103), .ref (h 104), .ref (h 105), .ref (h 106), .ref (h 107), .ref (h 108), .ref (h 109)]))]) hP hD hS hA [1, 2, 3, 4, 5, 6, 7, 8, 9, 10, 11, 12, 13, 14, 15, 16, 17] [0] rfl rfl (by decide) (by decide) (va_runV (As := [.ref (h 101), .int x_7]) (rest := []) ⟨hx, hb, hml, hown, hts⟩ (k_X2_worthOf l dC dI h cs H.size I L (va_up A 186 f6) Q G (va_up J 0 jj) x_7 R M hR (by first | assumption | omega | exact hR1) (by first | assumption | omega | exact hR5) hM (by first | assumption | omega | exact hM1) (by first | assumption | omega | exact hM4)) (cwV 2 hts gX9_chosen_X2_worthOf rfl rfl rfl (by decide +kernel) ⟨Nat.le_of_ble_eq_true rfl, Nat.le_of_ble_eq_true rfl⟩) (xpV (wc := (wLm h cs I L (va_up A 186 f6) Q G (va_up J 0 jj))) hP hD hK hN [1, 2, 3, 4, 5, 6, 7, 8, 9, 10, 11, 12, 13, 14, 15, 16, 17] rfl (by decide) 1 (ci := 2) rfl rfl _) rfl rfl hl.1 rfl (lv_room (Nat.le_of_ble_eq_true rfl)) dX9_chosen_79 ⟨Nat.zero_le _, Nat.zero_le _⟩) (fun r_13 u_12 H locs hw hP hD hS => ?_)
              obtain ⟨a186_14, j0_15, hf_16, rfl⟩ := hw
              have hP : va_P (dC, dI) vwCl (wFL h cs I L (va_up A 186 a186_14) Q G (va_up J 0 j0_15)) H := hP
              have hD : va_D A0 (wFL h cs I L (va_up A 186 a186_14) Q G (va_up J 0 j0_15)) := hD
              refine lv_lstore (lv' := [(7, .long r_13), (6, .int x_7), (0, .ref (h 100)), (1, .int x), (2, .int z2), (3, .long z3), (5, .int (nI n2))]) hx hb dX9_chosen_82 hl (by decide) rfl (fun ls hl => ?_)
              refine lv_lload hx hb dX9_chosen_84 (lv_at hl 0 rfl) ?_
              refine lv_lload_n hx hb dX9_chosen_86 rfl (lv_at hl 5 rfl) ?_
              refine xl_le (tgt := 97) hx hb dX9_chosen_87 dX9_chosen_88 (by decide) (fun c_87_16 => ?_) (fun c_87_16 => ?_)
              · skip
                refine lv_iinc (v := nI (n2 - 1)) (lv' := [(5, .int (nI (n2 - 1))), (7, .long r_13), (6, .int x_7), (0, .ref (h 100)), (1, .int x), (2, .int z2), (3, .long z3)]) hx hb dX9_chosen_97 hl (k := 6) rfl (sb_m1 (by omega)) (by decide) rfl (fun ls hl => ?_)
                refine lv_goto (tgt := 37) hx hb dX9_chosen_100 (by decide) ?_
                exact ih_37 (n2 - 1) z2 z3 a186_14 j0_15 (by omega) (by first | assumption | omega) _ _ _ hP hD hS (lv_sub hl [3, 4, 5, 6, 0] rfl)
              · skip
                refine lv_iload hx hb dX9_chosen_91 (lv_at hl 1 rfl) ?_
                refine lv_istore_n (lv' := [(2, .int x_7), (7, .long r_13), (6, .int x_7), (0, .ref (h 100)), (1, .int x), (3, .long z3), (5, .int (nI n2))]) hx hb dX9_chosen_93 rfl hl (by decide) rfl (fun ls hl => ?_)
                refine lv_lload hx hb dX9_chosen_94 (lv_at hl 1 rfl) ?_
                refine lv_lstore_n (lv' := [(3, .long r_13), (2, .int x_7), (7, .long r_13), (6, .int x_7), (0, .ref (h 100)), (1, .int x), (5, .int (nI n2))]) hx hb dX9_chosen_96 rfl hl (by decide) rfl (fun ls hl => ?_)
                refine lv_iinc (v := nI (n2 - 1)) (lv' := [(5, .int (nI (n2 - 1))), (3, .long r_13), (2, .int x_7), (7, .long r_13), (6, .int x_7), (0, .ref (h 100)), (1, .int x)]) hx hb dX9_chosen_97 hl (k := 6) rfl (sb_m1 (by omega)) (by decide) rfl (fun ls hl => ?_)
                refine lv_goto (tgt := 37) hx hb dX9_chosen_100 (by decide) ?_
                exact ih_37 (n2 - 1) x_7 r_13 a186_14 j0_15 (by omega) (by first | assumption | omega) _ _ _ hP hD hS (lv_sub hl [5, 6, 2, 1, 0] rfl)
            · skip
              refine lv_goto (tgt := 97) hx hb dX9_chosen_66 (by decide) ?_
              refine lv_iinc (v := nI (n2 - 1)) (lv' := [(5, .int (nI (n2 - 1))), (6, .int x_7), (0, .ref (h 100)), (1, .int x), (2, .int z2), (3, .long z3)]) hx hb dX9_chosen_97 hl (k := 5) rfl (sb_m1 (by omega)) (by decide) rfl (fun ls hl => ?_)
              refine lv_goto (tgt := 37) hx hb dX9_chosen_100 (by decide) ?_
              exact ih_37 (n2 - 1) z2 z3 f6 jj (by omega) (by first | assumption | omega) _ _ _ hP hD hS (lv_sub hl [2, 3, 4, 5, 0] rfl)
      exact cut_37 _ ((2 ^ M) - 1) (nI 0) (-1 : Int64) (A 186) (J 0) (Nat.lt_succ_self _) (by first | assumption | omega) _ _ _ hP hD hS (lv_sub hl [3, 4, 2, 1, 0] rfl)
    · skip
      refine lv_iconst (v := (-1)) hx hb dX9_chosen_16 (by decide) ?_
      exact xr_i (v := (-1)) hx hb hr hlocks hK hS dX9_chosen_17 (I, L, (va_up A 186 (A 186)), Q, G, (va_up J 0 (J 0))) ⟨(A 186), (J 0), trivial, rfl⟩ hP hD
set_option maxRecDepth 20000 in
theorem ggX9_undone_X2_solve : GoodIn wsX9_undone wsX2_solve := goodIn_r _ [14, 15, 16, 17, 18, 19, 20, 21, 22, 23, 13, 24, 25, 26, 27, 28, 71, 72, 73, 74, 75] (by decide +kernel) (by decide +kernel)
set_option maxRecDepth 20000 in
theorem gX9_undone_X2_solve : GoodIn wsX9_undone (wsV RX9 188 RX2 yX2_solve wsX2_solve) := goodIn_app (goodIn_of _ (by decide +kernel)) ggX9_undone_X2_solve
set_option maxRecDepth 20000 in
theorem ggX9_undone_X9_nearestLetter : GoodIn wsX9_undone wsX9_nearestLetter := goodIn_r _ [31, 32, 33, 34, 20, 35, 36, 37, 38, 39, 40, 41, 42, 43, 44, 45, 46, 47, 48, 49] (by decide +kernel) (by decide +kernel)
set_option maxRecDepth 20000 in
theorem gX9_undone_X9_nearestLetter : GoodIn wsX9_undone (va_wsS RX9 200 yX9_nearestLetter wsX9_nearestLetter) := goodIn_app (goodIn_of _ (by decide +kernel)) ggX9_undone_X9_nearestLetter
set_option maxRecDepth 20000 in
theorem ggX9_undone_X3_follow : GoodIn wsX9_undone wsX3_follow := goodIn_r _ [54, 55, 65, 66, 67, 68, 69, 70] (by decide +kernel) (by decide +kernel)
set_option maxRecDepth 20000 in
theorem gX9_undone_X3_follow : GoodIn wsX9_undone (wsV RX9 204 RX3 yX3_follow wsX3_follow) := goodIn_app (goodIn_of _ (by decide +kernel)) ggX9_undone_X3_follow
theorem bdX9_undone_0 : (decode cX9_undone 0 = .ok (.aload_n 0, 1)) ∧ (decode cX9_undone 1 = .ok (.getfield 51, 3)) ∧ (decode cX9_undone 4 = .ok (.aload_n 0, 1)) ∧ (decode cX9_undone 5 = .ok (.getfield 12, 3)) ∧ (decode cX9_undone 8 = .ok (.getfield 173, 3)) ∧ (decode cX9_undone 11 = .ok (.aload_n 0, 1)) ∧ (decode cX9_undone 12 = .ok (.getfield 12, 3)) ∧ (decode cX9_undone 15 = .ok (.getfield 184, 3)) ∧ (decode cX9_undone 18 = .ok (.aload_n 0, 1)) ∧ (decode cX9_undone 19 = .ok (.getfield 12, 3)) ∧ (decode cX9_undone 22 = .ok (.getfield 147, 3)) ∧ (decode cX9_undone 25 = .ok (.aload_n 0, 1)) ∧ (decode cX9_undone 26 = .ok (.getfield 12, 3)) ∧ (decode cX9_undone 29 = .ok (.getfield 106, 3)) ∧ (decode cX9_undone 32 = .ok (.invokevirtual 188, 3)) ∧ (decode cX9_undone 35 = .ok (.aload_n 0, 1)) := by decide +kernel
theorem dX9_undone_0 : decode cX9_undone 0 = .ok (.aload_n 0, 1) := bdX9_undone_0.1
theorem dX9_undone_1 : decode cX9_undone 1 = .ok (.getfield 51, 3) := bdX9_undone_0.2.1
theorem dX9_undone_4 : decode cX9_undone 4 = .ok (.aload_n 0, 1) := bdX9_undone_0.2.2.1
theorem dX9_undone_5 : decode cX9_undone 5 = .ok (.getfield 12, 3) := bdX9_undone_0.2.2.2.1
theorem dX9_undone_8 : decode cX9_undone 8 = .ok (.getfield 173, 3) := bdX9_undone_0.2.2.2.2.1
theorem dX9_undone_11 : decode cX9_undone 11 = .ok (.aload_n 0, 1) := bdX9_undone_0.2.2.2.2.2.1
theorem dX9_undone_12 : decode cX9_undone 12 = .ok (.getfield 12, 3) := bdX9_undone_0.2.2.2.2.2.2.1
theorem dX9_undone_15 : decode cX9_undone 15 = .ok (.getfield 184, 3) := bdX9_undone_0.2.2.2.2.2.2.2.1
theorem dX9_undone_18 : decode cX9_undone 18 = .ok (.aload_n 0, 1) := bdX9_undone_0.2.2.2.2.2.2.2.2.1
theorem dX9_undone_19 : decode cX9_undone 19 = .ok (.getfield 12, 3) := bdX9_undone_0.2.2.2.2.2.2.2.2.2.1
theorem dX9_undone_22 : decode cX9_undone 22 = .ok (.getfield 147, 3) := bdX9_undone_0.2.2.2.2.2.2.2.2.2.2.1
theorem dX9_undone_25 : decode cX9_undone 25 = .ok (.aload_n 0, 1) := bdX9_undone_0.2.2.2.2.2.2.2.2.2.2.2.1
theorem dX9_undone_26 : decode cX9_undone 26 = .ok (.getfield 12, 3) := bdX9_undone_0.2.2.2.2.2.2.2.2.2.2.2.2.1
theorem dX9_undone_29 : decode cX9_undone 29 = .ok (.getfield 106, 3) := bdX9_undone_0.2.2.2.2.2.2.2.2.2.2.2.2.2.1
theorem dX9_undone_32 : decode cX9_undone 32 = .ok (.invokevirtual 188, 3) := bdX9_undone_0.2.2.2.2.2.2.2.2.2.2.2.2.2.2.1
theorem dX9_undone_35 : decode cX9_undone 35 = .ok (.aload_n 0, 1) := bdX9_undone_0.2.2.2.2.2.2.2.2.2.2.2.2.2.2.2
theorem bdX9_undone_36 : (decode cX9_undone 36 = .ok (.getfield 51, 3)) ∧ (decode cX9_undone 39 = .ok (.getfield 192, 3)) ∧ (decode cX9_undone 42 = .ok (.lconst 0, 1)) ∧ (decode cX9_undone 43 = .ok (.lcmp, 1)) ∧ (decode cX9_undone 44 = .ok (.ifCond .gt 6, 3)) ∧ (decode cX9_undone 47 = .ok (.bipush (-2), 2)) ∧ (decode cX9_undone 49 = .ok (.ireturn, 1)) ∧ (decode cX9_undone 50 = .ok (.iconst 0, 1)) ∧ (decode cX9_undone 51 = .ok (.istore_n 1, 1)) ∧ (decode cX9_undone 52 = .ok (.iconst 0, 1)) ∧ (decode cX9_undone 53 = .ok (.istore_n 2, 1)) ∧ (decode cX9_undone 54 = .ok (.iload_n 2, 1)) ∧ (decode cX9_undone 55 = .ok (.aload_n 0, 1)) ∧ (decode cX9_undone 56 = .ok (.getfield 12, 3)) ∧ (decode cX9_undone 59 = .ok (.getfield 106, 3)) ∧ (decode cX9_undone 62 = .ok (.if_icmp .ge 44, 3)) := by decide +kernel
theorem dX9_undone_36 : decode cX9_undone 36 = .ok (.getfield 51, 3) := bdX9_undone_36.1
theorem dX9_undone_39 : decode cX9_undone 39 = .ok (.getfield 192, 3) := bdX9_undone_36.2.1
theorem dX9_undone_42 : decode cX9_undone 42 = .ok (.lconst 0, 1) := bdX9_undone_36.2.2.1
theorem dX9_undone_43 : decode cX9_undone 43 = .ok (.lcmp, 1) := bdX9_undone_36.2.2.2.1
theorem dX9_undone_44 : decode cX9_undone 44 = .ok (.ifCond .gt 6, 3) := bdX9_undone_36.2.2.2.2.1
theorem dX9_undone_47 : decode cX9_undone 47 = .ok (.bipush (-2), 2) := bdX9_undone_36.2.2.2.2.2.1
theorem dX9_undone_49 : decode cX9_undone 49 = .ok (.ireturn, 1) := bdX9_undone_36.2.2.2.2.2.2.1
theorem dX9_undone_50 : decode cX9_undone 50 = .ok (.iconst 0, 1) := bdX9_undone_36.2.2.2.2.2.2.2.1
theorem dX9_undone_51 : decode cX9_undone 51 = .ok (.istore_n 1, 1) := bdX9_undone_36.2.2.2.2.2.2.2.2.1
theorem dX9_undone_52 : decode cX9_undone 52 = .ok (.iconst 0, 1) := bdX9_undone_36.2.2.2.2.2.2.2.2.2.1
theorem dX9_undone_53 : decode cX9_undone 53 = .ok (.istore_n 2, 1) := bdX9_undone_36.2.2.2.2.2.2.2.2.2.2.1
theorem dX9_undone_54 : decode cX9_undone 54 = .ok (.iload_n 2, 1) := bdX9_undone_36.2.2.2.2.2.2.2.2.2.2.2.1
theorem dX9_undone_55 : decode cX9_undone 55 = .ok (.aload_n 0, 1) := bdX9_undone_36.2.2.2.2.2.2.2.2.2.2.2.2.1
theorem dX9_undone_56 : decode cX9_undone 56 = .ok (.getfield 12, 3) := bdX9_undone_36.2.2.2.2.2.2.2.2.2.2.2.2.2.1
theorem dX9_undone_59 : decode cX9_undone 59 = .ok (.getfield 106, 3) := bdX9_undone_36.2.2.2.2.2.2.2.2.2.2.2.2.2.2.1
theorem dX9_undone_62 : decode cX9_undone 62 = .ok (.if_icmp .ge 44, 3) := bdX9_undone_36.2.2.2.2.2.2.2.2.2.2.2.2.2.2.2
theorem bdX9_undone_65 : (decode cX9_undone 65 = .ok (.aload_n 0, 1)) ∧ (decode cX9_undone 66 = .ok (.getfield 12, 3)) ∧ (decode cX9_undone 69 = .ok (.iload_n 1, 1)) ∧ (decode cX9_undone 70 = .ok (.aload_n 0, 1)) ∧ (decode cX9_undone 71 = .ok (.getfield 51, 3)) ∧ (decode cX9_undone 74 = .ok (.getfield 196, 3)) ∧ (decode cX9_undone 77 = .ok (.iload_n 2, 1)) ∧ (decode cX9_undone 78 = .ok (.laload, 1)) ∧ (decode cX9_undone 79 = .ok (.aload_n 0, 1)) ∧ (decode cX9_undone 80 = .ok (.getfield 51, 3)) ∧ (decode cX9_undone 83 = .ok (.getfield 192, 3)) ∧ (decode cX9_undone 86 = .ok (.aload_n 0, 1)) ∧ (decode cX9_undone 87 = .ok (.getfield 12, 3)) ∧ (decode cX9_undone 90 = .ok (.getfield 83, 3)) ∧ (decode cX9_undone 93 = .ok (.invokestatic 200, 3)) ∧ (decode cX9_undone 96 = .ok (.invokevirtual 204, 3)) := by decide +kernel
theorem dX9_undone_65 : decode cX9_undone 65 = .ok (.aload_n 0, 1) := bdX9_undone_65.1
theorem dX9_undone_66 : decode cX9_undone 66 = .ok (.getfield 12, 3) := bdX9_undone_65.2.1
theorem dX9_undone_69 : decode cX9_undone 69 = .ok (.iload_n 1, 1) := bdX9_undone_65.2.2.1
theorem dX9_undone_70 : decode cX9_undone 70 = .ok (.aload_n 0, 1) := bdX9_undone_65.2.2.2.1
theorem dX9_undone_71 : decode cX9_undone 71 = .ok (.getfield 51, 3) := bdX9_undone_65.2.2.2.2.1
theorem dX9_undone_74 : decode cX9_undone 74 = .ok (.getfield 196, 3) := bdX9_undone_65.2.2.2.2.2.1
theorem dX9_undone_77 : decode cX9_undone 77 = .ok (.iload_n 2, 1) := bdX9_undone_65.2.2.2.2.2.2.1
theorem dX9_undone_78 : decode cX9_undone 78 = .ok (.laload, 1) := bdX9_undone_65.2.2.2.2.2.2.2.1
theorem dX9_undone_79 : decode cX9_undone 79 = .ok (.aload_n 0, 1) := bdX9_undone_65.2.2.2.2.2.2.2.2.1
theorem dX9_undone_80 : decode cX9_undone 80 = .ok (.getfield 51, 3) := bdX9_undone_65.2.2.2.2.2.2.2.2.2.1
theorem dX9_undone_83 : decode cX9_undone 83 = .ok (.getfield 192, 3) := bdX9_undone_65.2.2.2.2.2.2.2.2.2.2.1
theorem dX9_undone_86 : decode cX9_undone 86 = .ok (.aload_n 0, 1) := bdX9_undone_65.2.2.2.2.2.2.2.2.2.2.2.1
theorem dX9_undone_87 : decode cX9_undone 87 = .ok (.getfield 12, 3) := bdX9_undone_65.2.2.2.2.2.2.2.2.2.2.2.2.1
theorem dX9_undone_90 : decode cX9_undone 90 = .ok (.getfield 83, 3) := bdX9_undone_65.2.2.2.2.2.2.2.2.2.2.2.2.2.1
theorem dX9_undone_93 : decode cX9_undone 93 = .ok (.invokestatic 200, 3) := bdX9_undone_65.2.2.2.2.2.2.2.2.2.2.2.2.2.2.1
theorem dX9_undone_96 : decode cX9_undone 96 = .ok (.invokevirtual 204, 3) := bdX9_undone_65.2.2.2.2.2.2.2.2.2.2.2.2.2.2.2
theorem bdX9_undone_99 : (decode cX9_undone 99 = .ok (.istore_n 1, 1)) ∧ (decode cX9_undone 100 = .ok (.iinc 2 1, 3)) ∧ (decode cX9_undone 103 = .ok (.goto (-49), 3)) ∧ (decode cX9_undone 106 = .ok (.iload_n 1, 1)) ∧ (decode cX9_undone 107 = .ok (.ireturn, 1)) := by decide +kernel
theorem dX9_undone_99 : decode cX9_undone 99 = .ok (.istore_n 1, 1) := bdX9_undone_99.1
theorem dX9_undone_100 : decode cX9_undone 100 = .ok (.iinc 2 1, 3) := bdX9_undone_99.2.1
theorem dX9_undone_103 : decode cX9_undone 103 = .ok (.goto (-49), 3) := bdX9_undone_99.2.2.1
theorem dX9_undone_106 : decode cX9_undone 106 = .ok (.iload_n 1, 1) := bdX9_undone_99.2.2.2.1
theorem dX9_undone_107 : decode cX9_undone 107 = .ok (.ireturn, 1) := bdX9_undone_99.2.2.2.2
set_option maxHeartbeats 4000000 in
set_option maxRecDepth 100000 in
theorem k_X9_undone (l : Launch) (dC : Nat → ClassId) (dI : Nat → Nat → Nat) (h : Nat → Nat) (cs : Nat → ClassId) (sz : Nat) (I : Nat → Int32) (L : Nat → Int64) (A : Nat → Nat → Int32) (Q : Nat → Nat → Int64) (G : Nat → Nat → Nat → Int32) (J : Nat → Nat → Nat → Int64) (R M a : Nat) (hR : I 120 = nI R) (hR1 : 1 ≤ R) (hR5 : R ≤ 5) (hM : I 121 = nI M) (hM1 : 1 ≤ M) (hM4 : M ≤ 4) (ha : I 122 = nI a) (ha2 : a = 2 ∨ a = 4) : Met l yX9_undone wsX9_undone ({ frames := 6, cells := 0, slots := 0, locals := 166 }) (va_Pc [.ref (h 100)] (xPre (dC, dI) (wFL h cs I L A Q G J) (tysA cs) sz)) (va_Qi (fun (r : Int32) (u : CS) => ∃ l188 : Int64, ∃ q185 : Nat → Int64, ∃ q187 : Nat → Int64, ∃ j0 : Nat → Nat → Int64, (True) ∧ u = (I, (va_up L 188 l188), A, (va_up (va_up Q 185 q185) 187 q187), G, (va_up J 0 j0))) (xB (dC, dI) (tysA cs) (va_A (wFL h cs I L A Q G J) sz) (fun u : CS => wFL h cs u.1 u.2.1 u.2.2.1 u.2.2.2.1 u.2.2.2.2.1 u.2.2.2.2.2)) (va_A (wFL h cs I L A Q G J) sz)) 0 0 (va_A (wFL h cs I L A Q G J) sz) := by
  refine Met.ofW (cc := cX9_undone) (maxL := 3) (ret := (some .int)) (by decide) rfl ?_
  intro p e s m args below meth c s₁ B hml hv
  obtain ⟨rfl, hsz, hP, hK, hD0, hN⟩ := hv
  have hx := B.exec
  have hb := B.bytes
  have hr := B.returns
  have hts := atoms_spec (ws := wsX9_undone) B.pre
  have hown : s.vm.findClass RX9 = some m.cls := findClass_of_methodNamed B.named
  have hlocks := B.notSynchronized
  subst hsz
  have hD := hD0.self (sz := s.heap.size)
  generalize hAe : va_A (wFL h cs I L A Q G J) s.heap.size = A0 at hD ⊢
  have hA : ∀ q : Nat, s.heap.size ≤ q → A0 q := fun q h => by rw [← hAe]; exact Or.inr h
  have hl := lv_entry ([.ref (h 100)]) (n := 3) (Nat.le_of_ble_eq_true rfl)
  rw [lg_entry_eq]
  generalize (lg_sl ([.ref (h 100)]) ++ List.replicate (3 - (lg_sl ([.ref (h 100)])).length) Slot.unset).toArray = ls at hl ⊢
  have hl : lv_has ls 3 [(0, .ref (h 100))] := hl
  generalize hH : s.heap = H at hP ⊢
  have hS : va_S A0 s.heap H [] := by rw [← hH]; exact va_S.rf
  have hinX9 : ∀ w ∈ wsX90, w ∈ wsX9_undone := by decide +kernel
  have hinX3 : ∀ w ∈ wsX30, w ∈ wsX9_undone := by decide +kernel
  have hinX2 : ∀ w ∈ wsX20, w ∈ wsX9_undone := by decide +kernel
  refine lv_aload_n hx hb dX9_undone_0 rfl (lv_at hl 0 rfl) ?_
  refine va_get (D := (dC, dI)) (ci := 9) (v := .ref (h 106)) (C := RX9) (T := TX9) (N := 9) hx hb hts hinX9 hown hK hP 0 rfl rfl 5 (by decide) (hts (.fieldLink RX9 51 "MixedWords" "least" "LMixedWords$Least;") (by decide +kernel)) (fun _ h9 => h9) rfl dX9_undone_1 ?_
  refine lv_aload_n hx hb dX9_undone_4 rfl (lv_at hl 0 rfl) ?_
  refine va_get (D := (dC, dI)) (ci := 9) (v := .ref (h 101)) (C := RX9) (T := TX9) (N := 9) hx hb hts hinX9 hown hK hP 0 rfl rfl 0 (by decide) (hts (.fieldLink RX9 12 "MixedWords" "mix" "LMixedWords$Mix;") (by decide +kernel)) (fun _ h9 => h9) rfl dX9_undone_5 ?_
  refine va_get (D := (dC, dI)) (ci := 3) (v := .ref (h 130)) (C := RX3) (T := TX3) (N := 6) hx hb hts hinX3 hown hK hP 10 rfl rfl 4 (by decide) (hts (.fieldLink RX9 173 "MixedWords$Mix" "cells" "[[I") (by decide +kernel)) (fun _ h9 => h9) rfl dX9_undone_8 ?_
  refine lv_aload_n hx hb dX9_undone_11 rfl (lv_at hl 0 rfl) ?_
  refine va_get (D := (dC, dI)) (ci := 9) (v := .ref (h 101)) (C := RX9) (T := TX9) (N := 9) hx hb hts hinX9 hown hK hP 0 rfl rfl 0 (by decide) (hts (.fieldLink RX9 12 "MixedWords" "mix" "LMixedWords$Mix;") (by decide +kernel)) (fun _ h9 => h9) rfl dX9_undone_12 ?_
  refine va_get (D := (dC, dI)) (ci := 3) (v := .ref (h 136)) (C := RX3) (T := TX3) (N := 6) hx hb hts hinX3 hown hK hP 10 rfl rfl 5 (by decide) (hts (.fieldLink RX9 184 "MixedWords$Mix" "heard" "[I") (by decide +kernel)) (fun _ h9 => h9) rfl dX9_undone_15 ?_
  refine lv_aload_n hx hb dX9_undone_18 rfl (lv_at hl 0 rfl) ?_
  refine va_get (D := (dC, dI)) (ci := 9) (v := .ref (h 101)) (C := RX9) (T := TX9) (N := 9) hx hb hts hinX9 hown hK hP 0 rfl rfl 0 (by decide) (hts (.fieldLink RX9 12 "MixedWords" "mix" "LMixedWords$Mix;") (by decide +kernel)) (fun _ h9 => h9) rfl dX9_undone_19 ?_
  refine va_get (D := (dC, dI)) (ci := 3) (v := .int (I 120)) (C := RX3) (T := TX3) (N := 6) hx hb hts hinX3 hown hK hP 10 rfl rfl 0 (by decide) (hts (.fieldLink RX9 147 "MixedWords$Mix" "height" "I") (by decide +kernel)) (fun _ h9 => h9) rfl dX9_undone_22 ?_
  refine xt_i (y := nI R) (hR) ?_
  refine lv_aload_n hx hb dX9_undone_25 rfl (lv_at hl 0 rfl) ?_
  refine va_get (D := (dC, dI)) (ci := 9) (v := .ref (h 101)) (C := RX9) (T := TX9) (N := 9) hx hb hts hinX9 hown hK hP 0 rfl rfl 0 (by decide) (hts (.fieldLink RX9 12 "MixedWords" "mix" "LMixedWords$Mix;") (by decide +kernel)) (fun _ h9 => h9) rfl dX9_undone_26 ?_
  refine va_get (D := (dC, dI)) (ci := 3) (v := .int (I 121)) (C := RX3) (T := TX3) (N := 6) hx hb hts hinX3 hown hK hP 10 rfl rfl 1 (by decide) (hts (.fieldLink RX9 106 "MixedWords$Mix" "width" "I") (by decide +kernel)) (fun _ h9 => h9) rfl dX9_undone_29 ?_
  refine xt_i (y := nI M) (hM) ?_
  refine xj_v (wc := (wSv h cs I L A Q G J)) (wr := [(h 100, .inr (9, [.ref (h 101), .ref (h 102), .ref (h 103), .ref (h 104), .ref (h 105), .ref (h 106), .ref (h 107), .ref (h 108), .ref (h 109)])), (h 101, .inr (3, [.int (I 120), .int (I 121), .int (I 122), .int (I 123), .ref (h 130), .ref (h 136)]))]) hP hD hS hA [1, 2, 3, 4, 5, 6, 7, 8, 9, 11, 12, 13, 14, 15, 16, 17] [0, 10] rfl rfl (by decide) (by decide) (va_runV (As := [.ref (h 130), .ref (h 136), .int (nI R), .int (nI M)]) (rest := []) ⟨hx, hb, hml, hown, hts⟩ (k_X2_solveM l dC dI h cs H.size I L A Q G J R M (by first | assumption | omega | exact hR5) (by first | assumption | omega | exact hM4)) (cwV 4 hts gX9_undone_X2_solve rfl rfl rfl (by decide +kernel) ⟨Nat.le_of_ble_eq_true rfl, Nat.le_of_ble_eq_true rfl⟩) (xpV (wc := (wSv h cs I L A Q G J)) hP hD hK hN [1, 2, 3, 4, 5, 6, 7, 8, 9, 11, 12, 13, 14, 15, 16, 17] rfl (by decide) 1 (ci := 2) rfl rfl _) rfl rfl hl.1 rfl (lv_room (Nat.le_of_ble_eq_true rfl)) dX9_undone_32 ⟨Nat.zero_le _, Nat.zero_le _⟩) (fun u_1 H locs hw hP hD hS => ?_)
  obtain ⟨l188_3, q185_4, q187_5, j0_6, hf_7, rfl⟩ := hw
  have hP : va_P (dC, dI) vwCl (wFL h cs I (va_up L 188 l188_3) A (va_up (va_up Q 185 q185_4) 187 q187_5) G (va_up J 0 j0_6)) H := xP_sub hP [0, 2, 3, 4, 5, 6, 7, 8, 9, 10, 1, 11, 12, 13, 14, 15, 16, 17] rfl
  have hD : va_D A0 (wFL h cs I (va_up L 188 l188_3) A (va_up (va_up Q 185 q185_4) 187 q187_5) G (va_up J 0 j0_6)) := hD.sub [0, 2, 3, 4, 5, 6, 7, 8, 9, 10, 1, 11, 12, 13, 14, 15, 16, 17] (by decide) rfl
  refine lv_aload_n hx hb dX9_undone_35 rfl (lv_at hl 0 rfl) ?_
  refine va_get (D := (dC, dI)) (ci := 9) (v := .ref (h 106)) (C := RX9) (T := TX9) (N := 9) hx hb hts hinX9 hown hK hP 0 rfl rfl 5 (by decide) (hts (.fieldLink RX9 51 "MixedWords" "least" "LMixedWords$Least;") (by decide +kernel)) (fun _ h9 => h9) rfl dX9_undone_36 ?_
  refine va_get (D := (dC, dI)) (ci := 2) (v := .long l188_3) (C := RX2) (T := TX2) (N := 5) hx hb hts hinX2 hown hK hP 1 rfl rfl 4 (by decide) (hts (.fieldLink RX9 192 "MixedWords$Least" "below" "J") (by decide +kernel)) (fun _ h9 => h9) rfl dX9_undone_39 ?_
  refine lv_lconst (v := 0) hx hb dX9_undone_42 rfl ?_
  refine xl_gt (tgt := 50) hx hb dX9_undone_43 dX9_undone_44 (by decide) (fun c_43_7 => ?_) (fun c_43_7 => ?_)
  · skip
    refine lv_iconst (v := nI 0) hx hb dX9_undone_50 (by decide) ?_
    refine lv_istore_n (lv' := [(1, .int (nI 0)), (0, .ref (h 100))]) hx hb dX9_undone_51 rfl hl (by decide) rfl (fun ls hl => ?_)
    refine lv_iconst (v := nI 0) hx hb dX9_undone_52 (by decide) ?_
    refine lv_istore_n (lv' := [(2, .int (nI 0)), (1, .int (nI 0)), (0, .ref (h 100))]) hx hb dX9_undone_53 rfl hl (by decide) rfl (fun ls hl => ?_)
    have cut_54 : ∀ (nf : Nat) (k : Nat) (z1 : Int32), (M - k) < nf → (k ≤ M) → ∀ (H : Heap) (locs : List Loc) (ls : Array Slot), va_P (dC, dI) vwCl (wFL h cs I (va_up L 188 l188_3) A (va_up (va_up Q 185 q185_4) 187 q187_5) G (va_up J 0 j0_6)) H → va_D A0 (wFL h cs I (va_up L 188 l188_3) A (va_up (va_up Q 185 q185_4) 187 q187_5) G (va_up J 0 j0_6)) → va_S A0 s.heap H locs → lv_has ls 3 [(0, .ref (h 100)), (1, .int z1), (2, .int (nI k))] → W p l e (headSpec wsX9_undone ({ frames := 6, cells := 0, slots := 0, locals := 166 })).room s m ([.ref (h 100)] : List Value).toArray below meth c H locs 0 0 (MQ below (va_Qi (fun (r : Int32) (u : CS) => ∃ l188 : Int64, ∃ q185 : Nat → Int64, ∃ q187 : Nat → Int64, ∃ j0 : Nat → Nat → Int64, (True) ∧ u = (I, (va_up L 188 l188), A, (va_up (va_up Q 185 q185) 187 q187), G, (va_up J 0 j0))) (xB (dC, dI) (tysA cs) A0 (fun u : CS => wFL h cs u.1 u.2.1 u.2.2.1 u.2.2.2.1 u.2.2.2.2.1 u.2.2.2.2.2)) A0) ([.ref (h 100)] : List Value).toArray s 0 0 A0) (F0 m 54 ls []) := by
      intro nf
      induction nf with
      | zero => intro k z1 hm; exact absurd hm (Nat.not_lt_zero _)
      | succ nf ih_54 =>
        intro k z1 hm_54 hk54 H locs ls hP hD hS hl
        refine lv_iload_n hx hb dX9_undone_54 rfl (lv_at hl 2 rfl) ?_
        refine lv_aload_n hx hb dX9_undone_55 rfl (lv_at hl 0 rfl) ?_
        refine va_get (D := (dC, dI)) (ci := 9) (v := .ref (h 101)) (C := RX9) (T := TX9) (N := 9) hx hb hts hinX9 hown hK hP 0 rfl rfl 0 (by decide) (hts (.fieldLink RX9 12 "MixedWords" "mix" "LMixedWords$Mix;") (by decide +kernel)) (fun _ h9 => h9) rfl dX9_undone_56 ?_
        refine va_get (D := (dC, dI)) (ci := 3) (v := .int (I 121)) (C := RX3) (T := TX3) (N := 6) hx hb hts hinX3 hown hK hP 10 rfl rfl 1 (by decide) (hts (.fieldLink RX9 106 "MixedWords$Mix" "width" "I") (by decide +kernel)) (fun _ h9 => h9) rfl dX9_undone_59 ?_
        refine xt_i (y := nI M) (hM) ?_
        refine xn_ge (tgt := 106) hx hb dX9_undone_62 (by decide) (by omega) (by omega) (fun c_62_8 => ?_) (fun c_62_8 => ?_)
        · skip
          refine lv_iload_n hx hb dX9_undone_106 rfl (lv_at hl 1 rfl) ?_
          exact xr_i (v := z1) hx hb hr hlocks hK hS dX9_undone_107 (I, (va_up L 188 l188_3), A, (va_up (va_up Q 185 q185_4) 187 q187_5), G, (va_up J 0 j0_6)) ⟨l188_3, q185_4, q187_5, j0_6, trivial, rfl⟩ hP hD
        · skip
          refine lv_aload_n hx hb dX9_undone_65 rfl (lv_at hl 0 rfl) ?_
          refine va_get (D := (dC, dI)) (ci := 9) (v := .ref (h 101)) (C := RX9) (T := TX9) (N := 9) hx hb hts hinX9 hown hK hP 0 rfl rfl 0 (by decide) (hts (.fieldLink RX9 12 "MixedWords" "mix" "LMixedWords$Mix;") (by decide +kernel)) (fun _ h9 => h9) rfl dX9_undone_66 ?_
          refine lv_iload_n hx hb dX9_undone_69 rfl (lv_at hl 1 rfl) ?_
          refine lv_aload_n hx hb dX9_undone_70 rfl (lv_at hl 0 rfl) ?_
          refine va_get (D := (dC, dI)) (ci := 9) (v := .ref (h 106)) (C := RX9) (T := TX9) (N := 9) hx hb hts hinX9 hown hK hP 0 rfl rfl 5 (by decide) (hts (.fieldLink RX9 51 "MixedWords" "least" "LMixedWords$Least;") (by decide +kernel)) (fun _ h9 => h9) rfl dX9_undone_71 ?_
          refine va_get (D := (dC, dI)) (ci := 2) (v := .ref (h 187)) (C := RX2) (T := TX2) (N := 5) hx hb hts hinX2 hown hK hP 1 rfl rfl 3 (by decide) (hts (.fieldLink RX9 196 "MixedWords$Least" "above" "[J") (by decide +kernel)) (fun _ h9 => h9) rfl dX9_undone_74 ?_
          refine lv_iload_n hx hb dX9_undone_77 rfl (lv_at hl 2 rfl) ?_
          refine xa_lald hx hb hK hP 9 1 rfl rfl (by omega) (by decide) dX9_undone_78 ?_
          refine lv_aload_n hx hb dX9_undone_79 rfl (lv_at hl 0 rfl) ?_
          refine va_get (D := (dC, dI)) (ci := 9) (v := .ref (h 106)) (C := RX9) (T := TX9) (N := 9) hx hb hts hinX9 hown hK hP 0 rfl rfl 5 (by decide) (hts (.fieldLink RX9 51 "MixedWords" "least" "LMixedWords$Least;") (by decide +kernel)) (fun _ h9 => h9) rfl dX9_undone_80 ?_
          refine va_get (D := (dC, dI)) (ci := 2) (v := .long l188_3) (C := RX2) (T := TX2) (N := 5) hx hb hts hinX2 hown hK hP 1 rfl rfl 4 (by decide) (hts (.fieldLink RX9 192 "MixedWords$Least" "below" "J") (by decide +kernel)) (fun _ h9 => h9) rfl dX9_undone_83 ?_
          refine lv_aload_n hx hb dX9_undone_86 rfl (lv_at hl 0 rfl) ?_
          refine va_get (D := (dC, dI)) (ci := 9) (v := .ref (h 101)) (C := RX9) (T := TX9) (N := 9) hx hb hts hinX9 hown hK hP 0 rfl rfl 0 (by decide) (hts (.fieldLink RX9 12 "MixedWords" "mix" "LMixedWords$Mix;") (by decide +kernel)) (fun _ h9 => h9) rfl dX9_undone_87 ?_
          refine va_get (D := (dC, dI)) (ci := 3) (v := .int (I 122)) (C := RX3) (T := TX3) (N := 6) hx hb hts hinX3 hown hK hP 10 rfl rfl 2 (by decide) (hts (.fieldLink RX9 83 "MixedWords$Mix" "letterCount" "I") (by decide +kernel)) (fun _ h9 => h9) rfl dX9_undone_90 ?_
          refine xt_i (y := nI a) (ha) ?_
          refine xj_i (wc := ([] : va_W)) (wr := (wFL h cs I (va_up L 188 l188_3) A (va_up (va_up Q 185 q185_4) 187 q187_5) G (va_up J 0 j0_6))) hP hD hS hA [] [0, 1, 2, 3, 4, 5, 6, 7, 8, 9, 10, 11, 12, 13, 14, 15, 16, 17] rfl rfl (by decide) (by decide) (va_runS (As := [.long (q187_5 k), .long l188_3, .int (nI a)]) (rest := [.int z1, .ref (h 101)]) ⟨hx, hb, hml, hown, hts⟩ (k_X9_nearestLetter l dC dI h cs H.size I L A Q G J (q187_5 k) l188_3 (nI a)) (va_cwS 3 hts gX9_undone_X9_nearestLetter rfl rfl rfl (by decide +kernel) ⟨Nat.le_of_ble_eq_true rfl, Nat.le_of_ble_eq_true rfl⟩) (xpS (wc := ([] : va_W)) hP hD hK hN [] rfl (by decide) _) rfl rfl hl.1 rfl (lv_room (Nat.le_of_ble_eq_true rfl)) dX9_undone_93 ⟨Nat.zero_le _, Nat.zero_le _⟩) (fun r_11 u_10 H locs hw hP hD hS => ?_)
          obtain ⟨hf_12, rfl⟩ := hw
          have hP : va_P (dC, dI) vwCl (wFL h cs I (va_up L 188 l188_3) A (va_up (va_up Q 185 q185_4) 187 q187_5) G (va_up J 0 j0_6)) H := hP
          have hD : va_D A0 (wFL h cs I (va_up L 188 l188_3) A (va_up (va_up Q 185 q185_4) 187 q187_5) G (va_up J 0 j0_6)) := hD
          obtain rfl := hf_12
          refine xj_i (wc := (wMix h cs I (va_up L 188 l188_3) A (va_up (va_up Q 185 q185_4) 187 q187_5) G (va_up J 0 j0_6))) (wr := [(h 100, .inr (9, [.ref (h 101), .ref (h 102), .ref (h 103), .ref (h 104), .ref (h 105), .ref (h 106), .ref (h 107), .ref (h 108), .ref (h 109)])), (h 106, .inr (2, [.ref (h 180), .ref (h 185), .ref (h 186), .ref (h 187), .long (l188_3)])), (h 180, .inl (cs 4, 4, .inr (.inr (.inr (.inr (fun i => if i < 4 then some (h (i + 181)) else none)))))), (h 181, .inl (cs 1, 4, .inr (.inl (j0_6 0)))), (h 182, .inl (cs 1, 4, .inr (.inl (j0_6 1)))), (h 183, .inl (cs 1, 4, .inr (.inl (j0_6 2)))), (h 184, .inl (cs 1, 4, .inr (.inl (j0_6 3)))), (h 185, .inl (cs 1, 4, .inr (.inl q185_4))), (h 186, .inl (cs 0, 4, .inl (A 186))), (h 187, .inl (cs 1, 4, .inr (.inl q187_5)))]) hP hD hS hA [10, 11, 12, 13, 14, 15, 16, 17] [0, 1, 2, 3, 4, 5, 6, 7, 8, 9] rfl rfl (by decide) (by decide) (va_runV (As := [.int z1, .int (nlF (q187_5 k) l188_3 (nI a))]) (rest := []) ⟨hx, hb, hml, hown, hts⟩ (k_X3_follow l dC dI h cs H.size I (va_up L 188 l188_3) A (va_up (va_up Q 185 q185_4) 187 q187_5) G (va_up J 0 j0_6) z1 (nlF (q187_5 k) l188_3 (nI a)) a ha (by first | assumption | omega | exact ha2)) (cwV 2 hts gX9_undone_X3_follow rfl rfl rfl (by decide +kernel) ⟨Nat.le_of_ble_eq_true rfl, Nat.le_of_ble_eq_true rfl⟩) (xpV (wc := (wMix h cs I (va_up L 188 l188_3) A (va_up (va_up Q 185 q185_4) 187 q187_5) G (va_up J 0 j0_6))) hP hD hK hN [10, 11, 12, 13, 14, 15, 16, 17] rfl (by decide) 10 (ci := 3) rfl rfl _) rfl rfl hl.1 rfl (lv_room (Nat.le_of_ble_eq_true rfl)) dX9_undone_96 ⟨Nat.zero_le _, Nat.zero_le _⟩) (fun r_14 u_13 H locs hw hP hD hS => ?_)
          obtain ⟨hf_15, rfl⟩ := hw
          have hP : va_P (dC, dI) vwCl (wFL h cs I (va_up L 188 l188_3) A (va_up (va_up Q 185 q185_4) 187 q187_5) G (va_up J 0 j0_6)) H := hP
          have hD : va_D A0 (wFL h cs I (va_up L 188 l188_3) A (va_up (va_up Q 185 q185_4) 187 q187_5) G (va_up J 0 j0_6)) := hD
          refine lv_topi (fun x_16 ex_16 => ?_)
          refine lv_istore_n (lv' := [(1, .int x_16), (0, .ref (h 100)), (2, .int (nI k))]) hx hb dX9_undone_99 rfl hl (by decide) rfl (fun ls hl => ?_)
          refine lv_iinc (v := nI (k + 1)) (lv' := [(2, .int (nI (k + 1))), (1, .int x_16), (0, .ref (h 100))]) hx hb dX9_undone_100 hl (k := 2) rfl (nI_1 _) (by decide) rfl (fun ls hl => ?_)
          refine lv_goto (tgt := 54) hx hb dX9_undone_103 (by decide) ?_
          exact ih_54 (k + 1) x_16 (by omega) (by first | assumption | omega) _ _ _ hP hD hS (lv_sub hl [2, 1, 0] rfl)
    exact cut_54 _ 0 (nI 0) (Nat.lt_succ_self _) (by first | assumption | omega) _ _ _ hP hD hS (lv_sub hl [2, 1, 0] rfl)
  · skip
    refine lv_bipush (v := (-2)) hx hb dX9_undone_47 (by decide) ?_
    exact xr_i (v := (-2)) hx hb hr hlocks hK hS dX9_undone_49 (I, (va_up L 188 l188_3), A, (va_up (va_up Q 185 q185_4) 187 q187_5), G, (va_up J 0 j0_6)) ⟨l188_3, q185_4, q187_5, j0_6, trivial, rfl⟩ hP hD
set_option maxRecDepth 20000 in
theorem ggX9_fraction_X3_hasColumn : GoodIn wsX9_fraction wsX3_hasColumn := goodIn_r _ [22, 23, 55, 56, 57, 58, 59, 60] (by decide +kernel) (by decide +kernel)
set_option maxRecDepth 20000 in
theorem gX9_fraction_X3_hasColumn : GoodIn wsX9_fraction (wsV RX9 95 RX3 yX3_hasColumn wsX3_hasColumn) := goodIn_app (goodIn_of _ (by decide +kernel)) ggX9_fraction_X3_hasColumn
set_option maxRecDepth 20000 in
theorem ggX9_fraction_X2_solve : GoodIn wsX9_fraction wsX2_solve := goodIn_r _ [28, 29, 30, 31, 32, 33, 34, 35, 36, 37, 27, 38, 39, 40, 41, 42, 61, 62, 63, 64, 65] (by decide +kernel) (by decide +kernel)
set_option maxRecDepth 20000 in
theorem gX9_fraction_X2_solve : GoodIn wsX9_fraction (wsV RX9 188 RX2 yX2_solve wsX2_solve) := goodIn_app (goodIn_of _ (by decide +kernel)) ggX9_fraction_X2_solve
set_option maxRecDepth 20000 in
theorem ggX9_fraction_X9_commonDivisor : GoodIn wsX9_fraction wsX9_commonDivisor := goodIn_r _ [45] (by decide +kernel) (by decide +kernel)
set_option maxRecDepth 20000 in
theorem gX9_fraction_X9_commonDivisor : GoodIn wsX9_fraction (va_wsS RX9 217 yX9_commonDivisor wsX9_commonDivisor) := goodIn_app (goodIn_of _ (by decide +kernel)) ggX9_fraction_X9_commonDivisor
theorem bdX9_fraction_0 : (decode cX9_fraction 0 = .ok (.aload_n 0, 1)) ∧ (decode cX9_fraction 1 = .ok (.getfield 12, 3)) ∧ (decode cX9_fraction 4 = .ok (.iload_n 1, 1)) ∧ (decode cX9_fraction 5 = .ok (.invokevirtual 95, 3)) ∧ (decode cX9_fraction 8 = .ok (.ifCond .eq 12, 3)) ∧ (decode cX9_fraction 11 = .ok (.iload_n 2, 1)) ∧ (decode cX9_fraction 12 = .ok (.ifCond .lt 8, 3)) ∧ (decode cX9_fraction 15 = .ok (.iload_n 2, 1)) ∧ (decode cX9_fraction 16 = .ok (.iconst 1, 1)) ∧ (decode cX9_fraction 17 = .ok (.if_icmp .le 7, 3)) ∧ (decode cX9_fraction 20 = .ok (.ldc2_w 207, 3)) ∧ (decode cX9_fraction 23 = .ok (.lreturn, 1)) ∧ (decode cX9_fraction 24 = .ok (.aload_n 0, 1)) ∧ (decode cX9_fraction 25 = .ok (.getfield 51, 3)) ∧ (decode cX9_fraction 28 = .ok (.aload_n 0, 1)) ∧ (decode cX9_fraction 29 = .ok (.getfield 12, 3)) := by decide +kernel
theorem dX9_fraction_0 : decode cX9_fraction 0 = .ok (.aload_n 0, 1) := bdX9_fraction_0.1
theorem dX9_fraction_1 : decode cX9_fraction 1 = .ok (.getfield 12, 3) := bdX9_fraction_0.2.1
theorem dX9_fraction_4 : decode cX9_fraction 4 = .ok (.iload_n 1, 1) := bdX9_fraction_0.2.2.1
theorem dX9_fraction_5 : decode cX9_fraction 5 = .ok (.invokevirtual 95, 3) := bdX9_fraction_0.2.2.2.1
theorem dX9_fraction_8 : decode cX9_fraction 8 = .ok (.ifCond .eq 12, 3) := bdX9_fraction_0.2.2.2.2.1
theorem dX9_fraction_11 : decode cX9_fraction 11 = .ok (.iload_n 2, 1) := bdX9_fraction_0.2.2.2.2.2.1
theorem dX9_fraction_12 : decode cX9_fraction 12 = .ok (.ifCond .lt 8, 3) := bdX9_fraction_0.2.2.2.2.2.2.1
theorem dX9_fraction_15 : decode cX9_fraction 15 = .ok (.iload_n 2, 1) := bdX9_fraction_0.2.2.2.2.2.2.2.1
theorem dX9_fraction_16 : decode cX9_fraction 16 = .ok (.iconst 1, 1) := bdX9_fraction_0.2.2.2.2.2.2.2.2.1
theorem dX9_fraction_17 : decode cX9_fraction 17 = .ok (.if_icmp .le 7, 3) := bdX9_fraction_0.2.2.2.2.2.2.2.2.2.1
theorem dX9_fraction_20 : decode cX9_fraction 20 = .ok (.ldc2_w 207, 3) := bdX9_fraction_0.2.2.2.2.2.2.2.2.2.2.1
theorem dX9_fraction_23 : decode cX9_fraction 23 = .ok (.lreturn, 1) := bdX9_fraction_0.2.2.2.2.2.2.2.2.2.2.2.1
theorem dX9_fraction_24 : decode cX9_fraction 24 = .ok (.aload_n 0, 1) := bdX9_fraction_0.2.2.2.2.2.2.2.2.2.2.2.2.1
theorem dX9_fraction_25 : decode cX9_fraction 25 = .ok (.getfield 51, 3) := bdX9_fraction_0.2.2.2.2.2.2.2.2.2.2.2.2.2.1
theorem dX9_fraction_28 : decode cX9_fraction 28 = .ok (.aload_n 0, 1) := bdX9_fraction_0.2.2.2.2.2.2.2.2.2.2.2.2.2.2.1
theorem dX9_fraction_29 : decode cX9_fraction 29 = .ok (.getfield 12, 3) := bdX9_fraction_0.2.2.2.2.2.2.2.2.2.2.2.2.2.2.2
theorem bdX9_fraction_32 : (decode cX9_fraction 32 = .ok (.getfield 173, 3)) ∧ (decode cX9_fraction 35 = .ok (.aload_n 0, 1)) ∧ (decode cX9_fraction 36 = .ok (.getfield 12, 3)) ∧ (decode cX9_fraction 39 = .ok (.getfield 184, 3)) ∧ (decode cX9_fraction 42 = .ok (.aload_n 0, 1)) ∧ (decode cX9_fraction 43 = .ok (.getfield 12, 3)) ∧ (decode cX9_fraction 46 = .ok (.getfield 147, 3)) ∧ (decode cX9_fraction 49 = .ok (.aload_n 0, 1)) ∧ (decode cX9_fraction 50 = .ok (.getfield 12, 3)) ∧ (decode cX9_fraction 53 = .ok (.getfield 106, 3)) ∧ (decode cX9_fraction 56 = .ok (.invokevirtual 188, 3)) ∧ (decode cX9_fraction 59 = .ok (.aload_n 0, 1)) ∧ (decode cX9_fraction 60 = .ok (.getfield 51, 3)) ∧ (decode cX9_fraction 63 = .ok (.getfield 192, 3)) ∧ (decode cX9_fraction 66 = .ok (.lconst 0, 1)) ∧ (decode cX9_fraction 67 = .ok (.lcmp, 1)) := by decide +kernel
theorem dX9_fraction_32 : decode cX9_fraction 32 = .ok (.getfield 173, 3) := bdX9_fraction_32.1
theorem dX9_fraction_35 : decode cX9_fraction 35 = .ok (.aload_n 0, 1) := bdX9_fraction_32.2.1
theorem dX9_fraction_36 : decode cX9_fraction 36 = .ok (.getfield 12, 3) := bdX9_fraction_32.2.2.1
theorem dX9_fraction_39 : decode cX9_fraction 39 = .ok (.getfield 184, 3) := bdX9_fraction_32.2.2.2.1
theorem dX9_fraction_42 : decode cX9_fraction 42 = .ok (.aload_n 0, 1) := bdX9_fraction_32.2.2.2.2.1
theorem dX9_fraction_43 : decode cX9_fraction 43 = .ok (.getfield 12, 3) := bdX9_fraction_32.2.2.2.2.2.1
theorem dX9_fraction_46 : decode cX9_fraction 46 = .ok (.getfield 147, 3) := bdX9_fraction_32.2.2.2.2.2.2.1
theorem dX9_fraction_49 : decode cX9_fraction 49 = .ok (.aload_n 0, 1) := bdX9_fraction_32.2.2.2.2.2.2.2.1
theorem dX9_fraction_50 : decode cX9_fraction 50 = .ok (.getfield 12, 3) := bdX9_fraction_32.2.2.2.2.2.2.2.2.1
theorem dX9_fraction_53 : decode cX9_fraction 53 = .ok (.getfield 106, 3) := bdX9_fraction_32.2.2.2.2.2.2.2.2.2.1
theorem dX9_fraction_56 : decode cX9_fraction 56 = .ok (.invokevirtual 188, 3) := bdX9_fraction_32.2.2.2.2.2.2.2.2.2.2.1
theorem dX9_fraction_59 : decode cX9_fraction 59 = .ok (.aload_n 0, 1) := bdX9_fraction_32.2.2.2.2.2.2.2.2.2.2.2.1
theorem dX9_fraction_60 : decode cX9_fraction 60 = .ok (.getfield 51, 3) := bdX9_fraction_32.2.2.2.2.2.2.2.2.2.2.2.2.1
theorem dX9_fraction_63 : decode cX9_fraction 63 = .ok (.getfield 192, 3) := bdX9_fraction_32.2.2.2.2.2.2.2.2.2.2.2.2.2.1
theorem dX9_fraction_66 : decode cX9_fraction 66 = .ok (.lconst 0, 1) := bdX9_fraction_32.2.2.2.2.2.2.2.2.2.2.2.2.2.2.1
theorem dX9_fraction_67 : decode cX9_fraction 67 = .ok (.lcmp, 1) := bdX9_fraction_32.2.2.2.2.2.2.2.2.2.2.2.2.2.2.2
theorem bdX9_fraction_68 : (decode cX9_fraction 68 = .ok (.ifCond .gt 7, 3)) ∧ (decode cX9_fraction 71 = .ok (.ldc2_w 209, 3)) ∧ (decode cX9_fraction 74 = .ok (.lreturn, 1)) ∧ (decode cX9_fraction 75 = .ok (.aload_n 0, 1)) ∧ (decode cX9_fraction 76 = .ok (.getfield 51, 3)) ∧ (decode cX9_fraction 79 = .ok (.getfield 196, 3)) ∧ (decode cX9_fraction 82 = .ok (.iload_n 1, 1)) ∧ (decode cX9_fraction 83 = .ok (.laload, 1)) ∧ (decode cX9_fraction 84 = .ok (.lstore_n 3, 1)) ∧ (decode cX9_fraction 85 = .ok (.lconst 1, 1)) ∧ (decode cX9_fraction 86 = .ok (.lload_n 3, 1)) ∧ (decode cX9_fraction 87 = .ok (.invokestatic 211, 3)) ∧ (decode cX9_fraction 90 = .ok (.aload_n 0, 1)) ∧ (decode cX9_fraction 91 = .ok (.getfield 51, 3)) ∧ (decode cX9_fraction 94 = .ok (.getfield 192, 3)) ∧ (decode cX9_fraction 97 = .ok (.invokestatic 217, 3)) := by decide +kernel
theorem dX9_fraction_68 : decode cX9_fraction 68 = .ok (.ifCond .gt 7, 3) := bdX9_fraction_68.1
theorem dX9_fraction_71 : decode cX9_fraction 71 = .ok (.ldc2_w 209, 3) := bdX9_fraction_68.2.1
theorem dX9_fraction_74 : decode cX9_fraction 74 = .ok (.lreturn, 1) := bdX9_fraction_68.2.2.1
theorem dX9_fraction_75 : decode cX9_fraction 75 = .ok (.aload_n 0, 1) := bdX9_fraction_68.2.2.2.1
theorem dX9_fraction_76 : decode cX9_fraction 76 = .ok (.getfield 51, 3) := bdX9_fraction_68.2.2.2.2.1
theorem dX9_fraction_79 : decode cX9_fraction 79 = .ok (.getfield 196, 3) := bdX9_fraction_68.2.2.2.2.2.1
theorem dX9_fraction_82 : decode cX9_fraction 82 = .ok (.iload_n 1, 1) := bdX9_fraction_68.2.2.2.2.2.2.1
theorem dX9_fraction_83 : decode cX9_fraction 83 = .ok (.laload, 1) := bdX9_fraction_68.2.2.2.2.2.2.2.1
theorem dX9_fraction_84 : decode cX9_fraction 84 = .ok (.lstore_n 3, 1) := bdX9_fraction_68.2.2.2.2.2.2.2.2.1
theorem dX9_fraction_85 : decode cX9_fraction 85 = .ok (.lconst 1, 1) := bdX9_fraction_68.2.2.2.2.2.2.2.2.2.1
theorem dX9_fraction_86 : decode cX9_fraction 86 = .ok (.lload_n 3, 1) := bdX9_fraction_68.2.2.2.2.2.2.2.2.2.2.1
theorem dX9_fraction_87 : decode cX9_fraction 87 = .ok (.invokestatic 211, 3) := bdX9_fraction_68.2.2.2.2.2.2.2.2.2.2.2.1
theorem dX9_fraction_90 : decode cX9_fraction 90 = .ok (.aload_n 0, 1) := bdX9_fraction_68.2.2.2.2.2.2.2.2.2.2.2.2.1
theorem dX9_fraction_91 : decode cX9_fraction 91 = .ok (.getfield 51, 3) := bdX9_fraction_68.2.2.2.2.2.2.2.2.2.2.2.2.2.1
theorem dX9_fraction_94 : decode cX9_fraction 94 = .ok (.getfield 192, 3) := bdX9_fraction_68.2.2.2.2.2.2.2.2.2.2.2.2.2.2.1
theorem dX9_fraction_97 : decode cX9_fraction 97 = .ok (.invokestatic 217, 3) := bdX9_fraction_68.2.2.2.2.2.2.2.2.2.2.2.2.2.2.2
theorem bdX9_fraction_100 : (decode cX9_fraction 100 = .ok (.invokestatic 221, 3)) ∧ (decode cX9_fraction 103 = .ok (.lstore 5, 2)) ∧ (decode cX9_fraction 105 = .ok (.iload_n 2, 1)) ∧ (decode cX9_fraction 106 = .ok (.ifCond .ne 7, 3)) ∧ (decode cX9_fraction 109 = .ok (.lload_n 3, 1)) ∧ (decode cX9_fraction 110 = .ok (.goto 10, 3)) ∧ (decode cX9_fraction 113 = .ok (.aload_n 0, 1)) ∧ (decode cX9_fraction 114 = .ok (.getfield 51, 3)) ∧ (decode cX9_fraction 117 = .ok (.getfield 192, 3)) ∧ (decode cX9_fraction 120 = .ok (.lload 5, 2)) ∧ (decode cX9_fraction 122 = .ok (.ldiv, 1)) ∧ (decode cX9_fraction 123 = .ok (.lreturn, 1)) := by decide +kernel
theorem dX9_fraction_100 : decode cX9_fraction 100 = .ok (.invokestatic 221, 3) := bdX9_fraction_100.1
theorem dX9_fraction_103 : decode cX9_fraction 103 = .ok (.lstore 5, 2) := bdX9_fraction_100.2.1
theorem dX9_fraction_105 : decode cX9_fraction 105 = .ok (.iload_n 2, 1) := bdX9_fraction_100.2.2.1
theorem dX9_fraction_106 : decode cX9_fraction 106 = .ok (.ifCond .ne 7, 3) := bdX9_fraction_100.2.2.2.1
theorem dX9_fraction_109 : decode cX9_fraction 109 = .ok (.lload_n 3, 1) := bdX9_fraction_100.2.2.2.2.1
theorem dX9_fraction_110 : decode cX9_fraction 110 = .ok (.goto 10, 3) := bdX9_fraction_100.2.2.2.2.2.1
theorem dX9_fraction_113 : decode cX9_fraction 113 = .ok (.aload_n 0, 1) := bdX9_fraction_100.2.2.2.2.2.2.1
theorem dX9_fraction_114 : decode cX9_fraction 114 = .ok (.getfield 51, 3) := bdX9_fraction_100.2.2.2.2.2.2.2.1
theorem dX9_fraction_117 : decode cX9_fraction 117 = .ok (.getfield 192, 3) := bdX9_fraction_100.2.2.2.2.2.2.2.2.1
theorem dX9_fraction_120 : decode cX9_fraction 120 = .ok (.lload 5, 2) := bdX9_fraction_100.2.2.2.2.2.2.2.2.2.1
theorem dX9_fraction_122 : decode cX9_fraction 122 = .ok (.ldiv, 1) := bdX9_fraction_100.2.2.2.2.2.2.2.2.2.2.1
theorem dX9_fraction_123 : decode cX9_fraction 123 = .ok (.lreturn, 1) := bdX9_fraction_100.2.2.2.2.2.2.2.2.2.2.2
set_option maxHeartbeats 4000000 in
set_option maxRecDepth 100000 in
theorem k_X9_fraction (l : Launch) (dC : Nat → ClassId) (dI : Nat → Nat → Nat) (h : Nat → Nat) (cs : Nat → ClassId) (sz : Nat) (I : Nat → Int32) (L : Nat → Int64) (A : Nat → Nat → Int32) (Q : Nat → Nat → Int64) (G : Nat → Nat → Nat → Int32) (J : Nat → Nat → Nat → Int64) (x y : Int32) (R M : Nat) (hR : I 120 = nI R) (hR1 : 1 ≤ R) (hR5 : R ≤ 5) (hM : I 121 = nI M) (hM1 : 1 ≤ M) (hM4 : M ≤ 4) : Met l yX9_fraction wsX9_fraction ({ frames := 6, cells := 0, slots := 0, locals := 166 }) (va_Pc [.ref (h 100), .int x, .int y] (xPre (dC, dI) (wFL h cs I L A Q G J) (tysA cs) sz)) (va_Ql (fun (r : Int64) (u : CS) => ∃ l188 : Int64, ∃ q185 : Nat → Int64, ∃ q187 : Nat → Int64, ∃ j0 : Nat → Nat → Int64, (True) ∧ u = (I, (va_up L 188 l188), A, (va_up (va_up Q 185 q185) 187 q187), G, (va_up J 0 j0))) (xB (dC, dI) (tysA cs) (va_A (wFL h cs I L A Q G J) sz) (fun u : CS => wFL h cs u.1 u.2.1 u.2.2.1 u.2.2.2.1 u.2.2.2.2.1 u.2.2.2.2.2)) (va_A (wFL h cs I L A Q G J) sz)) 0 0 (va_A (wFL h cs I L A Q G J) sz) := by
  refine Met.ofW (cc := cX9_fraction) (maxL := 7) (ret := (some .long)) (by decide) rfl ?_
  intro p e s m args below meth c s₁ B hml hv
  obtain ⟨rfl, hsz, hP, hK, hD0, hN⟩ := hv
  have hx := B.exec
  have hb := B.bytes
  have hr := B.returns
  have hts := atoms_spec (ws := wsX9_fraction) B.pre
  have hown : s.vm.findClass RX9 = some m.cls := findClass_of_methodNamed B.named
  have hlocks := B.notSynchronized
  subst hsz
  have hD := hD0.self (sz := s.heap.size)
  generalize hAe : va_A (wFL h cs I L A Q G J) s.heap.size = A0 at hD ⊢
  have hA : ∀ q : Nat, s.heap.size ≤ q → A0 q := fun q h => by rw [← hAe]; exact Or.inr h
  have hl := lv_entry ([.ref (h 100), .int x, .int y]) (n := 7) (Nat.le_of_ble_eq_true rfl)
  rw [lg_entry_eq]
  generalize (lg_sl ([.ref (h 100), .int x, .int y]) ++ List.replicate (7 - (lg_sl ([.ref (h 100), .int x, .int y])).length) Slot.unset).toArray = ls at hl ⊢
  have hl : lv_has ls 7 [(0, .ref (h 100)), (1, .int x), (2, .int y)] := hl
  generalize hH : s.heap = H at hP ⊢
  have hS : va_S A0 s.heap H [] := by rw [← hH]; exact va_S.rf
  have hinX9 : ∀ w ∈ wsX90, w ∈ wsX9_fraction := by decide +kernel
  have hinX3 : ∀ w ∈ wsX30, w ∈ wsX9_fraction := by decide +kernel
  have hinX2 : ∀ w ∈ wsX20, w ∈ wsX9_fraction := by decide +kernel
  refine lv_aload_n hx hb dX9_fraction_0 rfl (lv_at hl 0 rfl) ?_
  refine va_get (D := (dC, dI)) (ci := 9) (v := .ref (h 101)) (C := RX9) (T := TX9) (N := 9) hx hb hts hinX9 hown hK hP 0 rfl rfl 0 (by decide) (hts (.fieldLink RX9 12 "MixedWords" "mix" "LMixedWords$Mix;") (by decide +kernel)) (fun _ h9 => h9) rfl dX9_fraction_1 ?_
  refine lv_iload_n hx hb dX9_fraction_4 rfl (lv_at hl 1 rfl) ?_
  refine xj_i (wc := (wMix h cs I L A Q G J)) (wr := [(h 100, .inr (9, [.ref (h 101), .ref (h 102), .ref (h 103), .ref (h 104), .ref (h 105), .ref (h 106), .ref (h 107), .ref (h 108), .ref (h 109)])), (h 106, .inr (2, [.ref (h 180), .ref (h 185), .ref (h 186), .ref (h 187), .long (L 188)])), (h 180, .inl (cs 4, 4, .inr (.inr (.inr (.inr (fun i => if i < 4 then some (h (i + 181)) else none)))))), (h 181, .inl (cs 1, 4, .inr (.inl ((J 0) 0)))), (h 182, .inl (cs 1, 4, .inr (.inl ((J 0) 1)))), (h 183, .inl (cs 1, 4, .inr (.inl ((J 0) 2)))), (h 184, .inl (cs 1, 4, .inr (.inl ((J 0) 3)))), (h 185, .inl (cs 1, 4, .inr (.inl (Q 185)))), (h 186, .inl (cs 0, 4, .inl (A 186))), (h 187, .inl (cs 1, 4, .inr (.inl (Q 187))))]) hP hD hS hA [10, 11, 12, 13, 14, 15, 16, 17] [0, 1, 2, 3, 4, 5, 6, 7, 8, 9] rfl rfl (by decide) (by decide) (va_runV (As := [.int x]) (rest := []) ⟨hx, hb, hml, hown, hts⟩ (k_X3_hasColumn l dC dI h cs H.size I L A Q G J x M hM (by first | assumption | omega | exact hM1) (by first | assumption | omega | exact hM4)) (cwV 1 hts gX9_fraction_X3_hasColumn rfl rfl rfl (by decide +kernel) ⟨Nat.le_of_ble_eq_true rfl, Nat.le_of_ble_eq_true rfl⟩) (xpV (wc := (wMix h cs I L A Q G J)) hP hD hK hN [10, 11, 12, 13, 14, 15, 16, 17] rfl (by decide) 10 (ci := 3) rfl rfl _) rfl rfl hl.1 rfl (lv_room (Nat.le_of_ble_eq_true rfl)) dX9_fraction_5 ⟨Nat.zero_le _, Nat.zero_le _⟩) (fun r_2 u_1 H locs hw hP hD hS => ?_)
  obtain ⟨hf_3, rfl⟩ := hw
  have hP : va_P (dC, dI) vwCl (wFL h cs I L A Q G J) H := hP
  have hD : va_D A0 (wFL h cs I L A Q G J) := hD
  rcases hf_3 with ⟨rfl, i_4, hi_5, hx_6⟩ | ⟨rfl, hn_7⟩
  · skip
    rw [hx_6] at hl
    refine lv_if_eq (tgt := 20) hx hb dX9_fraction_8 (by decide) (fun c9 => False.elim (by revert c9; decide +kernel)) (fun _ => ?_)
    refine lv_iload_n hx hb dX9_fraction_11 rfl (lv_at hl 2 rfl) ?_
    refine lv_if_lt (tgt := 20) hx hb dX9_fraction_12 (by decide) (fun c_12_7 => ?_) (fun c_12_7 => ?_)
    · skip
      refine lv_ldc2 (v := (-1000000000000001)) hx hb hown (hts (.constantLong RX9 207 (-1000000000000001)) (by decide +kernel)) dX9_fraction_20 ?_
      exact xr_l (v := (-1000000000000001 : Int64)) hx hb hr hlocks hK hS dX9_fraction_23 (I, (va_up L 188 (L 188)), A, (va_up (va_up Q 185 (Q 185)) 187 (Q 187)), G, (va_up J 0 (J 0))) ⟨(L 188), (Q 185), (Q 187), (J 0), trivial, rfl⟩ hP hD
    · skip
      refine lv_iload_n hx hb dX9_fraction_15 rfl (lv_at hl 2 rfl) ?_
      refine lv_iconst (v := nI 1) hx hb dX9_fraction_16 (by decide) ?_
      refine lv_icmp_le (tgt := 24) hx hb dX9_fraction_17 (by decide) (fun c_17_8 => ?_) (fun c_17_8 => ?_)
      · skip
        refine lv_aload_n hx hb dX9_fraction_24 rfl (lv_at hl 0 rfl) ?_
        refine va_get (D := (dC, dI)) (ci := 9) (v := .ref (h 106)) (C := RX9) (T := TX9) (N := 9) hx hb hts hinX9 hown hK hP 0 rfl rfl 5 (by decide) (hts (.fieldLink RX9 51 "MixedWords" "least" "LMixedWords$Least;") (by decide +kernel)) (fun _ h9 => h9) rfl dX9_fraction_25 ?_
        refine lv_aload_n hx hb dX9_fraction_28 rfl (lv_at hl 0 rfl) ?_
        refine va_get (D := (dC, dI)) (ci := 9) (v := .ref (h 101)) (C := RX9) (T := TX9) (N := 9) hx hb hts hinX9 hown hK hP 0 rfl rfl 0 (by decide) (hts (.fieldLink RX9 12 "MixedWords" "mix" "LMixedWords$Mix;") (by decide +kernel)) (fun _ h9 => h9) rfl dX9_fraction_29 ?_
        refine va_get (D := (dC, dI)) (ci := 3) (v := .ref (h 130)) (C := RX3) (T := TX3) (N := 6) hx hb hts hinX3 hown hK hP 10 rfl rfl 4 (by decide) (hts (.fieldLink RX9 173 "MixedWords$Mix" "cells" "[[I") (by decide +kernel)) (fun _ h9 => h9) rfl dX9_fraction_32 ?_
        refine lv_aload_n hx hb dX9_fraction_35 rfl (lv_at hl 0 rfl) ?_
        refine va_get (D := (dC, dI)) (ci := 9) (v := .ref (h 101)) (C := RX9) (T := TX9) (N := 9) hx hb hts hinX9 hown hK hP 0 rfl rfl 0 (by decide) (hts (.fieldLink RX9 12 "MixedWords" "mix" "LMixedWords$Mix;") (by decide +kernel)) (fun _ h9 => h9) rfl dX9_fraction_36 ?_
        refine va_get (D := (dC, dI)) (ci := 3) (v := .ref (h 136)) (C := RX3) (T := TX3) (N := 6) hx hb hts hinX3 hown hK hP 10 rfl rfl 5 (by decide) (hts (.fieldLink RX9 184 "MixedWords$Mix" "heard" "[I") (by decide +kernel)) (fun _ h9 => h9) rfl dX9_fraction_39 ?_
        refine lv_aload_n hx hb dX9_fraction_42 rfl (lv_at hl 0 rfl) ?_
        refine va_get (D := (dC, dI)) (ci := 9) (v := .ref (h 101)) (C := RX9) (T := TX9) (N := 9) hx hb hts hinX9 hown hK hP 0 rfl rfl 0 (by decide) (hts (.fieldLink RX9 12 "MixedWords" "mix" "LMixedWords$Mix;") (by decide +kernel)) (fun _ h9 => h9) rfl dX9_fraction_43 ?_
        refine va_get (D := (dC, dI)) (ci := 3) (v := .int (I 120)) (C := RX3) (T := TX3) (N := 6) hx hb hts hinX3 hown hK hP 10 rfl rfl 0 (by decide) (hts (.fieldLink RX9 147 "MixedWords$Mix" "height" "I") (by decide +kernel)) (fun _ h9 => h9) rfl dX9_fraction_46 ?_
        refine xt_i (y := nI R) (hR) ?_
        refine lv_aload_n hx hb dX9_fraction_49 rfl (lv_at hl 0 rfl) ?_
        refine va_get (D := (dC, dI)) (ci := 9) (v := .ref (h 101)) (C := RX9) (T := TX9) (N := 9) hx hb hts hinX9 hown hK hP 0 rfl rfl 0 (by decide) (hts (.fieldLink RX9 12 "MixedWords" "mix" "LMixedWords$Mix;") (by decide +kernel)) (fun _ h9 => h9) rfl dX9_fraction_50 ?_
        refine va_get (D := (dC, dI)) (ci := 3) (v := .int (I 121)) (C := RX3) (T := TX3) (N := 6) hx hb hts hinX3 hown hK hP 10 rfl rfl 1 (by decide) (hts (.fieldLink RX9 106 "MixedWords$Mix" "width" "I") (by decide +kernel)) (fun _ h9 => h9) rfl dX9_fraction_53 ?_
        refine xt_i (y := nI M) (hM) ?_
        refine xj_v (wc := (wSv h cs I L A Q G J)) (wr := [(h 100, .inr (9, [.ref (h 101), .ref (h 102), .ref (h 103), .ref (h 104), .ref (h 105), .ref (h 106), .ref (h 107), .ref (h 108), .ref (h 109)])), (h 101, .inr (3, [.int (I 120), .int (I 121), .int (I 122), .int (I 123), .ref (h 130), .ref (h 136)]))]) hP hD hS hA [1, 2, 3, 4, 5, 6, 7, 8, 9, 11, 12, 13, 14, 15, 16, 17] [0, 10] rfl rfl (by decide) (by decide) (va_runV (As := [.ref (h 130), .ref (h 136), .int (nI R), .int (nI M)]) (rest := []) ⟨hx, hb, hml, hown, hts⟩ (k_X2_solveM l dC dI h cs H.size I L A Q G J R M (by first | assumption | omega | exact hR5) (by first | assumption | omega | exact hM4)) (cwV 4 hts gX9_fraction_X2_solve rfl rfl rfl (by decide +kernel) ⟨Nat.le_of_ble_eq_true rfl, Nat.le_of_ble_eq_true rfl⟩) (xpV (wc := (wSv h cs I L A Q G J)) hP hD hK hN [1, 2, 3, 4, 5, 6, 7, 8, 9, 11, 12, 13, 14, 15, 16, 17] rfl (by decide) 1 (ci := 2) rfl rfl _) rfl rfl hl.1 rfl (lv_room (Nat.le_of_ble_eq_true rfl)) dX9_fraction_56 ⟨Nat.zero_le _, Nat.zero_le _⟩) (fun u_10 H locs hw hP hD hS => ?_)
        obtain ⟨l188_12, q185_13, q187_14, j0_15, hf_16, rfl⟩ := hw
        have hP : va_P (dC, dI) vwCl (wFL h cs I (va_up L 188 l188_12) A (va_up (va_up Q 185 q185_13) 187 q187_14) G (va_up J 0 j0_15)) H := xP_sub hP [0, 2, 3, 4, 5, 6, 7, 8, 9, 10, 1, 11, 12, 13, 14, 15, 16, 17] rfl
        have hD : va_D A0 (wFL h cs I (va_up L 188 l188_12) A (va_up (va_up Q 185 q185_13) 187 q187_14) G (va_up J 0 j0_15)) := hD.sub [0, 2, 3, 4, 5, 6, 7, 8, 9, 10, 1, 11, 12, 13, 14, 15, 16, 17] (by decide) rfl
        refine lv_aload_n hx hb dX9_fraction_59 rfl (lv_at hl 0 rfl) ?_
        refine va_get (D := (dC, dI)) (ci := 9) (v := .ref (h 106)) (C := RX9) (T := TX9) (N := 9) hx hb hts hinX9 hown hK hP 0 rfl rfl 5 (by decide) (hts (.fieldLink RX9 51 "MixedWords" "least" "LMixedWords$Least;") (by decide +kernel)) (fun _ h9 => h9) rfl dX9_fraction_60 ?_
        refine va_get (D := (dC, dI)) (ci := 2) (v := .long l188_12) (C := RX2) (T := TX2) (N := 5) hx hb hts hinX2 hown hK hP 1 rfl rfl 4 (by decide) (hts (.fieldLink RX9 192 "MixedWords$Least" "below" "J") (by decide +kernel)) (fun _ h9 => h9) rfl dX9_fraction_63 ?_
        refine lv_lconst (v := 0) hx hb dX9_fraction_66 rfl ?_
        refine xl_gt (tgt := 75) hx hb dX9_fraction_67 dX9_fraction_68 (by decide) (fun c_67_16 => ?_) (fun c_67_16 => ?_)
        · skip
          refine lv_aload_n hx hb dX9_fraction_75 rfl (lv_at hl 0 rfl) ?_
          refine va_get (D := (dC, dI)) (ci := 9) (v := .ref (h 106)) (C := RX9) (T := TX9) (N := 9) hx hb hts hinX9 hown hK hP 0 rfl rfl 5 (by decide) (hts (.fieldLink RX9 51 "MixedWords" "least" "LMixedWords$Least;") (by decide +kernel)) (fun _ h9 => h9) rfl dX9_fraction_76 ?_
          refine va_get (D := (dC, dI)) (ci := 2) (v := .ref (h 187)) (C := RX2) (T := TX2) (N := 5) hx hb hts hinX2 hown hK hP 1 rfl rfl 3 (by decide) (hts (.fieldLink RX9 196 "MixedWords$Least" "above" "[J") (by decide +kernel)) (fun _ h9 => h9) rfl dX9_fraction_79 ?_
          refine lv_iload_n hx hb dX9_fraction_82 rfl (lv_at hl 1 rfl) ?_
          refine xa_lald hx hb hK hP 9 1 rfl rfl (by omega) (by decide) dX9_fraction_83 ?_
          refine lv_lstore_n (lv' := [(3, .long (q187_14 i_4)), (0, .ref (h 100)), (1, .int (nI i_4)), (2, .int y)]) hx hb dX9_fraction_84 rfl hl (by decide) rfl (fun ls hl => ?_)
          refine lv_lconst (v := 1) hx hb dX9_fraction_85 rfl ?_
          refine lv_lload_n hx hb dX9_fraction_86 rfl (lv_at hl 0 rfl) ?_
          refine va_mabs_long hx hb (hml.trans hl.1.symm) hown (hts (.methodLink RX9 211 Lib.MathLoose.abs_long.x) (by decide +kernel)) (hts (.static Lib.MathLoose.abs_long.x) (by decide +kernel)) (hts (.initialized "java/lang/Math") (by decide +kernel)) (hts (.code Lib.MathLoose.abs_long.x Lib.MathLoose.abs_long.code 2 (some .long)) (by decide +kernel)) (Nat.le_of_ble_eq_true rfl) (Nat.le_of_ble_eq_true rfl) (Nat.zero_le _) (Nat.zero_le _) dX9_fraction_87 ?_
          refine lv_aload_n hx hb dX9_fraction_90 rfl (lv_at hl 1 rfl) ?_
          refine va_get (D := (dC, dI)) (ci := 9) (v := .ref (h 106)) (C := RX9) (T := TX9) (N := 9) hx hb hts hinX9 hown hK hP 0 rfl rfl 5 (by decide) (hts (.fieldLink RX9 51 "MixedWords" "least" "LMixedWords$Least;") (by decide +kernel)) (fun _ h9 => h9) rfl dX9_fraction_91 ?_
          refine va_get (D := (dC, dI)) (ci := 2) (v := .long l188_12) (C := RX2) (T := TX2) (N := 5) hx hb hts hinX2 hown hK hP 1 rfl rfl 4 (by decide) (hts (.fieldLink RX9 192 "MixedWords$Least" "below" "J") (by decide +kernel)) (fun _ h9 => h9) rfl dX9_fraction_94 ?_
          refine xj_l (wc := ([] : va_W)) (wr := (wFL h cs I (va_up L 188 l188_12) A (va_up (va_up Q 185 q185_13) 187 q187_14) G (va_up J 0 j0_15))) hP hD hS hA [] [0, 1, 2, 3, 4, 5, 6, 7, 8, 9, 10, 11, 12, 13, 14, 15, 16, 17] rfl rfl (by decide) (by decide) (va_runS (As := [.long (if 0 < (q187_14 i_4) then (q187_14 i_4) else -(q187_14 i_4)), .long l188_12]) (rest := [.long (1 : Int64)]) ⟨hx, hb, hml, hown, hts⟩ (k_X9_commonDivisor l dC dI h cs H.size I L A Q G J (if 0 < (q187_14 i_4) then (q187_14 i_4) else -(q187_14 i_4)) l188_12) (va_cwS 2 hts gX9_fraction_X9_commonDivisor rfl rfl rfl (by decide +kernel) ⟨Nat.le_of_ble_eq_true rfl, Nat.le_of_ble_eq_true rfl⟩) (xpS (wc := ([] : va_W)) hP hD hK hN [] rfl (by decide) _) rfl rfl hl.1 rfl (lv_room (Nat.le_of_ble_eq_true rfl)) dX9_fraction_97 ⟨Nat.zero_le _, Nat.zero_le _⟩) (fun r_19 u_18 H locs hw hP hD hS => ?_)
          obtain ⟨hf_20, rfl⟩ := hw
          have hP : va_P (dC, dI) vwCl (wFL h cs I (va_up L 188 l188_12) A (va_up (va_up Q 185 q185_13) 187 q187_14) G (va_up J 0 j0_15)) H := hP
          have hD : va_D A0 (wFL h cs I (va_up L 188 l188_12) A (va_up (va_up Q 185 q185_13) 187 q187_14) G (va_up J 0 j0_15)) := hD
          refine va_mmax_long hx hb (hml.trans hl.1.symm) hown (hts (.methodLink RX9 221 Lib.MathLoose.max_long.x) (by decide +kernel)) (hts (.static Lib.MathLoose.max_long.x) (by decide +kernel)) (hts (.initialized "java/lang/Math") (by decide +kernel)) (hts (.code Lib.MathLoose.max_long.x Lib.MathLoose.max_long.code 4 (some .long)) (by decide +kernel)) (Nat.le_of_ble_eq_true rfl) (Nat.le_of_ble_eq_true rfl) (Nat.zero_le _) (Nat.zero_le _) dX9_fraction_100 ?_
          refine lv_lstore (lv' := [(5, .long (if r_19 < (1 : Int64) then (1 : Int64) else r_19)), (3, .long (q187_14 i_4)), (0, .ref (h 100)), (1, .int (nI i_4)), (2, .int y)]) hx hb dX9_fraction_103 hl (by decide) rfl (fun ls hl => ?_)
          refine lv_iload_n hx hb dX9_fraction_105 rfl (lv_at hl 4 rfl) ?_
          refine lv_if_ne (tgt := 113) hx hb dX9_fraction_106 (by decide) (fun c_106_20 => ?_) (fun c_106_20 => ?_)
          · skip
            refine lv_aload_n hx hb dX9_fraction_113 rfl (lv_at hl 2 rfl) ?_
            refine va_get (D := (dC, dI)) (ci := 9) (v := .ref (h 106)) (C := RX9) (T := TX9) (N := 9) hx hb hts hinX9 hown hK hP 0 rfl rfl 5 (by decide) (hts (.fieldLink RX9 51 "MixedWords" "least" "LMixedWords$Least;") (by decide +kernel)) (fun _ h9 => h9) rfl dX9_fraction_114 ?_
            refine va_get (D := (dC, dI)) (ci := 2) (v := .long l188_12) (C := RX2) (T := TX2) (N := 5) hx hb hts hinX2 hown hK hP 1 rfl rfl 4 (by decide) (hts (.fieldLink RX9 192 "MixedWords$Least" "below" "J") (by decide +kernel)) (fun _ h9 => h9) rfl dX9_fraction_117 ?_
            refine lv_lload hx hb dX9_fraction_120 (lv_at hl 0 rfl) ?_
            refine lv_ldiv hx hb dX9_fraction_122 (mx_ne0) ?_
            exact xr_l (v := (l188_12 / (if r_19 < (1 : Int64) then (1 : Int64) else r_19))) hx hb hr hlocks hK hS dX9_fraction_123 (I, (va_up L 188 l188_12), A, (va_up (va_up Q 185 q185_13) 187 q187_14), G, (va_up J 0 j0_15)) ⟨l188_12, q185_13, q187_14, j0_15, trivial, rfl⟩ hP hD
          · skip
            refine lv_lload_n hx hb dX9_fraction_109 rfl (lv_at hl 1 rfl) ?_
            refine lv_goto (tgt := 120) hx hb dX9_fraction_110 (by decide) ?_
            refine lv_lload hx hb dX9_fraction_120 (lv_at hl 0 rfl) ?_
            refine lv_ldiv hx hb dX9_fraction_122 (mx_ne0) ?_
            exact xr_l (v := ((q187_14 i_4) / (if r_19 < (1 : Int64) then (1 : Int64) else r_19))) hx hb hr hlocks hK hS dX9_fraction_123 (I, (va_up L 188 l188_12), A, (va_up (va_up Q 185 q185_13) 187 q187_14), G, (va_up J 0 j0_15)) ⟨l188_12, q185_13, q187_14, j0_15, trivial, rfl⟩ hP hD
        · skip
          refine lv_ldc2 (v := (-1000000000000002)) hx hb hown (hts (.constantLong RX9 209 (-1000000000000002)) (by decide +kernel)) dX9_fraction_71 ?_
          exact xr_l (v := (-1000000000000002 : Int64)) hx hb hr hlocks hK hS dX9_fraction_74 (I, (va_up L 188 l188_12), A, (va_up (va_up Q 185 q185_13) 187 q187_14), G, (va_up J 0 j0_15)) ⟨l188_12, q185_13, q187_14, j0_15, trivial, rfl⟩ hP hD
      · skip
        refine lv_ldc2 (v := (-1000000000000001)) hx hb hown (hts (.constantLong RX9 207 (-1000000000000001)) (by decide +kernel)) dX9_fraction_20 ?_
        exact xr_l (v := (-1000000000000001 : Int64)) hx hb hr hlocks hK hS dX9_fraction_23 (I, (va_up L 188 (L 188)), A, (va_up (va_up Q 185 (Q 185)) 187 (Q 187)), G, (va_up J 0 (J 0))) ⟨(L 188), (Q 185), (Q 187), (J 0), trivial, rfl⟩ hP hD
  · skip
    refine lv_if_eq (tgt := 20) hx hb dX9_fraction_8 (by decide) (fun _ => ?_) (fun c9 => False.elim (by revert c9; decide +kernel))
    refine lv_ldc2 (v := (-1000000000000001)) hx hb hown (hts (.constantLong RX9 207 (-1000000000000001)) (by decide +kernel)) dX9_fraction_20 ?_
    exact xr_l (v := (-1000000000000001 : Int64)) hx hb hr hlocks hK hS dX9_fraction_23 (I, (va_up L 188 (L 188)), A, (va_up (va_up Q 185 (Q 185)) 187 (Q 187)), G, (va_up J 0 (J 0))) ⟨(L 188), (Q 185), (Q 187), (J 0), trivial, rfl⟩ hP hD
set_option maxRecDepth 20000 in
theorem ggX9_taken_X6_takeAll : GoodIn wsX9_taken wsX6_takeAll := goodIn_r _ [9, 10, 11, 12, 13, 14, 15, 16, 17, 18, 19, 20, 21, 8, 22, 23, 24, 25, 26, 27, 28, 29, 30, 31, 32, 33, 34, 35, 36, 37, 38, 39, 40, 41, 42, 43, 44, 45, 46, 47, 48, 49, 50, 51, 52, 53, 54, 55, 56, 78, 79, 80, 81, 72, 73, 74, 75, 76, 77] (by decide +kernel) (by decide +kernel)
set_option maxRecDepth 20000 in
theorem gX9_taken_X6_takeAll : GoodIn wsX9_taken (wsV RX9 224 RX6 yX6_takeAll wsX6_takeAll) := goodIn_app (goodIn_of _ (by decide +kernel)) ggX9_taken_X6_takeAll
set_option maxRecDepth 20000 in
theorem ggX9_taken_X3_follow : GoodIn wsX9_taken wsX3_follow := goodIn_r _ [61, 62, 72, 73, 74, 75, 76, 77] (by decide +kernel) (by decide +kernel)
set_option maxRecDepth 20000 in
theorem gX9_taken_X3_follow : GoodIn wsX9_taken (wsV RX9 204 RX3 yX3_follow wsX3_follow) := goodIn_app (goodIn_of _ (by decide +kernel)) ggX9_taken_X3_follow
theorem bdX9_taken_0 : (decode cX9_taken 0 = .ok (.aload_n 0, 1)) ∧ (decode cX9_taken 1 = .ok (.getfield 58, 3)) ∧ (decode cX9_taken 4 = .ok (.invokevirtual 224, 3)) ∧ (decode cX9_taken 7 = .ok (.iconst 0, 1)) ∧ (decode cX9_taken 8 = .ok (.istore_n 1, 1)) ∧ (decode cX9_taken 9 = .ok (.iconst 0, 1)) ∧ (decode cX9_taken 10 = .ok (.istore_n 2, 1)) ∧ (decode cX9_taken 11 = .ok (.iload_n 2, 1)) ∧ (decode cX9_taken 12 = .ok (.aload_n 0, 1)) ∧ (decode cX9_taken 13 = .ok (.getfield 12, 3)) ∧ (decode cX9_taken 16 = .ok (.getfield 106, 3)) ∧ (decode cX9_taken 19 = .ok (.if_icmp .ge 27, 3)) ∧ (decode cX9_taken 22 = .ok (.aload_n 0, 1)) ∧ (decode cX9_taken 23 = .ok (.getfield 12, 3)) ∧ (decode cX9_taken 26 = .ok (.iload_n 1, 1)) ∧ (decode cX9_taken 27 = .ok (.aload_n 0, 1)) := by decide +kernel
theorem dX9_taken_0 : decode cX9_taken 0 = .ok (.aload_n 0, 1) := bdX9_taken_0.1
theorem dX9_taken_1 : decode cX9_taken 1 = .ok (.getfield 58, 3) := bdX9_taken_0.2.1
theorem dX9_taken_4 : decode cX9_taken 4 = .ok (.invokevirtual 224, 3) := bdX9_taken_0.2.2.1
theorem dX9_taken_7 : decode cX9_taken 7 = .ok (.iconst 0, 1) := bdX9_taken_0.2.2.2.1
theorem dX9_taken_8 : decode cX9_taken 8 = .ok (.istore_n 1, 1) := bdX9_taken_0.2.2.2.2.1
theorem dX9_taken_9 : decode cX9_taken 9 = .ok (.iconst 0, 1) := bdX9_taken_0.2.2.2.2.2.1
theorem dX9_taken_10 : decode cX9_taken 10 = .ok (.istore_n 2, 1) := bdX9_taken_0.2.2.2.2.2.2.1
theorem dX9_taken_11 : decode cX9_taken 11 = .ok (.iload_n 2, 1) := bdX9_taken_0.2.2.2.2.2.2.2.1
theorem dX9_taken_12 : decode cX9_taken 12 = .ok (.aload_n 0, 1) := bdX9_taken_0.2.2.2.2.2.2.2.2.1
theorem dX9_taken_13 : decode cX9_taken 13 = .ok (.getfield 12, 3) := bdX9_taken_0.2.2.2.2.2.2.2.2.2.1
theorem dX9_taken_16 : decode cX9_taken 16 = .ok (.getfield 106, 3) := bdX9_taken_0.2.2.2.2.2.2.2.2.2.2.1
theorem dX9_taken_19 : decode cX9_taken 19 = .ok (.if_icmp .ge 27, 3) := bdX9_taken_0.2.2.2.2.2.2.2.2.2.2.2.1
theorem dX9_taken_22 : decode cX9_taken 22 = .ok (.aload_n 0, 1) := bdX9_taken_0.2.2.2.2.2.2.2.2.2.2.2.2.1
theorem dX9_taken_23 : decode cX9_taken 23 = .ok (.getfield 12, 3) := bdX9_taken_0.2.2.2.2.2.2.2.2.2.2.2.2.2.1
theorem dX9_taken_26 : decode cX9_taken 26 = .ok (.iload_n 1, 1) := bdX9_taken_0.2.2.2.2.2.2.2.2.2.2.2.2.2.2.1
theorem dX9_taken_27 : decode cX9_taken 27 = .ok (.aload_n 0, 1) := bdX9_taken_0.2.2.2.2.2.2.2.2.2.2.2.2.2.2.2
theorem bdX9_taken_28 : (decode cX9_taken 28 = .ok (.getfield 58, 3)) ∧ (decode cX9_taken 31 = .ok (.getfield 227, 3)) ∧ (decode cX9_taken 34 = .ok (.iload_n 2, 1)) ∧ (decode cX9_taken 35 = .ok (.iaload, 1)) ∧ (decode cX9_taken 36 = .ok (.invokevirtual 204, 3)) ∧ (decode cX9_taken 39 = .ok (.istore_n 1, 1)) ∧ (decode cX9_taken 40 = .ok (.iinc 2 1, 3)) ∧ (decode cX9_taken 43 = .ok (.goto (-32), 3)) ∧ (decode cX9_taken 46 = .ok (.iload_n 1, 1)) ∧ (decode cX9_taken 47 = .ok (.ireturn, 1)) := by decide +kernel
theorem dX9_taken_28 : decode cX9_taken 28 = .ok (.getfield 58, 3) := bdX9_taken_28.1
theorem dX9_taken_31 : decode cX9_taken 31 = .ok (.getfield 227, 3) := bdX9_taken_28.2.1
theorem dX9_taken_34 : decode cX9_taken 34 = .ok (.iload_n 2, 1) := bdX9_taken_28.2.2.1
theorem dX9_taken_35 : decode cX9_taken 35 = .ok (.iaload, 1) := bdX9_taken_28.2.2.2.1
theorem dX9_taken_36 : decode cX9_taken 36 = .ok (.invokevirtual 204, 3) := bdX9_taken_28.2.2.2.2.1
theorem dX9_taken_39 : decode cX9_taken 39 = .ok (.istore_n 1, 1) := bdX9_taken_28.2.2.2.2.2.1
theorem dX9_taken_40 : decode cX9_taken 40 = .ok (.iinc 2 1, 3) := bdX9_taken_28.2.2.2.2.2.2.1
theorem dX9_taken_43 : decode cX9_taken 43 = .ok (.goto (-32), 3) := bdX9_taken_28.2.2.2.2.2.2.2.1
theorem dX9_taken_46 : decode cX9_taken 46 = .ok (.iload_n 1, 1) := bdX9_taken_28.2.2.2.2.2.2.2.2.1
theorem dX9_taken_47 : decode cX9_taken 47 = .ok (.ireturn, 1) := bdX9_taken_28.2.2.2.2.2.2.2.2.2
set_option maxHeartbeats 4000000 in
set_option maxRecDepth 100000 in
theorem k_X9_taken (l : Launch) (dC : Nat → ClassId) (dI : Nat → Nat → Nat) (h : Nat → Nat) (cs : Nat → ClassId) (sz : Nat) (I : Nat → Int32) (L : Nat → Int64) (A : Nat → Nat → Int32) (Q : Nat → Nat → Int64) (G : Nat → Nat → Nat → Int32) (J : Nat → Nat → Nat → Int64) (R M a : Nat) (hR : I 120 = nI R) (hR1 : 1 ≤ R) (hR5 : R ≤ 5) (hM : I 121 = nI M) (hM1 : 1 ≤ M) (hM4 : M ≤ 4) (ha : I 122 = nI a) (ha2 : a = 2 ∨ a = 4) : Met l yX9_taken wsX9_taken ({ frames := 5, cells := 0, slots := 0, locals := 154 }) (va_Pc [.ref (h 100)] (xPre (dC, dI) (wFK h cs I L A Q G J) (tysA cs) sz)) (va_Qi (fun (r : Int32) (u : CS) => ∃ a190 : Nat → Int32, ∃ a191 : Nat → Int32, ∃ a192 : Nat → Int32, (True) ∧ u = (I, L, (va_up (va_up (va_up A 190 a190) 191 a191) 192 a192), Q, G, J)) (xB (dC, dI) (tysA cs) (va_A (wFK h cs I L A Q G J) sz) (fun u : CS => wFK h cs u.1 u.2.1 u.2.2.1 u.2.2.2.1 u.2.2.2.2.1 u.2.2.2.2.2)) (va_A (wFK h cs I L A Q G J) sz)) 0 0 (va_A (wFK h cs I L A Q G J) sz) := by
  refine Met.ofW (cc := cX9_taken) (maxL := 3) (ret := (some .int)) (by decide) rfl ?_
  intro p e s m args below meth c s₁ B hml hv
  obtain ⟨rfl, hsz, hP, hK, hD0, hN⟩ := hv
  have hx := B.exec
  have hb := B.bytes
  have hr := B.returns
  have hts := atoms_spec (ws := wsX9_taken) B.pre
  have hown : s.vm.findClass RX9 = some m.cls := findClass_of_methodNamed B.named
  have hlocks := B.notSynchronized
  subst hsz
  have hD := hD0.self (sz := s.heap.size)
  generalize hAe : va_A (wFK h cs I L A Q G J) s.heap.size = A0 at hD ⊢
  have hA : ∀ q : Nat, s.heap.size ≤ q → A0 q := fun q h => by rw [← hAe]; exact Or.inr h
  have hl := lv_entry ([.ref (h 100)]) (n := 3) (Nat.le_of_ble_eq_true rfl)
  rw [lg_entry_eq]
  generalize (lg_sl ([.ref (h 100)]) ++ List.replicate (3 - (lg_sl ([.ref (h 100)])).length) Slot.unset).toArray = ls at hl ⊢
  have hl : lv_has ls 3 [(0, .ref (h 100))] := hl
  generalize hH : s.heap = H at hP ⊢
  have hS : va_S A0 s.heap H [] := by rw [← hH]; exact va_S.rf
  have hinX9 : ∀ w ∈ wsX90, w ∈ wsX9_taken := by decide +kernel
  have hinX3 : ∀ w ∈ wsX30, w ∈ wsX9_taken := by decide +kernel
  have hinX6 : ∀ w ∈ wsX60, w ∈ wsX9_taken := by decide +kernel
  refine lv_aload_n hx hb dX9_taken_0 rfl (lv_at hl 0 rfl) ?_
  refine va_get (D := (dC, dI)) (ci := 9) (v := .ref (h 107)) (C := RX9) (T := TX9) (N := 9) hx hb hts hinX9 hown hK hP 0 rfl rfl 6 (by decide) (hts (.fieldLink RX9 58 "MixedWords" "taker" "LMixedWords$Taker;") (by decide +kernel)) (fun _ h9 => h9) rfl dX9_taken_1 ?_
  refine xj_v (wc := (wTaker h cs I L A Q G J)) (wr := [(h 100, .inr (9, [.ref (h 101), .ref (h 102), .ref (h 103), .ref (h 104), .ref (h 105), .ref (h 106), .ref (h 107), .ref (h 108), .ref (h 109)]))]) hP hD hS hA [1, 2, 3, 4, 5, 6, 7, 8, 9, 10, 11, 12] [0] rfl rfl (by decide) (by decide) (va_runV (As := []) (rest := []) ⟨hx, hb, hml, hown, hts⟩ (k_X6_takeAll l dC dI h cs H.size I L A Q G J R M a hR (by first | assumption | omega | exact hR1) (by first | assumption | omega | exact hR5) hM (by first | assumption | omega | exact hM1) (by first | assumption | omega | exact hM4) ha (by first | assumption | omega | exact ha2)) (cwV 0 hts gX9_taken_X6_takeAll rfl rfl rfl (by decide +kernel) ⟨Nat.le_of_ble_eq_true rfl, Nat.le_of_ble_eq_true rfl⟩) (xpV (wc := (wTaker h cs I L A Q G J)) hP hD hK hN [1, 2, 3, 4, 5, 6, 7, 8, 9, 10, 11, 12] rfl (by decide) 1 (ci := 6) rfl rfl _) rfl rfl hl.1 rfl (lv_room (Nat.le_of_ble_eq_true rfl)) dX9_taken_4 ⟨Nat.zero_le _, Nat.zero_le _⟩) (fun u_1 H locs hw hP hD hS => ?_)
  obtain ⟨a190_3, a191_4, a192_5, hf_6, rfl⟩ := hw
  have hP : va_P (dC, dI) vwCl (wFK h cs I L (va_up (va_up (va_up A 190 a190_3) 191 a191_4) 192 a192_5) Q G J) H := hP
  have hD : va_D A0 (wFK h cs I L (va_up (va_up (va_up A 190 a190_3) 191 a191_4) 192 a192_5) Q G J) := hD
  refine lv_iconst (v := nI 0) hx hb dX9_taken_7 (by decide) ?_
  refine lv_istore_n (lv' := [(1, .int (nI 0)), (0, .ref (h 100))]) hx hb dX9_taken_8 rfl hl (by decide) rfl (fun ls hl => ?_)
  refine lv_iconst (v := nI 0) hx hb dX9_taken_9 (by decide) ?_
  refine lv_istore_n (lv' := [(2, .int (nI 0)), (1, .int (nI 0)), (0, .ref (h 100))]) hx hb dX9_taken_10 rfl hl (by decide) rfl (fun ls hl => ?_)
  have cut_11 : ∀ (nf : Nat) (k : Nat) (z1 : Int32), (M - k) < nf → (k ≤ M) → ∀ (H : Heap) (locs : List Loc) (ls : Array Slot), va_P (dC, dI) vwCl (wFK h cs I L (va_up (va_up (va_up A 190 a190_3) 191 a191_4) 192 a192_5) Q G J) H → va_D A0 (wFK h cs I L (va_up (va_up (va_up A 190 a190_3) 191 a191_4) 192 a192_5) Q G J) → va_S A0 s.heap H locs → lv_has ls 3 [(0, .ref (h 100)), (1, .int z1), (2, .int (nI k))] → W p l e (headSpec wsX9_taken ({ frames := 5, cells := 0, slots := 0, locals := 154 })).room s m ([.ref (h 100)] : List Value).toArray below meth c H locs 0 0 (MQ below (va_Qi (fun (r : Int32) (u : CS) => ∃ a190 : Nat → Int32, ∃ a191 : Nat → Int32, ∃ a192 : Nat → Int32, (True) ∧ u = (I, L, (va_up (va_up (va_up A 190 a190) 191 a191) 192 a192), Q, G, J)) (xB (dC, dI) (tysA cs) A0 (fun u : CS => wFK h cs u.1 u.2.1 u.2.2.1 u.2.2.2.1 u.2.2.2.2.1 u.2.2.2.2.2)) A0) ([.ref (h 100)] : List Value).toArray s 0 0 A0) (F0 m 11 ls []) := by
    intro nf
    induction nf with
    | zero => intro k z1 hm; exact absurd hm (Nat.not_lt_zero _)
    | succ nf ih_11 =>
      intro k z1 hm_11 hk11 H locs ls hP hD hS hl
      refine lv_iload_n hx hb dX9_taken_11 rfl (lv_at hl 2 rfl) ?_
      refine lv_aload_n hx hb dX9_taken_12 rfl (lv_at hl 0 rfl) ?_
      refine va_get (D := (dC, dI)) (ci := 9) (v := .ref (h 101)) (C := RX9) (T := TX9) (N := 9) hx hb hts hinX9 hown hK hP 0 rfl rfl 0 (by decide) (hts (.fieldLink RX9 12 "MixedWords" "mix" "LMixedWords$Mix;") (by decide +kernel)) (fun _ h9 => h9) rfl dX9_taken_13 ?_
      refine va_get (D := (dC, dI)) (ci := 3) (v := .int (I 121)) (C := RX3) (T := TX3) (N := 6) hx hb hts hinX3 hown hK hP 5 rfl rfl 1 (by decide) (hts (.fieldLink RX9 106 "MixedWords$Mix" "width" "I") (by decide +kernel)) (fun _ h9 => h9) rfl dX9_taken_16 ?_
      refine xt_i (y := nI M) (hM) ?_
      refine xn_ge (tgt := 46) hx hb dX9_taken_19 (by decide) (by omega) (by omega) (fun c_19_6 => ?_) (fun c_19_6 => ?_)
      · skip
        refine lv_iload_n hx hb dX9_taken_46 rfl (lv_at hl 1 rfl) ?_
        exact xr_i (v := z1) hx hb hr hlocks hK hS dX9_taken_47 (I, L, (va_up (va_up (va_up A 190 a190_3) 191 a191_4) 192 a192_5), Q, G, J) ⟨a190_3, a191_4, a192_5, trivial, rfl⟩ hP hD
      · skip
        refine lv_aload_n hx hb dX9_taken_22 rfl (lv_at hl 0 rfl) ?_
        refine va_get (D := (dC, dI)) (ci := 9) (v := .ref (h 101)) (C := RX9) (T := TX9) (N := 9) hx hb hts hinX9 hown hK hP 0 rfl rfl 0 (by decide) (hts (.fieldLink RX9 12 "MixedWords" "mix" "LMixedWords$Mix;") (by decide +kernel)) (fun _ h9 => h9) rfl dX9_taken_23 ?_
        refine lv_iload_n hx hb dX9_taken_26 rfl (lv_at hl 1 rfl) ?_
        refine lv_aload_n hx hb dX9_taken_27 rfl (lv_at hl 0 rfl) ?_
        refine va_get (D := (dC, dI)) (ci := 9) (v := .ref (h 107)) (C := RX9) (T := TX9) (N := 9) hx hb hts hinX9 hown hK hP 0 rfl rfl 6 (by decide) (hts (.fieldLink RX9 58 "MixedWords" "taker" "LMixedWords$Taker;") (by decide +kernel)) (fun _ h9 => h9) rfl dX9_taken_28 ?_
        refine va_get (D := (dC, dI)) (ci := 6) (v := .ref (h 192)) (C := RX6) (T := TX6) (N := 4) hx hb hts hinX6 hown hK hP 1 rfl rfl 3 (by decide) (hts (.fieldLink RX9 227 "MixedWords$Taker" "indexes" "[I") (by decide +kernel)) (fun _ h9 => h9) rfl dX9_taken_31 ?_
        refine lv_iload_n hx hb dX9_taken_34 rfl (lv_at hl 2 rfl) ?_
        refine xa_iald hx hb hK hP 4 0 rfl rfl (by omega) (by decide) dX9_taken_35 ?_
        refine xj_i (wc := (wMix h cs I L (va_up (va_up (va_up A 190 a190_3) 191 a191_4) 192 a192_5) Q G J)) (wr := [(h 100, .inr (9, [.ref (h 101), .ref (h 102), .ref (h 103), .ref (h 104), .ref (h 105), .ref (h 106), .ref (h 107), .ref (h 108), .ref (h 109)])), (h 107, .inr (6, [.ref (h 101), .ref (h 190), .ref (h 191), .ref (h 192)])), (h 190, .inl (cs 0, 5, .inl a190_3)), (h 191, .inl (cs 0, 4, .inl a191_4)), (h 192, .inl (cs 0, 4, .inl a192_5))]) hP hD hS hA [5, 6, 7, 8, 9, 10, 11, 12] [0, 1, 2, 3, 4] rfl rfl (by decide) (by decide) (va_runV (As := [.int z1, .int (a192_5 k)]) (rest := []) ⟨hx, hb, hml, hown, hts⟩ (k_X3_follow l dC dI h cs H.size I L (va_up (va_up (va_up A 190 a190_3) 191 a191_4) 192 a192_5) Q G J z1 (a192_5 k) a ha (by first | assumption | omega | exact ha2)) (cwV 2 hts gX9_taken_X3_follow rfl rfl rfl (by decide +kernel) ⟨Nat.le_of_ble_eq_true rfl, Nat.le_of_ble_eq_true rfl⟩) (xpV (wc := (wMix h cs I L (va_up (va_up (va_up A 190 a190_3) 191 a191_4) 192 a192_5) Q G J)) hP hD hK hN [5, 6, 7, 8, 9, 10, 11, 12] rfl (by decide) 5 (ci := 3) rfl rfl _) rfl rfl hl.1 rfl (lv_room (Nat.le_of_ble_eq_true rfl)) dX9_taken_36 ⟨Nat.zero_le _, Nat.zero_le _⟩) (fun r_9 u_8 H locs hw hP hD hS => ?_)
        obtain ⟨hf_10, rfl⟩ := hw
        have hP : va_P (dC, dI) vwCl (wFK h cs I L (va_up (va_up (va_up A 190 a190_3) 191 a191_4) 192 a192_5) Q G J) H := hP
        have hD : va_D A0 (wFK h cs I L (va_up (va_up (va_up A 190 a190_3) 191 a191_4) 192 a192_5) Q G J) := hD
        refine lv_topi (fun x_11 ex_11 => ?_)
        refine lv_istore_n (lv' := [(1, .int x_11), (0, .ref (h 100)), (2, .int (nI k))]) hx hb dX9_taken_39 rfl hl (by decide) rfl (fun ls hl => ?_)
        refine lv_iinc (v := nI (k + 1)) (lv' := [(2, .int (nI (k + 1))), (1, .int x_11), (0, .ref (h 100))]) hx hb dX9_taken_40 hl (k := 2) rfl (nI_1 _) (by decide) rfl (fun ls hl => ?_)
        refine lv_goto (tgt := 11) hx hb dX9_taken_43 (by decide) ?_
        exact ih_11 (k + 1) x_11 (by omega) (by first | assumption | omega) _ _ _ hP hD hS (lv_sub hl [2, 1, 0] rfl)
  exact cut_11 _ 0 (nI 0) (Nat.lt_succ_self _) (by first | assumption | omega) _ _ _ hP hD hS (lv_sub hl [2, 1, 0] rfl)
set_option maxRecDepth 20000 in
theorem ggX9_order_X3_hasColumn : GoodIn wsX9_order wsX3_hasColumn := goodIn_r _ [8, 9, 75, 76, 77, 78, 79, 80] (by decide +kernel) (by decide +kernel)
set_option maxRecDepth 20000 in
theorem gX9_order_X3_hasColumn : GoodIn wsX9_order (wsV RX9 95 RX3 yX3_hasColumn wsX3_hasColumn) := goodIn_app (goodIn_of _ (by decide +kernel)) ggX9_order_X3_hasColumn
set_option maxRecDepth 20000 in
theorem ggX9_order_X6_takeAll : GoodIn wsX9_order wsX6_takeAll := goodIn_r _ [14, 15, 16, 17, 18, 19, 20, 21, 22, 23, 24, 25, 26, 13, 27, 28, 29, 30, 31, 32, 33, 34, 35, 36, 37, 38, 39, 40, 41, 42, 43, 44, 45, 46, 47, 48, 49, 50, 51, 52, 53, 54, 55, 56, 57, 58, 59, 60, 61, 71, 72, 73, 74, 75, 76, 77, 78, 79, 80] (by decide +kernel) (by decide +kernel)
set_option maxRecDepth 20000 in
theorem gX9_order_X6_takeAll : GoodIn wsX9_order (wsV RX9 224 RX6 yX6_takeAll wsX6_takeAll) := goodIn_app (goodIn_of _ (by decide +kernel)) ggX9_order_X6_takeAll
theorem bdX9_order_0 : (decode cX9_order 0 = .ok (.aload_n 0, 1)) ∧ (decode cX9_order 1 = .ok (.getfield 12, 3)) ∧ (decode cX9_order 4 = .ok (.iload_n 1, 1)) ∧ (decode cX9_order 5 = .ok (.invokevirtual 95, 3)) ∧ (decode cX9_order 8 = .ok (.ifCond .ne 5, 3)) ∧ (decode cX9_order 11 = .ok (.iconst (-1), 1)) ∧ (decode cX9_order 12 = .ok (.ireturn, 1)) ∧ (decode cX9_order 13 = .ok (.aload_n 0, 1)) ∧ (decode cX9_order 14 = .ok (.getfield 58, 3)) ∧ (decode cX9_order 17 = .ok (.invokevirtual 224, 3)) ∧ (decode cX9_order 20 = .ok (.aload_n 0, 1)) ∧ (decode cX9_order 21 = .ok (.getfield 58, 3)) ∧ (decode cX9_order 24 = .ok (.getfield 230, 3)) ∧ (decode cX9_order 27 = .ok (.iload_n 1, 1)) ∧ (decode cX9_order 28 = .ok (.iaload, 1)) ∧ (decode cX9_order 29 = .ok (.ireturn, 1)) := by decide +kernel
theorem dX9_order_0 : decode cX9_order 0 = .ok (.aload_n 0, 1) := bdX9_order_0.1
theorem dX9_order_1 : decode cX9_order 1 = .ok (.getfield 12, 3) := bdX9_order_0.2.1
theorem dX9_order_4 : decode cX9_order 4 = .ok (.iload_n 1, 1) := bdX9_order_0.2.2.1
theorem dX9_order_5 : decode cX9_order 5 = .ok (.invokevirtual 95, 3) := bdX9_order_0.2.2.2.1
theorem dX9_order_8 : decode cX9_order 8 = .ok (.ifCond .ne 5, 3) := bdX9_order_0.2.2.2.2.1
theorem dX9_order_11 : decode cX9_order 11 = .ok (.iconst (-1), 1) := bdX9_order_0.2.2.2.2.2.1
theorem dX9_order_12 : decode cX9_order 12 = .ok (.ireturn, 1) := bdX9_order_0.2.2.2.2.2.2.1
theorem dX9_order_13 : decode cX9_order 13 = .ok (.aload_n 0, 1) := bdX9_order_0.2.2.2.2.2.2.2.1
theorem dX9_order_14 : decode cX9_order 14 = .ok (.getfield 58, 3) := bdX9_order_0.2.2.2.2.2.2.2.2.1
theorem dX9_order_17 : decode cX9_order 17 = .ok (.invokevirtual 224, 3) := bdX9_order_0.2.2.2.2.2.2.2.2.2.1
theorem dX9_order_20 : decode cX9_order 20 = .ok (.aload_n 0, 1) := bdX9_order_0.2.2.2.2.2.2.2.2.2.2.1
theorem dX9_order_21 : decode cX9_order 21 = .ok (.getfield 58, 3) := bdX9_order_0.2.2.2.2.2.2.2.2.2.2.2.1
theorem dX9_order_24 : decode cX9_order 24 = .ok (.getfield 230, 3) := bdX9_order_0.2.2.2.2.2.2.2.2.2.2.2.2.1
theorem dX9_order_27 : decode cX9_order 27 = .ok (.iload_n 1, 1) := bdX9_order_0.2.2.2.2.2.2.2.2.2.2.2.2.2.1
theorem dX9_order_28 : decode cX9_order 28 = .ok (.iaload, 1) := bdX9_order_0.2.2.2.2.2.2.2.2.2.2.2.2.2.2.1
theorem dX9_order_29 : decode cX9_order 29 = .ok (.ireturn, 1) := bdX9_order_0.2.2.2.2.2.2.2.2.2.2.2.2.2.2.2
set_option maxHeartbeats 4000000 in
set_option maxRecDepth 100000 in
theorem k_X9_order (l : Launch) (dC : Nat → ClassId) (dI : Nat → Nat → Nat) (h : Nat → Nat) (cs : Nat → ClassId) (sz : Nat) (I : Nat → Int32) (L : Nat → Int64) (A : Nat → Nat → Int32) (Q : Nat → Nat → Int64) (G : Nat → Nat → Nat → Int32) (J : Nat → Nat → Nat → Int64) (x : Int32) (R M a : Nat) (hR : I 120 = nI R) (hR1 : 1 ≤ R) (hR5 : R ≤ 5) (hM : I 121 = nI M) (hM1 : 1 ≤ M) (hM4 : M ≤ 4) (ha : I 122 = nI a) (ha2 : a = 2 ∨ a = 4) : Met l yX9_order wsX9_order ({ frames := 5, cells := 0, slots := 0, locals := 154 }) (va_Pc [.ref (h 100), .int x] (xPre (dC, dI) (wFK h cs I L A Q G J) (tysA cs) sz)) (va_Qi (fun (r : Int32) (u : CS) => ∃ a190 : Nat → Int32, ∃ a191 : Nat → Int32, ∃ a192 : Nat → Int32, (True) ∧ u = (I, L, (va_up (va_up (va_up A 190 a190) 191 a191) 192 a192), Q, G, J)) (xB (dC, dI) (tysA cs) (va_A (wFK h cs I L A Q G J) sz) (fun u : CS => wFK h cs u.1 u.2.1 u.2.2.1 u.2.2.2.1 u.2.2.2.2.1 u.2.2.2.2.2)) (va_A (wFK h cs I L A Q G J) sz)) 0 0 (va_A (wFK h cs I L A Q G J) sz) := by
  refine Met.ofW (cc := cX9_order) (maxL := 2) (ret := (some .int)) (by decide) rfl ?_
  intro p e s m args below meth c s₁ B hml hv
  obtain ⟨rfl, hsz, hP, hK, hD0, hN⟩ := hv
  have hx := B.exec
  have hb := B.bytes
  have hr := B.returns
  have hts := atoms_spec (ws := wsX9_order) B.pre
  have hown : s.vm.findClass RX9 = some m.cls := findClass_of_methodNamed B.named
  have hlocks := B.notSynchronized
  subst hsz
  have hD := hD0.self (sz := s.heap.size)
  generalize hAe : va_A (wFK h cs I L A Q G J) s.heap.size = A0 at hD ⊢
  have hA : ∀ q : Nat, s.heap.size ≤ q → A0 q := fun q h => by rw [← hAe]; exact Or.inr h
  have hl := lv_entry ([.ref (h 100), .int x]) (n := 2) (Nat.le_of_ble_eq_true rfl)
  rw [lg_entry_eq]
  generalize (lg_sl ([.ref (h 100), .int x]) ++ List.replicate (2 - (lg_sl ([.ref (h 100), .int x])).length) Slot.unset).toArray = ls at hl ⊢
  have hl : lv_has ls 2 [(0, .ref (h 100)), (1, .int x)] := hl
  generalize hH : s.heap = H at hP ⊢
  have hS : va_S A0 s.heap H [] := by rw [← hH]; exact va_S.rf
  have hinX9 : ∀ w ∈ wsX90, w ∈ wsX9_order := by decide +kernel
  have hinX6 : ∀ w ∈ wsX60, w ∈ wsX9_order := by decide +kernel
  refine lv_aload_n hx hb dX9_order_0 rfl (lv_at hl 0 rfl) ?_
  refine va_get (D := (dC, dI)) (ci := 9) (v := .ref (h 101)) (C := RX9) (T := TX9) (N := 9) hx hb hts hinX9 hown hK hP 0 rfl rfl 0 (by decide) (hts (.fieldLink RX9 12 "MixedWords" "mix" "LMixedWords$Mix;") (by decide +kernel)) (fun _ h9 => h9) rfl dX9_order_1 ?_
  refine lv_iload_n hx hb dX9_order_4 rfl (lv_at hl 1 rfl) ?_
  refine xj_i (wc := (wMix h cs I L A Q G J)) (wr := [(h 100, .inr (9, [.ref (h 101), .ref (h 102), .ref (h 103), .ref (h 104), .ref (h 105), .ref (h 106), .ref (h 107), .ref (h 108), .ref (h 109)])), (h 107, .inr (6, [.ref (h 101), .ref (h 190), .ref (h 191), .ref (h 192)])), (h 190, .inl (cs 0, 5, .inl (A 190))), (h 191, .inl (cs 0, 4, .inl (A 191))), (h 192, .inl (cs 0, 4, .inl (A 192)))]) hP hD hS hA [5, 6, 7, 8, 9, 10, 11, 12] [0, 1, 2, 3, 4] rfl rfl (by decide) (by decide) (va_runV (As := [.int x]) (rest := []) ⟨hx, hb, hml, hown, hts⟩ (k_X3_hasColumn l dC dI h cs H.size I L A Q G J x M hM (by first | assumption | omega | exact hM1) (by first | assumption | omega | exact hM4)) (cwV 1 hts gX9_order_X3_hasColumn rfl rfl rfl (by decide +kernel) ⟨Nat.le_of_ble_eq_true rfl, Nat.le_of_ble_eq_true rfl⟩) (xpV (wc := (wMix h cs I L A Q G J)) hP hD hK hN [5, 6, 7, 8, 9, 10, 11, 12] rfl (by decide) 5 (ci := 3) rfl rfl _) rfl rfl hl.1 rfl (lv_room (Nat.le_of_ble_eq_true rfl)) dX9_order_5 ⟨Nat.zero_le _, Nat.zero_le _⟩) (fun r_2 u_1 H locs hw hP hD hS => ?_)
  obtain ⟨hf_3, rfl⟩ := hw
  have hP : va_P (dC, dI) vwCl (wFK h cs I L A Q G J) H := hP
  have hD : va_D A0 (wFK h cs I L A Q G J) := hD
  rcases hf_3 with ⟨rfl, i_4, hi_5, hx_6⟩ | ⟨rfl, hn_7⟩
  · skip
    rw [hx_6] at hl
    refine lv_if_ne (tgt := 13) hx hb dX9_order_8 (by decide) (fun _ => ?_) (fun c9 => False.elim (by revert c9; decide +kernel))
    refine lv_aload_n hx hb dX9_order_13 rfl (lv_at hl 0 rfl) ?_
    refine va_get (D := (dC, dI)) (ci := 9) (v := .ref (h 107)) (C := RX9) (T := TX9) (N := 9) hx hb hts hinX9 hown hK hP 0 rfl rfl 6 (by decide) (hts (.fieldLink RX9 58 "MixedWords" "taker" "LMixedWords$Taker;") (by decide +kernel)) (fun _ h9 => h9) rfl dX9_order_14 ?_
    refine xj_v (wc := (wTaker h cs I L A Q G J)) (wr := [(h 100, .inr (9, [.ref (h 101), .ref (h 102), .ref (h 103), .ref (h 104), .ref (h 105), .ref (h 106), .ref (h 107), .ref (h 108), .ref (h 109)]))]) hP hD hS hA [1, 2, 3, 4, 5, 6, 7, 8, 9, 10, 11, 12] [0] rfl rfl (by decide) (by decide) (va_runV (As := []) (rest := []) ⟨hx, hb, hml, hown, hts⟩ (k_X6_takeAll l dC dI h cs H.size I L A Q G J R M a hR (by first | assumption | omega | exact hR1) (by first | assumption | omega | exact hR5) hM (by first | assumption | omega | exact hM1) (by first | assumption | omega | exact hM4) ha (by first | assumption | omega | exact ha2)) (cwV 0 hts gX9_order_X6_takeAll rfl rfl rfl (by decide +kernel) ⟨Nat.le_of_ble_eq_true rfl, Nat.le_of_ble_eq_true rfl⟩) (xpV (wc := (wTaker h cs I L A Q G J)) hP hD hK hN [1, 2, 3, 4, 5, 6, 7, 8, 9, 10, 11, 12] rfl (by decide) 1 (ci := 6) rfl rfl _) rfl rfl hl.1 rfl (lv_room (Nat.le_of_ble_eq_true rfl)) dX9_order_17 ⟨Nat.zero_le _, Nat.zero_le _⟩) (fun u_8 H locs hw hP hD hS => ?_)
    obtain ⟨a190_10, a191_11, a192_12, hf_13, rfl⟩ := hw
    have hP : va_P (dC, dI) vwCl (wFK h cs I L (va_up (va_up (va_up A 190 a190_10) 191 a191_11) 192 a192_12) Q G J) H := hP
    have hD : va_D A0 (wFK h cs I L (va_up (va_up (va_up A 190 a190_10) 191 a191_11) 192 a192_12) Q G J) := hD
    refine lv_aload_n hx hb dX9_order_20 rfl (lv_at hl 0 rfl) ?_
    refine va_get (D := (dC, dI)) (ci := 9) (v := .ref (h 107)) (C := RX9) (T := TX9) (N := 9) hx hb hts hinX9 hown hK hP 0 rfl rfl 6 (by decide) (hts (.fieldLink RX9 58 "MixedWords" "taker" "LMixedWords$Taker;") (by decide +kernel)) (fun _ h9 => h9) rfl dX9_order_21 ?_
    refine va_get (D := (dC, dI)) (ci := 6) (v := .ref (h 191)) (C := RX6) (T := TX6) (N := 4) hx hb hts hinX6 hown hK hP 1 rfl rfl 2 (by decide) (hts (.fieldLink RX9 230 "MixedWords$Taker" "sequence" "[I") (by decide +kernel)) (fun _ h9 => h9) rfl dX9_order_24 ?_
    refine lv_iload_n hx hb dX9_order_27 rfl (lv_at hl 1 rfl) ?_
    refine xa_iald hx hb hK hP 3 0 rfl rfl (by omega) (by decide) dX9_order_28 ?_
    exact xr_i (v := (a191_11 i_4)) hx hb hr hlocks hK hS dX9_order_29 (I, L, (va_up (va_up (va_up A 190 a190_10) 191 a191_11) 192 a192_12), Q, G, J) ⟨a190_10, a191_11, a192_12, trivial, rfl⟩ hP hD
  · skip
    refine lv_if_ne (tgt := 13) hx hb dX9_order_8 (by decide) (fun c9 => False.elim (by revert c9; decide +kernel)) (fun _ => ?_)
    refine lv_iconst (v := (-1)) hx hb dX9_order_11 (by decide) ?_
    exact xr_i (v := (-1)) hx hb hr hlocks hK hS dX9_order_12 (I, L, (va_up (va_up (va_up A 190 (A 190)) 191 (A 191)) 192 (A 192)), Q, G, J) ⟨(A 190), (A 191), (A 192), trivial, rfl⟩ hP hD
set_option maxRecDepth 20000 in
theorem ggX9_led_X1_lead : GoodIn wsX9_led wsX1_lead := goodIn_r _ [7, 8, 9, 10, 11, 12, 13, 14, 6, 15, 16, 17, 18, 19, 20, 21, 22, 23, 24, 25, 26, 27, 28, 29, 30, 31, 32, 33, 34, 35, 36, 37, 38, 39, 40, 41, 42, 43, 53, 54, 55, 56, 57, 58, 59, 60, 61, 62, 63, 64] (by decide +kernel) (by decide +kernel)
set_option maxRecDepth 20000 in
theorem gX9_led_X1_lead : GoodIn wsX9_led (wsV RX9 233 RX1 yX1_lead wsX1_lead) := goodIn_app (goodIn_of _ (by decide +kernel)) ggX9_led_X1_lead
theorem bdX9_led_0 : (decode cX9_led 0 = .ok (.aload_n 0, 1)) ∧ (decode cX9_led 1 = .ok (.getfield 65, 3)) ∧ (decode cX9_led 4 = .ok (.invokevirtual 233, 3)) ∧ (decode cX9_led 7 = .ok (.aload_n 0, 1)) ∧ (decode cX9_led 8 = .ok (.getfield 65, 3)) ∧ (decode cX9_led 11 = .ok (.getfield 236, 3)) ∧ (decode cX9_led 14 = .ok (.ireturn, 1)) := by decide +kernel
theorem dX9_led_0 : decode cX9_led 0 = .ok (.aload_n 0, 1) := bdX9_led_0.1
theorem dX9_led_1 : decode cX9_led 1 = .ok (.getfield 65, 3) := bdX9_led_0.2.1
theorem dX9_led_4 : decode cX9_led 4 = .ok (.invokevirtual 233, 3) := bdX9_led_0.2.2.1
theorem dX9_led_7 : decode cX9_led 7 = .ok (.aload_n 0, 1) := bdX9_led_0.2.2.2.1
theorem dX9_led_8 : decode cX9_led 8 = .ok (.getfield 65, 3) := bdX9_led_0.2.2.2.2.1
theorem dX9_led_11 : decode cX9_led 11 = .ok (.getfield 236, 3) := bdX9_led_0.2.2.2.2.2.1
theorem dX9_led_14 : decode cX9_led 14 = .ok (.ireturn, 1) := bdX9_led_0.2.2.2.2.2.2
set_option maxHeartbeats 4000000 in
set_option maxRecDepth 100000 in
theorem k_X9_led (l : Launch) (dC : Nat → ClassId) (dI : Nat → Nat → Nat) (h : Nat → Nat) (cs : Nat → ClassId) (sz : Nat) (I : Nat → Int32) (L : Nat → Int64) (A : Nat → Nat → Int32) (Q : Nat → Nat → Int64) (G : Nat → Nat → Nat → Int32) (J : Nat → Nat → Nat → Int64) (R M : Nat) (hR : I 120 = nI R) (hR1 : 1 ≤ R) (hR5 : R ≤ 5) (hM : I 121 = nI M) (hM1 : 1 ≤ M) (hM4 : M ≤ 4) : Met l yX9_led wsX9_led ({ frames := 4, cells := 0, slots := 0, locals := 128 }) (va_Pc [.ref (h 100)] (xPre (dC, dI) (wFE h cs I L A Q G J) (tysA cs) sz)) (va_Qi (fun (r : Int32) (u : CS) => ∃ i212 : Int32, ∃ i213 : Int32, ∃ g2 : Nat → Nat → Int32, ∃ g3 : Nat → Nat → Int32, (True) ∧ u = ((va_up (va_up I 212 i212) 213 i213), L, A, Q, (va_up (va_up G 2 g2) 3 g3), J)) (xB (dC, dI) (tysA cs) (va_A (wFE h cs I L A Q G J) sz) (fun u : CS => wFE h cs u.1 u.2.1 u.2.2.1 u.2.2.2.1 u.2.2.2.2.1 u.2.2.2.2.2)) (va_A (wFE h cs I L A Q G J) sz)) 0 0 (va_A (wFE h cs I L A Q G J) sz) := by
  refine Met.ofW (cc := cX9_led) (maxL := 1) (ret := (some .int)) (by decide) rfl ?_
  intro p e s m args below meth c s₁ B hml hv
  obtain ⟨rfl, hsz, hP, hK, hD0, hN⟩ := hv
  have hx := B.exec
  have hb := B.bytes
  have hr := B.returns
  have hts := atoms_spec (ws := wsX9_led) B.pre
  have hown : s.vm.findClass RX9 = some m.cls := findClass_of_methodNamed B.named
  have hlocks := B.notSynchronized
  subst hsz
  have hD := hD0.self (sz := s.heap.size)
  generalize hAe : va_A (wFE h cs I L A Q G J) s.heap.size = A0 at hD ⊢
  have hA : ∀ q : Nat, s.heap.size ≤ q → A0 q := fun q h => by rw [← hAe]; exact Or.inr h
  have hl := lv_entry ([.ref (h 100)]) (n := 1) (Nat.le_of_ble_eq_true rfl)
  rw [lg_entry_eq]
  generalize (lg_sl ([.ref (h 100)]) ++ List.replicate (1 - (lg_sl ([.ref (h 100)])).length) Slot.unset).toArray = ls at hl ⊢
  have hl : lv_has ls 1 [(0, .ref (h 100))] := hl
  generalize hH : s.heap = H at hP ⊢
  have hS : va_S A0 s.heap H [] := by rw [← hH]; exact va_S.rf
  have hinX9 : ∀ w ∈ wsX90, w ∈ wsX9_led := by decide +kernel
  have hinX1 : ∀ w ∈ wsX10, w ∈ wsX9_led := by decide +kernel
  refine lv_aload_n hx hb dX9_led_0 rfl (lv_at hl 0 rfl) ?_
  refine va_get (D := (dC, dI)) (ci := 9) (v := .ref (h 108)) (C := RX9) (T := TX9) (N := 9) hx hb hts hinX9 hown hK hP 0 rfl rfl 7 (by decide) (hts (.fieldLink RX9 65 "MixedWords" "leader" "LMixedWords$Leader;") (by decide +kernel)) (fun _ h9 => h9) rfl dX9_led_1 ?_
  refine xj_v (wc := (wLead h cs I L A Q G J)) (wr := [(h 100, .inr (9, [.ref (h 101), .ref (h 102), .ref (h 103), .ref (h 104), .ref (h 105), .ref (h 106), .ref (h 107), .ref (h 108), .ref (h 109)]))]) hP hD hS hA [1, 2, 3, 4, 5, 6, 7, 8, 9, 10, 11, 12, 13, 14, 15, 16, 17, 18, 19, 20, 21] [0] rfl rfl (by decide) (by decide) (va_runV (As := []) (rest := []) ⟨hx, hb, hml, hown, hts⟩ (k_X1_lead l dC dI h cs H.size I L A Q G J R M hR (by first | assumption | omega | exact hR1) (by first | assumption | omega | exact hR5) hM (by first | assumption | omega | exact hM1) (by first | assumption | omega | exact hM4)) (cwV 0 hts gX9_led_X1_lead rfl rfl rfl (by decide +kernel) ⟨Nat.le_of_ble_eq_true rfl, Nat.le_of_ble_eq_true rfl⟩) (xpV (wc := (wLead h cs I L A Q G J)) hP hD hK hN [1, 2, 3, 4, 5, 6, 7, 8, 9, 10, 11, 12, 13, 14, 15, 16, 17, 18, 19, 20, 21] rfl (by decide) 1 (ci := 1) rfl rfl _) rfl rfl hl.1 rfl (lv_room (Nat.le_of_ble_eq_true rfl)) dX9_led_4 ⟨Nat.zero_le _, Nat.zero_le _⟩) (fun u_1 H locs hw hP hD hS => ?_)
  obtain ⟨i212_3, i213_4, g2_5, g3_6, hf_7, rfl⟩ := hw
  have hP : va_P (dC, dI) vwCl (wFE h cs (va_up (va_up I 212 i212_3) 213 i213_4) L A Q (va_up (va_up G 2 g2_5) 3 g3_6) J) H := hP
  have hD : va_D A0 (wFE h cs (va_up (va_up I 212 i212_3) 213 i213_4) L A Q (va_up (va_up G 2 g2_5) 3 g3_6) J) := hD
  refine lv_aload_n hx hb dX9_led_7 rfl (lv_at hl 0 rfl) ?_
  refine va_get (D := (dC, dI)) (ci := 9) (v := .ref (h 108)) (C := RX9) (T := TX9) (N := 9) hx hb hts hinX9 hown hK hP 0 rfl rfl 7 (by decide) (hts (.fieldLink RX9 65 "MixedWords" "leader" "LMixedWords$Leader;") (by decide +kernel)) (fun _ h9 => h9) rfl dX9_led_8 ?_
  refine va_get (D := (dC, dI)) (ci := 1) (v := .int i212_3) (C := RX1) (T := TX1) (N := 6) hx hb hts hinX1 hown hK hP 1 rfl rfl 4 (by decide) (hts (.fieldLink RX9 236 "MixedWords$Leader" "times" "I") (by decide +kernel)) (fun _ h9 => h9) rfl dX9_led_11 ?_
  exact xr_i (v := i212_3) hx hb hr hlocks hK hS dX9_led_14 ((va_up (va_up I 212 i212_3) 213 i213_4), L, A, Q, (va_up (va_up G 2 g2_5) 3 g3_6), J) ⟨i212_3, i213_4, g2_5, g3_6, trivial, rfl⟩ hP hD
set_option maxRecDepth 20000 in
theorem ggX9_ledAt_X3_hasColumn : GoodIn wsX9_ledAt wsX3_hasColumn := goodIn_r _ [10, 11, 73, 74, 75, 76, 77, 78] (by decide +kernel) (by decide +kernel)
set_option maxRecDepth 20000 in
theorem gX9_ledAt_X3_hasColumn : GoodIn wsX9_ledAt (wsV RX9 95 RX3 yX3_hasColumn wsX3_hasColumn) := goodIn_app (goodIn_of _ (by decide +kernel)) ggX9_ledAt_X3_hasColumn
set_option maxRecDepth 20000 in
theorem ggX9_ledAt_X3_hasRow : GoodIn wsX9_ledAt wsX3_hasRow := goodIn_r _ [15, 16, 73, 74, 75, 76, 77, 78] (by decide +kernel) (by decide +kernel)
set_option maxRecDepth 20000 in
theorem gX9_ledAt_X3_hasRow : GoodIn wsX9_ledAt (wsV RX9 91 RX3 yX3_hasRow wsX3_hasRow) := goodIn_app (goodIn_of _ (by decide +kernel)) ggX9_ledAt_X3_hasRow
set_option maxRecDepth 20000 in
theorem ggX9_ledAt_X1_lead : GoodIn wsX9_ledAt wsX1_lead := goodIn_r _ [21, 22, 23, 24, 25, 26, 27, 28, 20, 29, 30, 31, 32, 33, 34, 35, 36, 37, 38, 39, 40, 41, 42, 43, 44, 45, 46, 47, 48, 49, 50, 51, 52, 53, 54, 55, 56, 57, 67, 68, 69, 70, 71, 72, 73, 74, 75, 76, 77, 78] (by decide +kernel) (by decide +kernel)
set_option maxRecDepth 20000 in
theorem gX9_ledAt_X1_lead : GoodIn wsX9_ledAt (wsV RX9 233 RX1 yX1_lead wsX1_lead) := goodIn_app (goodIn_of _ (by decide +kernel)) ggX9_ledAt_X1_lead
theorem bdX9_ledAt_0 : (decode cX9_ledAt 0 = .ok (.aload_n 0, 1)) ∧ (decode cX9_ledAt 1 = .ok (.getfield 12, 3)) ∧ (decode cX9_ledAt 4 = .ok (.iload_n 3, 1)) ∧ (decode cX9_ledAt 5 = .ok (.invokevirtual 95, 3)) ∧ (decode cX9_ledAt 8 = .ok (.ifCond .eq 38, 3)) ∧ (decode cX9_ledAt 11 = .ok (.iload_n 1, 1)) ∧ (decode cX9_ledAt 12 = .ok (.ifCond .ne 14, 3)) ∧ (decode cX9_ledAt 15 = .ok (.aload_n 0, 1)) ∧ (decode cX9_ledAt 16 = .ok (.getfield 12, 3)) ∧ (decode cX9_ledAt 19 = .ok (.iload_n 2, 1)) ∧ (decode cX9_ledAt 20 = .ok (.invokevirtual 91, 3)) ∧ (decode cX9_ledAt 23 = .ok (.ifCond .ne 19, 3)) ∧ (decode cX9_ledAt 26 = .ok (.iload_n 1, 1)) ∧ (decode cX9_ledAt 27 = .ok (.iconst 1, 1)) ∧ (decode cX9_ledAt 28 = .ok (.if_icmp .ne 18, 3)) ∧ (decode cX9_ledAt 31 = .ok (.aload_n 0, 1)) := by decide +kernel
theorem dX9_ledAt_0 : decode cX9_ledAt 0 = .ok (.aload_n 0, 1) := bdX9_ledAt_0.1
theorem dX9_ledAt_1 : decode cX9_ledAt 1 = .ok (.getfield 12, 3) := bdX9_ledAt_0.2.1
theorem dX9_ledAt_4 : decode cX9_ledAt 4 = .ok (.iload_n 3, 1) := bdX9_ledAt_0.2.2.1
theorem dX9_ledAt_5 : decode cX9_ledAt 5 = .ok (.invokevirtual 95, 3) := bdX9_ledAt_0.2.2.2.1
theorem dX9_ledAt_8 : decode cX9_ledAt 8 = .ok (.ifCond .eq 38, 3) := bdX9_ledAt_0.2.2.2.2.1
theorem dX9_ledAt_11 : decode cX9_ledAt 11 = .ok (.iload_n 1, 1) := bdX9_ledAt_0.2.2.2.2.2.1
theorem dX9_ledAt_12 : decode cX9_ledAt 12 = .ok (.ifCond .ne 14, 3) := bdX9_ledAt_0.2.2.2.2.2.2.1
theorem dX9_ledAt_15 : decode cX9_ledAt 15 = .ok (.aload_n 0, 1) := bdX9_ledAt_0.2.2.2.2.2.2.2.1
theorem dX9_ledAt_16 : decode cX9_ledAt 16 = .ok (.getfield 12, 3) := bdX9_ledAt_0.2.2.2.2.2.2.2.2.1
theorem dX9_ledAt_19 : decode cX9_ledAt 19 = .ok (.iload_n 2, 1) := bdX9_ledAt_0.2.2.2.2.2.2.2.2.2.1
theorem dX9_ledAt_20 : decode cX9_ledAt 20 = .ok (.invokevirtual 91, 3) := bdX9_ledAt_0.2.2.2.2.2.2.2.2.2.2.1
theorem dX9_ledAt_23 : decode cX9_ledAt 23 = .ok (.ifCond .ne 19, 3) := bdX9_ledAt_0.2.2.2.2.2.2.2.2.2.2.2.1
theorem dX9_ledAt_26 : decode cX9_ledAt 26 = .ok (.iload_n 1, 1) := bdX9_ledAt_0.2.2.2.2.2.2.2.2.2.2.2.2.1
theorem dX9_ledAt_27 : decode cX9_ledAt 27 = .ok (.iconst 1, 1) := bdX9_ledAt_0.2.2.2.2.2.2.2.2.2.2.2.2.2.1
theorem dX9_ledAt_28 : decode cX9_ledAt 28 = .ok (.if_icmp .ne 18, 3) := bdX9_ledAt_0.2.2.2.2.2.2.2.2.2.2.2.2.2.2.1
theorem dX9_ledAt_31 : decode cX9_ledAt 31 = .ok (.aload_n 0, 1) := bdX9_ledAt_0.2.2.2.2.2.2.2.2.2.2.2.2.2.2.2
theorem bdX9_ledAt_32 : (decode cX9_ledAt 32 = .ok (.getfield 12, 3)) ∧ (decode cX9_ledAt 35 = .ok (.iload_n 2, 1)) ∧ (decode cX9_ledAt 36 = .ok (.invokevirtual 95, 3)) ∧ (decode cX9_ledAt 39 = .ok (.ifCond .eq 7, 3)) ∧ (decode cX9_ledAt 42 = .ok (.iconst 1, 1)) ∧ (decode cX9_ledAt 43 = .ok (.goto 4, 3)) ∧ (decode cX9_ledAt 46 = .ok (.iconst 0, 1)) ∧ (decode cX9_ledAt 47 = .ok (.istore 4, 2)) ∧ (decode cX9_ledAt 49 = .ok (.iload 4, 2)) ∧ (decode cX9_ledAt 51 = .ok (.ifCond .ne 6, 3)) ∧ (decode cX9_ledAt 54 = .ok (.ldc 239, 2)) ∧ (decode cX9_ledAt 56 = .ok (.ireturn, 1)) ∧ (decode cX9_ledAt 57 = .ok (.aload_n 0, 1)) ∧ (decode cX9_ledAt 58 = .ok (.getfield 65, 3)) ∧ (decode cX9_ledAt 61 = .ok (.invokevirtual 233, 3)) ∧ (decode cX9_ledAt 64 = .ok (.iload_n 1, 1)) := by decide +kernel
theorem dX9_ledAt_32 : decode cX9_ledAt 32 = .ok (.getfield 12, 3) := bdX9_ledAt_32.1
theorem dX9_ledAt_35 : decode cX9_ledAt 35 = .ok (.iload_n 2, 1) := bdX9_ledAt_32.2.1
theorem dX9_ledAt_36 : decode cX9_ledAt 36 = .ok (.invokevirtual 95, 3) := bdX9_ledAt_32.2.2.1
theorem dX9_ledAt_39 : decode cX9_ledAt 39 = .ok (.ifCond .eq 7, 3) := bdX9_ledAt_32.2.2.2.1
theorem dX9_ledAt_42 : decode cX9_ledAt 42 = .ok (.iconst 1, 1) := bdX9_ledAt_32.2.2.2.2.1
theorem dX9_ledAt_43 : decode cX9_ledAt 43 = .ok (.goto 4, 3) := bdX9_ledAt_32.2.2.2.2.2.1
theorem dX9_ledAt_46 : decode cX9_ledAt 46 = .ok (.iconst 0, 1) := bdX9_ledAt_32.2.2.2.2.2.2.1
theorem dX9_ledAt_47 : decode cX9_ledAt 47 = .ok (.istore 4, 2) := bdX9_ledAt_32.2.2.2.2.2.2.2.1
theorem dX9_ledAt_49 : decode cX9_ledAt 49 = .ok (.iload 4, 2) := bdX9_ledAt_32.2.2.2.2.2.2.2.2.1
theorem dX9_ledAt_51 : decode cX9_ledAt 51 = .ok (.ifCond .ne 6, 3) := bdX9_ledAt_32.2.2.2.2.2.2.2.2.2.1
theorem dX9_ledAt_54 : decode cX9_ledAt 54 = .ok (.ldc 239, 2) := bdX9_ledAt_32.2.2.2.2.2.2.2.2.2.2.1
theorem dX9_ledAt_56 : decode cX9_ledAt 56 = .ok (.ireturn, 1) := bdX9_ledAt_32.2.2.2.2.2.2.2.2.2.2.2.1
theorem dX9_ledAt_57 : decode cX9_ledAt 57 = .ok (.aload_n 0, 1) := bdX9_ledAt_32.2.2.2.2.2.2.2.2.2.2.2.2.1
theorem dX9_ledAt_58 : decode cX9_ledAt 58 = .ok (.getfield 65, 3) := bdX9_ledAt_32.2.2.2.2.2.2.2.2.2.2.2.2.2.1
theorem dX9_ledAt_61 : decode cX9_ledAt 61 = .ok (.invokevirtual 233, 3) := bdX9_ledAt_32.2.2.2.2.2.2.2.2.2.2.2.2.2.2.1
theorem dX9_ledAt_64 : decode cX9_ledAt 64 = .ok (.iload_n 1, 1) := bdX9_ledAt_32.2.2.2.2.2.2.2.2.2.2.2.2.2.2.2
theorem bdX9_ledAt_65 : (decode cX9_ledAt 65 = .ok (.ifCond .ne 17, 3)) ∧ (decode cX9_ledAt 68 = .ok (.aload_n 0, 1)) ∧ (decode cX9_ledAt 69 = .ok (.getfield 65, 3)) ∧ (decode cX9_ledAt 72 = .ok (.getfield 240, 3)) ∧ (decode cX9_ledAt 75 = .ok (.iload_n 2, 1)) ∧ (decode cX9_ledAt 76 = .ok (.aaload, 1)) ∧ (decode cX9_ledAt 77 = .ok (.iload_n 3, 1)) ∧ (decode cX9_ledAt 78 = .ok (.iaload, 1)) ∧ (decode cX9_ledAt 79 = .ok (.goto 14, 3)) ∧ (decode cX9_ledAt 82 = .ok (.aload_n 0, 1)) ∧ (decode cX9_ledAt 83 = .ok (.getfield 65, 3)) ∧ (decode cX9_ledAt 86 = .ok (.getfield 243, 3)) ∧ (decode cX9_ledAt 89 = .ok (.iload_n 2, 1)) ∧ (decode cX9_ledAt 90 = .ok (.aaload, 1)) ∧ (decode cX9_ledAt 91 = .ok (.iload_n 3, 1)) ∧ (decode cX9_ledAt 92 = .ok (.iaload, 1)) := by decide +kernel
theorem dX9_ledAt_65 : decode cX9_ledAt 65 = .ok (.ifCond .ne 17, 3) := bdX9_ledAt_65.1
theorem dX9_ledAt_68 : decode cX9_ledAt 68 = .ok (.aload_n 0, 1) := bdX9_ledAt_65.2.1
theorem dX9_ledAt_69 : decode cX9_ledAt 69 = .ok (.getfield 65, 3) := bdX9_ledAt_65.2.2.1
theorem dX9_ledAt_72 : decode cX9_ledAt 72 = .ok (.getfield 240, 3) := bdX9_ledAt_65.2.2.2.1
theorem dX9_ledAt_75 : decode cX9_ledAt 75 = .ok (.iload_n 2, 1) := bdX9_ledAt_65.2.2.2.2.1
theorem dX9_ledAt_76 : decode cX9_ledAt 76 = .ok (.aaload, 1) := bdX9_ledAt_65.2.2.2.2.2.1
theorem dX9_ledAt_77 : decode cX9_ledAt 77 = .ok (.iload_n 3, 1) := bdX9_ledAt_65.2.2.2.2.2.2.1
theorem dX9_ledAt_78 : decode cX9_ledAt 78 = .ok (.iaload, 1) := bdX9_ledAt_65.2.2.2.2.2.2.2.1
theorem dX9_ledAt_79 : decode cX9_ledAt 79 = .ok (.goto 14, 3) := bdX9_ledAt_65.2.2.2.2.2.2.2.2.1
theorem dX9_ledAt_82 : decode cX9_ledAt 82 = .ok (.aload_n 0, 1) := bdX9_ledAt_65.2.2.2.2.2.2.2.2.2.1
theorem dX9_ledAt_83 : decode cX9_ledAt 83 = .ok (.getfield 65, 3) := bdX9_ledAt_65.2.2.2.2.2.2.2.2.2.2.1
theorem dX9_ledAt_86 : decode cX9_ledAt 86 = .ok (.getfield 243, 3) := bdX9_ledAt_65.2.2.2.2.2.2.2.2.2.2.2.1
theorem dX9_ledAt_89 : decode cX9_ledAt 89 = .ok (.iload_n 2, 1) := bdX9_ledAt_65.2.2.2.2.2.2.2.2.2.2.2.2.1
theorem dX9_ledAt_90 : decode cX9_ledAt 90 = .ok (.aaload, 1) := bdX9_ledAt_65.2.2.2.2.2.2.2.2.2.2.2.2.2.1
theorem dX9_ledAt_91 : decode cX9_ledAt 91 = .ok (.iload_n 3, 1) := bdX9_ledAt_65.2.2.2.2.2.2.2.2.2.2.2.2.2.2.1
theorem dX9_ledAt_92 : decode cX9_ledAt 92 = .ok (.iaload, 1) := bdX9_ledAt_65.2.2.2.2.2.2.2.2.2.2.2.2.2.2.2
theorem dX9_ledAt_93 : decode cX9_ledAt 93 = .ok (.ireturn, 1) := by decide +kernel
set_option maxHeartbeats 4000000 in
set_option maxRecDepth 100000 in
theorem k_X9_ledAt (l : Launch) (dC : Nat → ClassId) (dI : Nat → Nat → Nat) (h : Nat → Nat) (cs : Nat → ClassId) (sz : Nat) (I : Nat → Int32) (L : Nat → Int64) (A : Nat → Nat → Int32) (Q : Nat → Nat → Int64) (G : Nat → Nat → Nat → Int32) (J : Nat → Nat → Nat → Int64) (x y z : Int32) (R M : Nat) (hR : I 120 = nI R) (hR1 : 1 ≤ R) (hR5 : R ≤ 5) (hM : I 121 = nI M) (hM1 : 1 ≤ M) (hM4 : M ≤ 4) : Met l yX9_ledAt wsX9_ledAt ({ frames := 4, cells := 0, slots := 0, locals := 128 }) (va_Pc [.ref (h 100), .int x, .int y, .int z] (xPre (dC, dI) (wFE h cs I L A Q G J) (tysA cs) sz)) (va_Qi (fun (r : Int32) (u : CS) => ∃ i212 : Int32, ∃ i213 : Int32, ∃ g2 : Nat → Nat → Int32, ∃ g3 : Nat → Nat → Int32, (True) ∧ u = ((va_up (va_up I 212 i212) 213 i213), L, A, Q, (va_up (va_up G 2 g2) 3 g3), J)) (xB (dC, dI) (tysA cs) (va_A (wFE h cs I L A Q G J) sz) (fun u : CS => wFE h cs u.1 u.2.1 u.2.2.1 u.2.2.2.1 u.2.2.2.2.1 u.2.2.2.2.2)) (va_A (wFE h cs I L A Q G J) sz)) 0 0 (va_A (wFE h cs I L A Q G J) sz) := by
  refine Met.ofW (cc := cX9_ledAt) (maxL := 5) (ret := (some .int)) (by decide) rfl ?_
  intro p e s m args below meth c s₁ B hml hv
  obtain ⟨rfl, hsz, hP, hK, hD0, hN⟩ := hv
  have hx := B.exec
  have hb := B.bytes
  have hr := B.returns
  have hts := atoms_spec (ws := wsX9_ledAt) B.pre
  have hown : s.vm.findClass RX9 = some m.cls := findClass_of_methodNamed B.named
  have hlocks := B.notSynchronized
  subst hsz
  have hD := hD0.self (sz := s.heap.size)
  generalize hAe : va_A (wFE h cs I L A Q G J) s.heap.size = A0 at hD ⊢
  have hA : ∀ q : Nat, s.heap.size ≤ q → A0 q := fun q h => by rw [← hAe]; exact Or.inr h
  have hl := lv_entry ([.ref (h 100), .int x, .int y, .int z]) (n := 5) (Nat.le_of_ble_eq_true rfl)
  rw [lg_entry_eq]
  generalize (lg_sl ([.ref (h 100), .int x, .int y, .int z]) ++ List.replicate (5 - (lg_sl ([.ref (h 100), .int x, .int y, .int z])).length) Slot.unset).toArray = ls at hl ⊢
  have hl : lv_has ls 5 [(0, .ref (h 100)), (1, .int x), (2, .int y), (3, .int z)] := hl
  generalize hH : s.heap = H at hP ⊢
  have hS : va_S A0 s.heap H [] := by rw [← hH]; exact va_S.rf
  have hinX9 : ∀ w ∈ wsX90, w ∈ wsX9_ledAt := by decide +kernel
  have hinX1 : ∀ w ∈ wsX10, w ∈ wsX9_ledAt := by decide +kernel
  refine lv_aload_n hx hb dX9_ledAt_0 rfl (lv_at hl 0 rfl) ?_
  refine va_get (D := (dC, dI)) (ci := 9) (v := .ref (h 101)) (C := RX9) (T := TX9) (N := 9) hx hb hts hinX9 hown hK hP 0 rfl rfl 0 (by decide) (hts (.fieldLink RX9 12 "MixedWords" "mix" "LMixedWords$Mix;") (by decide +kernel)) (fun _ h9 => h9) rfl dX9_ledAt_1 ?_
  refine lv_iload_n hx hb dX9_ledAt_4 rfl (lv_at hl 3 rfl) ?_
  refine xj_i (wc := (wMix h cs I L A Q G J)) (wr := [(h 100, .inr (9, [.ref (h 101), .ref (h 102), .ref (h 103), .ref (h 104), .ref (h 105), .ref (h 106), .ref (h 107), .ref (h 108), .ref (h 109)])), (h 108, .inr (1, [.ref (h 101), .ref (h 200), .ref (h 206), .ref (h 211), .int (I 212), .int (I 213)])), (h 200, .inl (cs 3, 5, .inr (.inr (.inr (.inr (fun i => if i < 5 then some (h (i + 201)) else none)))))), (h 201, .inl (cs 0, 4, .inl ((G 2) 0))), (h 202, .inl (cs 0, 4, .inl ((G 2) 1))), (h 203, .inl (cs 0, 4, .inl ((G 2) 2))), (h 204, .inl (cs 0, 4, .inl ((G 2) 3))), (h 205, .inl (cs 0, 4, .inl ((G 2) 4))), (h 206, .inl (cs 3, 4, .inr (.inr (.inr (.inr (fun i => if i < 4 then some (h (i + 207)) else none)))))), (h 207, .inl (cs 0, 4, .inl ((G 3) 0))), (h 208, .inl (cs 0, 4, .inl ((G 3) 1))), (h 209, .inl (cs 0, 4, .inl ((G 3) 2))), (h 210, .inl (cs 0, 4, .inl ((G 3) 3))), (h 211, .inl (cs 0, 5, .inl (A 211)))]) hP hD hS hA [14, 15, 16, 17, 18, 19, 20, 21] [0, 1, 2, 3, 4, 5, 6, 7, 8, 9, 10, 11, 12, 13] rfl rfl (by decide) (by decide) (va_runV (As := [.int z]) (rest := []) ⟨hx, hb, hml, hown, hts⟩ (k_X3_hasColumn l dC dI h cs H.size I L A Q G J z M hM (by first | assumption | omega | exact hM1) (by first | assumption | omega | exact hM4)) (cwV 1 hts gX9_ledAt_X3_hasColumn rfl rfl rfl (by decide +kernel) ⟨Nat.le_of_ble_eq_true rfl, Nat.le_of_ble_eq_true rfl⟩) (xpV (wc := (wMix h cs I L A Q G J)) hP hD hK hN [14, 15, 16, 17, 18, 19, 20, 21] rfl (by decide) 14 (ci := 3) rfl rfl _) rfl rfl hl.1 rfl (lv_room (Nat.le_of_ble_eq_true rfl)) dX9_ledAt_5 ⟨Nat.zero_le _, Nat.zero_le _⟩) (fun r_2 u_1 H locs hw hP hD hS => ?_)
  obtain ⟨hf_3, rfl⟩ := hw
  have hP : va_P (dC, dI) vwCl (wFE h cs I L A Q G J) H := hP
  have hD : va_D A0 (wFE h cs I L A Q G J) := hD
  rcases hf_3 with ⟨rfl, i_4, hi_5, hx_6⟩ | ⟨rfl, hn_7⟩
  · skip
    rw [hx_6] at hl
    refine lv_if_eq (tgt := 46) hx hb dX9_ledAt_8 (by decide) (fun c9 => False.elim (by revert c9; decide +kernel)) (fun _ => ?_)
    refine lv_iload_n hx hb dX9_ledAt_11 rfl (lv_at hl 1 rfl) ?_
    refine lv_if_ne (tgt := 26) hx hb dX9_ledAt_12 (by decide) (fun c_12_7 => ?_) (fun c_12_7 => ?_)
    · skip
      refine lv_iload_n hx hb dX9_ledAt_26 rfl (lv_at hl 1 rfl) ?_
      refine lv_iconst (v := nI 1) hx hb dX9_ledAt_27 (by decide) ?_
      refine lv_icmp_ne (tgt := 46) hx hb dX9_ledAt_28 (by decide) (fun c_28_8 => ?_) (fun c_28_8 => ?_)
      · skip
        refine lv_iconst (v := nI 0) hx hb dX9_ledAt_46 (by decide) ?_
        refine lv_istore (lv' := [(4, .int (nI 0)), (0, .ref (h 100)), (1, .int x), (2, .int y), (3, .int (nI i_4))]) hx hb dX9_ledAt_47 hl (by decide) rfl (fun ls hl => ?_)
        refine lv_iload hx hb dX9_ledAt_49 (lv_at hl 0 rfl) ?_
        refine lv_if_ne (tgt := 57) hx hb dX9_ledAt_51 (by decide) (fun c9 => False.elim (by revert c9; decide +kernel)) (fun _ => ?_)
        refine lv_ldc (v := (-1000001)) hx hb hown (hts (.constant RX9 239 (-1000001)) (by decide +kernel)) dX9_ledAt_54 ?_
        exact xr_i (v := (-1000001 : Int32)) hx hb hr hlocks hK hS dX9_ledAt_56 ((va_up (va_up I 212 (I 212)) 213 (I 213)), L, A, Q, (va_up (va_up G 2 (G 2)) 3 (G 3)), J) ⟨(I 212), (I 213), (G 2), (G 3), trivial, rfl⟩ hP hD
      · skip
        have hx0_10 : x = nI 1 := c_28_8
        rw [hx0_10] at hl
        refine lv_aload_n hx hb dX9_ledAt_31 rfl (lv_at hl 0 rfl) ?_
        refine va_get (D := (dC, dI)) (ci := 9) (v := .ref (h 101)) (C := RX9) (T := TX9) (N := 9) hx hb hts hinX9 hown hK hP 0 rfl rfl 0 (by decide) (hts (.fieldLink RX9 12 "MixedWords" "mix" "LMixedWords$Mix;") (by decide +kernel)) (fun _ h9 => h9) rfl dX9_ledAt_32 ?_
        refine lv_iload_n hx hb dX9_ledAt_35 rfl (lv_at hl 2 rfl) ?_
        refine xj_i (wc := (wMix h cs I L A Q G J)) (wr := [(h 100, .inr (9, [.ref (h 101), .ref (h 102), .ref (h 103), .ref (h 104), .ref (h 105), .ref (h 106), .ref (h 107), .ref (h 108), .ref (h 109)])), (h 108, .inr (1, [.ref (h 101), .ref (h 200), .ref (h 206), .ref (h 211), .int (I 212), .int (I 213)])), (h 200, .inl (cs 3, 5, .inr (.inr (.inr (.inr (fun i => if i < 5 then some (h (i + 201)) else none)))))), (h 201, .inl (cs 0, 4, .inl ((G 2) 0))), (h 202, .inl (cs 0, 4, .inl ((G 2) 1))), (h 203, .inl (cs 0, 4, .inl ((G 2) 2))), (h 204, .inl (cs 0, 4, .inl ((G 2) 3))), (h 205, .inl (cs 0, 4, .inl ((G 2) 4))), (h 206, .inl (cs 3, 4, .inr (.inr (.inr (.inr (fun i => if i < 4 then some (h (i + 207)) else none)))))), (h 207, .inl (cs 0, 4, .inl ((G 3) 0))), (h 208, .inl (cs 0, 4, .inl ((G 3) 1))), (h 209, .inl (cs 0, 4, .inl ((G 3) 2))), (h 210, .inl (cs 0, 4, .inl ((G 3) 3))), (h 211, .inl (cs 0, 5, .inl (A 211)))]) hP hD hS hA [14, 15, 16, 17, 18, 19, 20, 21] [0, 1, 2, 3, 4, 5, 6, 7, 8, 9, 10, 11, 12, 13] rfl rfl (by decide) (by decide) (va_runV (As := [.int y]) (rest := []) ⟨hx, hb, hml, hown, hts⟩ (k_X3_hasColumn l dC dI h cs H.size I L A Q G J y M hM (by first | assumption | omega | exact hM1) (by first | assumption | omega | exact hM4)) (cwV 1 hts gX9_ledAt_X3_hasColumn rfl rfl rfl (by decide +kernel) ⟨Nat.le_of_ble_eq_true rfl, Nat.le_of_ble_eq_true rfl⟩) (xpV (wc := (wMix h cs I L A Q G J)) hP hD hK hN [14, 15, 16, 17, 18, 19, 20, 21] rfl (by decide) 14 (ci := 3) rfl rfl _) rfl rfl hl.1 rfl (lv_room (Nat.le_of_ble_eq_true rfl)) dX9_ledAt_36 ⟨Nat.zero_le _, Nat.zero_le _⟩) (fun r_12 u_11 H locs hw hP hD hS => ?_)
        obtain ⟨hf_13, rfl⟩ := hw
        have hP : va_P (dC, dI) vwCl (wFE h cs I L A Q G J) H := hP
        have hD : va_D A0 (wFE h cs I L A Q G J) := hD
        rcases hf_13 with ⟨rfl, i_14, hi_15, hx_16⟩ | ⟨rfl, hn_17⟩
        · skip
          rw [hx_16] at hl
          refine lv_if_eq (tgt := 46) hx hb dX9_ledAt_39 (by decide) (fun c9 => False.elim (by revert c9; decide +kernel)) (fun _ => ?_)
          refine lv_iconst (v := nI 1) hx hb dX9_ledAt_42 (by decide) ?_
          refine lv_goto (tgt := 47) hx hb dX9_ledAt_43 (by decide) ?_
          refine lv_istore (lv' := [(4, .int (nI 1)), (0, .ref (h 100)), (1, .int (nI 1)), (2, .int (nI i_14)), (3, .int (nI i_4))]) hx hb dX9_ledAt_47 hl (by decide) rfl (fun ls hl => ?_)
          refine lv_iload hx hb dX9_ledAt_49 (lv_at hl 0 rfl) ?_
          refine lv_if_ne (tgt := 57) hx hb dX9_ledAt_51 (by decide) (fun _ => ?_) (fun c9 => False.elim (by revert c9; decide +kernel))
          refine lv_aload_n hx hb dX9_ledAt_57 rfl (lv_at hl 1 rfl) ?_
          refine va_get (D := (dC, dI)) (ci := 9) (v := .ref (h 108)) (C := RX9) (T := TX9) (N := 9) hx hb hts hinX9 hown hK hP 0 rfl rfl 7 (by decide) (hts (.fieldLink RX9 65 "MixedWords" "leader" "LMixedWords$Leader;") (by decide +kernel)) (fun _ h9 => h9) rfl dX9_ledAt_58 ?_
          refine xj_v (wc := (wLead h cs I L A Q G J)) (wr := [(h 100, .inr (9, [.ref (h 101), .ref (h 102), .ref (h 103), .ref (h 104), .ref (h 105), .ref (h 106), .ref (h 107), .ref (h 108), .ref (h 109)]))]) hP hD hS hA [1, 2, 3, 4, 5, 6, 7, 8, 9, 10, 11, 12, 13, 14, 15, 16, 17, 18, 19, 20, 21] [0] rfl rfl (by decide) (by decide) (va_runV (As := []) (rest := []) ⟨hx, hb, hml, hown, hts⟩ (k_X1_lead l dC dI h cs H.size I L A Q G J R M hR (by first | assumption | omega | exact hR1) (by first | assumption | omega | exact hR5) hM (by first | assumption | omega | exact hM1) (by first | assumption | omega | exact hM4)) (cwV 0 hts gX9_ledAt_X1_lead rfl rfl rfl (by decide +kernel) ⟨Nat.le_of_ble_eq_true rfl, Nat.le_of_ble_eq_true rfl⟩) (xpV (wc := (wLead h cs I L A Q G J)) hP hD hK hN [1, 2, 3, 4, 5, 6, 7, 8, 9, 10, 11, 12, 13, 14, 15, 16, 17, 18, 19, 20, 21] rfl (by decide) 1 (ci := 1) rfl rfl _) rfl rfl hl.1 rfl (lv_room (Nat.le_of_ble_eq_true rfl)) dX9_ledAt_61 ⟨Nat.zero_le _, Nat.zero_le _⟩) (fun u_18 H locs hw hP hD hS => ?_)
          obtain ⟨i212_20, i213_21, g2_22, g3_23, hf_24, rfl⟩ := hw
          have hP : va_P (dC, dI) vwCl (wFE h cs (va_up (va_up I 212 i212_20) 213 i213_21) L A Q (va_up (va_up G 2 g2_22) 3 g3_23) J) H := hP
          have hD : va_D A0 (wFE h cs (va_up (va_up I 212 i212_20) 213 i213_21) L A Q (va_up (va_up G 2 g2_22) 3 g3_23) J) := hD
          refine lv_iload_n hx hb dX9_ledAt_64 rfl (lv_at hl 2 rfl) ?_
          refine lv_if_ne (tgt := 82) hx hb dX9_ledAt_65 (by decide) (fun _ => ?_) (fun c9 => False.elim (by revert c9; decide +kernel))
          refine lv_aload_n hx hb dX9_ledAt_82 rfl (lv_at hl 1 rfl) ?_
          refine va_get (D := (dC, dI)) (ci := 9) (v := .ref (h 108)) (C := RX9) (T := TX9) (N := 9) hx hb hts hinX9 hown hK hP 0 rfl rfl 7 (by decide) (hts (.fieldLink RX9 65 "MixedWords" "leader" "LMixedWords$Leader;") (by decide +kernel)) (fun _ h9 => h9) rfl dX9_ledAt_83 ?_
          refine va_get (D := (dC, dI)) (ci := 1) (v := .ref (h 206)) (C := RX1) (T := TX1) (N := 6) hx hb hts hinX1 hown hK hP 1 rfl rfl 2 (by decide) (hts (.fieldLink RX9 243 "MixedWords$Leader" "steps" "[[I") (by decide +kernel)) (fun _ h9 => h9) rfl dX9_ledAt_86 ?_
          refine lv_iload_n hx hb dX9_ledAt_89 rfl (lv_at hl 3 rfl) ?_
          refine xa_aald (b := h (i_14 + 207)) hx hb hK hP 8 3 rfl rfl rfl (by omega) (by decide) (if_pos (by omega)) dX9_ledAt_90 ?_
          refine lv_iload_n hx hb dX9_ledAt_91 rfl (lv_at hl 4 rfl) ?_
          refine xa_iald hx hb hK hP (9 + i_14) 0 (wFE_atG3 (by omega)) rfl (by omega) (by decide) dX9_ledAt_92 ?_
          exact xr_i (v := ((g3_23 i_14) i_4)) hx hb hr hlocks hK hS dX9_ledAt_93 ((va_up (va_up I 212 i212_20) 213 i213_21), L, A, Q, (va_up (va_up G 2 g2_22) 3 g3_23), J) ⟨i212_20, i213_21, g2_22, g3_23, trivial, rfl⟩ hP hD
        · skip
          refine lv_if_eq (tgt := 46) hx hb dX9_ledAt_39 (by decide) (fun _ => ?_) (fun c9 => False.elim (by revert c9; decide +kernel))
          refine lv_iconst (v := nI 0) hx hb dX9_ledAt_46 (by decide) ?_
          refine lv_istore (lv' := [(4, .int (nI 0)), (0, .ref (h 100)), (1, .int (nI 1)), (2, .int y), (3, .int (nI i_4))]) hx hb dX9_ledAt_47 hl (by decide) rfl (fun ls hl => ?_)
          refine lv_iload hx hb dX9_ledAt_49 (lv_at hl 0 rfl) ?_
          refine lv_if_ne (tgt := 57) hx hb dX9_ledAt_51 (by decide) (fun c9 => False.elim (by revert c9; decide +kernel)) (fun _ => ?_)
          refine lv_ldc (v := (-1000001)) hx hb hown (hts (.constant RX9 239 (-1000001)) (by decide +kernel)) dX9_ledAt_54 ?_
          exact xr_i (v := (-1000001 : Int32)) hx hb hr hlocks hK hS dX9_ledAt_56 ((va_up (va_up I 212 (I 212)) 213 (I 213)), L, A, Q, (va_up (va_up G 2 (G 2)) 3 (G 3)), J) ⟨(I 212), (I 213), (G 2), (G 3), trivial, rfl⟩ hP hD
    · skip
      have hx0_25 : x = nI 0 := c_12_7
      rw [hx0_25] at hl
      refine lv_aload_n hx hb dX9_ledAt_15 rfl (lv_at hl 0 rfl) ?_
      refine va_get (D := (dC, dI)) (ci := 9) (v := .ref (h 101)) (C := RX9) (T := TX9) (N := 9) hx hb hts hinX9 hown hK hP 0 rfl rfl 0 (by decide) (hts (.fieldLink RX9 12 "MixedWords" "mix" "LMixedWords$Mix;") (by decide +kernel)) (fun _ h9 => h9) rfl dX9_ledAt_16 ?_
      refine lv_iload_n hx hb dX9_ledAt_19 rfl (lv_at hl 2 rfl) ?_
      refine xj_i (wc := (wMix h cs I L A Q G J)) (wr := [(h 100, .inr (9, [.ref (h 101), .ref (h 102), .ref (h 103), .ref (h 104), .ref (h 105), .ref (h 106), .ref (h 107), .ref (h 108), .ref (h 109)])), (h 108, .inr (1, [.ref (h 101), .ref (h 200), .ref (h 206), .ref (h 211), .int (I 212), .int (I 213)])), (h 200, .inl (cs 3, 5, .inr (.inr (.inr (.inr (fun i => if i < 5 then some (h (i + 201)) else none)))))), (h 201, .inl (cs 0, 4, .inl ((G 2) 0))), (h 202, .inl (cs 0, 4, .inl ((G 2) 1))), (h 203, .inl (cs 0, 4, .inl ((G 2) 2))), (h 204, .inl (cs 0, 4, .inl ((G 2) 3))), (h 205, .inl (cs 0, 4, .inl ((G 2) 4))), (h 206, .inl (cs 3, 4, .inr (.inr (.inr (.inr (fun i => if i < 4 then some (h (i + 207)) else none)))))), (h 207, .inl (cs 0, 4, .inl ((G 3) 0))), (h 208, .inl (cs 0, 4, .inl ((G 3) 1))), (h 209, .inl (cs 0, 4, .inl ((G 3) 2))), (h 210, .inl (cs 0, 4, .inl ((G 3) 3))), (h 211, .inl (cs 0, 5, .inl (A 211)))]) hP hD hS hA [14, 15, 16, 17, 18, 19, 20, 21] [0, 1, 2, 3, 4, 5, 6, 7, 8, 9, 10, 11, 12, 13] rfl rfl (by decide) (by decide) (va_runV (As := [.int y]) (rest := []) ⟨hx, hb, hml, hown, hts⟩ (k_X3_hasRow l dC dI h cs H.size I L A Q G J y R hR (by first | assumption | omega | exact hR1) (by first | assumption | omega | exact hR5)) (cwV 1 hts gX9_ledAt_X3_hasRow rfl rfl rfl (by decide +kernel) ⟨Nat.le_of_ble_eq_true rfl, Nat.le_of_ble_eq_true rfl⟩) (xpV (wc := (wMix h cs I L A Q G J)) hP hD hK hN [14, 15, 16, 17, 18, 19, 20, 21] rfl (by decide) 14 (ci := 3) rfl rfl _) rfl rfl hl.1 rfl (lv_room (Nat.le_of_ble_eq_true rfl)) dX9_ledAt_20 ⟨Nat.zero_le _, Nat.zero_le _⟩) (fun r_27 u_26 H locs hw hP hD hS => ?_)
      obtain ⟨hf_28, rfl⟩ := hw
      have hP : va_P (dC, dI) vwCl (wFE h cs I L A Q G J) H := hP
      have hD : va_D A0 (wFE h cs I L A Q G J) := hD
      rcases hf_28 with ⟨rfl, i_29, hi_30, hx_31⟩ | ⟨rfl, hn_32⟩
      · skip
        rw [hx_31] at hl
        refine lv_if_ne (tgt := 42) hx hb dX9_ledAt_23 (by decide) (fun _ => ?_) (fun c9 => False.elim (by revert c9; decide +kernel))
        refine lv_iconst (v := nI 1) hx hb dX9_ledAt_42 (by decide) ?_
        refine lv_goto (tgt := 47) hx hb dX9_ledAt_43 (by decide) ?_
        refine lv_istore (lv' := [(4, .int (nI 1)), (0, .ref (h 100)), (1, .int (nI 0)), (2, .int (nI i_29)), (3, .int (nI i_4))]) hx hb dX9_ledAt_47 hl (by decide) rfl (fun ls hl => ?_)
        refine lv_iload hx hb dX9_ledAt_49 (lv_at hl 0 rfl) ?_
        refine lv_if_ne (tgt := 57) hx hb dX9_ledAt_51 (by decide) (fun _ => ?_) (fun c9 => False.elim (by revert c9; decide +kernel))
        refine lv_aload_n hx hb dX9_ledAt_57 rfl (lv_at hl 1 rfl) ?_
        refine va_get (D := (dC, dI)) (ci := 9) (v := .ref (h 108)) (C := RX9) (T := TX9) (N := 9) hx hb hts hinX9 hown hK hP 0 rfl rfl 7 (by decide) (hts (.fieldLink RX9 65 "MixedWords" "leader" "LMixedWords$Leader;") (by decide +kernel)) (fun _ h9 => h9) rfl dX9_ledAt_58 ?_
        refine xj_v (wc := (wLead h cs I L A Q G J)) (wr := [(h 100, .inr (9, [.ref (h 101), .ref (h 102), .ref (h 103), .ref (h 104), .ref (h 105), .ref (h 106), .ref (h 107), .ref (h 108), .ref (h 109)]))]) hP hD hS hA [1, 2, 3, 4, 5, 6, 7, 8, 9, 10, 11, 12, 13, 14, 15, 16, 17, 18, 19, 20, 21] [0] rfl rfl (by decide) (by decide) (va_runV (As := []) (rest := []) ⟨hx, hb, hml, hown, hts⟩ (k_X1_lead l dC dI h cs H.size I L A Q G J R M hR (by first | assumption | omega | exact hR1) (by first | assumption | omega | exact hR5) hM (by first | assumption | omega | exact hM1) (by first | assumption | omega | exact hM4)) (cwV 0 hts gX9_ledAt_X1_lead rfl rfl rfl (by decide +kernel) ⟨Nat.le_of_ble_eq_true rfl, Nat.le_of_ble_eq_true rfl⟩) (xpV (wc := (wLead h cs I L A Q G J)) hP hD hK hN [1, 2, 3, 4, 5, 6, 7, 8, 9, 10, 11, 12, 13, 14, 15, 16, 17, 18, 19, 20, 21] rfl (by decide) 1 (ci := 1) rfl rfl _) rfl rfl hl.1 rfl (lv_room (Nat.le_of_ble_eq_true rfl)) dX9_ledAt_61 ⟨Nat.zero_le _, Nat.zero_le _⟩) (fun u_33 H locs hw hP hD hS => ?_)
        obtain ⟨i212_35, i213_36, g2_37, g3_38, hf_39, rfl⟩ := hw
        have hP : va_P (dC, dI) vwCl (wFE h cs (va_up (va_up I 212 i212_35) 213 i213_36) L A Q (va_up (va_up G 2 g2_37) 3 g3_38) J) H := hP
        have hD : va_D A0 (wFE h cs (va_up (va_up I 212 i212_35) 213 i213_36) L A Q (va_up (va_up G 2 g2_37) 3 g3_38) J) := hD
        refine lv_iload_n hx hb dX9_ledAt_64 rfl (lv_at hl 2 rfl) ?_
        refine lv_if_ne (tgt := 82) hx hb dX9_ledAt_65 (by decide) (fun c9 => False.elim (by revert c9; decide +kernel)) (fun _ => ?_)
        refine lv_aload_n hx hb dX9_ledAt_68 rfl (lv_at hl 1 rfl) ?_
        refine va_get (D := (dC, dI)) (ci := 9) (v := .ref (h 108)) (C := RX9) (T := TX9) (N := 9) hx hb hts hinX9 hown hK hP 0 rfl rfl 7 (by decide) (hts (.fieldLink RX9 65 "MixedWords" "leader" "LMixedWords$Leader;") (by decide +kernel)) (fun _ h9 => h9) rfl dX9_ledAt_69 ?_
        refine va_get (D := (dC, dI)) (ci := 1) (v := .ref (h 200)) (C := RX1) (T := TX1) (N := 6) hx hb hts hinX1 hown hK hP 1 rfl rfl 1 (by decide) (hts (.fieldLink RX9 240 "MixedWords$Leader" "columns" "[[I") (by decide +kernel)) (fun _ h9 => h9) rfl dX9_ledAt_72 ?_
        refine lv_iload_n hx hb dX9_ledAt_75 rfl (lv_at hl 3 rfl) ?_
        refine xa_aald (b := h (i_29 + 201)) hx hb hK hP 2 3 rfl rfl rfl (by omega) (by decide) (if_pos (by omega)) dX9_ledAt_76 ?_
        refine lv_iload_n hx hb dX9_ledAt_77 rfl (lv_at hl 4 rfl) ?_
        refine xa_iald hx hb hK hP (3 + i_29) 0 (wFE_atG2 (by omega)) rfl (by omega) (by decide) dX9_ledAt_78 ?_
        refine lv_goto (tgt := 93) hx hb dX9_ledAt_79 (by decide) ?_
        exact xr_i (v := ((g2_37 i_29) i_4)) hx hb hr hlocks hK hS dX9_ledAt_93 ((va_up (va_up I 212 i212_35) 213 i213_36), L, A, Q, (va_up (va_up G 2 g2_37) 3 g3_38), J) ⟨i212_35, i213_36, g2_37, g3_38, trivial, rfl⟩ hP hD
      · skip
        refine lv_if_ne (tgt := 42) hx hb dX9_ledAt_23 (by decide) (fun c9 => False.elim (by revert c9; decide +kernel)) (fun _ => ?_)
        refine lv_iload_n hx hb dX9_ledAt_26 rfl (lv_at hl 1 rfl) ?_
        refine lv_iconst (v := nI 1) hx hb dX9_ledAt_27 (by decide) ?_
        refine lv_icmp_ne (tgt := 46) hx hb dX9_ledAt_28 (by decide) (fun _ => ?_) (fun c9 => False.elim (by revert c9; decide +kernel))
        refine lv_iconst (v := nI 0) hx hb dX9_ledAt_46 (by decide) ?_
        refine lv_istore (lv' := [(4, .int (nI 0)), (0, .ref (h 100)), (1, .int (nI 0)), (2, .int y), (3, .int (nI i_4))]) hx hb dX9_ledAt_47 hl (by decide) rfl (fun ls hl => ?_)
        refine lv_iload hx hb dX9_ledAt_49 (lv_at hl 0 rfl) ?_
        refine lv_if_ne (tgt := 57) hx hb dX9_ledAt_51 (by decide) (fun c9 => False.elim (by revert c9; decide +kernel)) (fun _ => ?_)
        refine lv_ldc (v := (-1000001)) hx hb hown (hts (.constant RX9 239 (-1000001)) (by decide +kernel)) dX9_ledAt_54 ?_
        exact xr_i (v := (-1000001 : Int32)) hx hb hr hlocks hK hS dX9_ledAt_56 ((va_up (va_up I 212 (I 212)) 213 (I 213)), L, A, Q, (va_up (va_up G 2 (G 2)) 3 (G 3)), J) ⟨(I 212), (I 213), (G 2), (G 3), trivial, rfl⟩ hP hD
  · skip
    refine lv_if_eq (tgt := 46) hx hb dX9_ledAt_8 (by decide) (fun _ => ?_) (fun c9 => False.elim (by revert c9; decide +kernel))
    refine lv_iconst (v := nI 0) hx hb dX9_ledAt_46 (by decide) ?_
    refine lv_istore (lv' := [(4, .int (nI 0)), (0, .ref (h 100)), (1, .int x), (2, .int y), (3, .int z)]) hx hb dX9_ledAt_47 hl (by decide) rfl (fun ls hl => ?_)
    refine lv_iload hx hb dX9_ledAt_49 (lv_at hl 0 rfl) ?_
    refine lv_if_ne (tgt := 57) hx hb dX9_ledAt_51 (by decide) (fun c9 => False.elim (by revert c9; decide +kernel)) (fun _ => ?_)
    refine lv_ldc (v := (-1000001)) hx hb hown (hts (.constant RX9 239 (-1000001)) (by decide +kernel)) dX9_ledAt_54 ?_
    exact xr_i (v := (-1000001 : Int32)) hx hb hr hlocks hK hS dX9_ledAt_56 ((va_up (va_up I 212 (I 212)) 213 (I 213)), L, A, Q, (va_up (va_up G 2 (G 2)) 3 (G 3)), J) ⟨(I 212), (I 213), (G 2), (G 3), trivial, rfl⟩ hP hD
set_option maxRecDepth 20000 in
theorem ggX9_ledWord_X1_lead : GoodIn wsX9_ledWord wsX1_lead := goodIn_r _ [16, 17, 18, 19, 20, 21, 22, 23, 15, 24, 25, 26, 27, 28, 29, 30, 31, 32, 33, 34, 35, 36, 37, 38, 39, 40, 41, 42, 43, 44, 45, 46, 47, 48, 49, 50, 51, 52, 111, 112, 113, 114, 115, 116, 117, 118, 119, 120, 121, 122] (by decide +kernel) (by decide +kernel)
set_option maxRecDepth 20000 in
theorem gX9_ledWord_X1_lead : GoodIn wsX9_ledWord (wsV RX9 233 RX1 yX1_lead wsX1_lead) := goodIn_app (goodIn_of _ (by decide +kernel)) ggX9_ledWord_X1_lead
set_option maxRecDepth 20000 in
theorem ggX9_ledWord_X1_aim : GoodIn wsX9_ledWord wsX1_aim := goodIn_r _ [56, 18, 41, 36, 25, 57, 58, 59, 111, 112, 113, 114, 115, 116, 117, 118, 119, 120, 121, 122] (by decide +kernel) (by decide +kernel)
set_option maxRecDepth 20000 in
theorem gX9_ledWord_X1_aim : GoodIn wsX9_ledWord (wsV RX9 246 RX1 yX1_aim wsX1_aim) := goodIn_app (goodIn_of _ (by decide +kernel)) ggX9_ledWord_X1_aim
set_option maxRecDepth 20000 in
theorem ggX9_ledWord_X2_solve : GoodIn wsX9_ledWord wsX2_solve := goodIn_r _ [64, 65, 66, 67, 68, 46, 47, 48, 69, 70, 63, 71, 72, 73, 74, 75, 123, 124, 125, 126, 127] (by decide +kernel) (by decide +kernel)
set_option maxRecDepth 20000 in
theorem gX9_ledWord_X2_solve : GoodIn wsX9_ledWord (wsV RX9 188 RX2 yX2_solve wsX2_solve) := goodIn_app (goodIn_of _ (by decide +kernel)) ggX9_ledWord_X2_solve
set_option maxRecDepth 20000 in
theorem ggX9_ledWord_X9_nearestHalf : GoodIn wsX9_ledWord wsX9_nearestHalf := goodIn_r _ [78, 79, 80, 81, 47, 82, 83, 84, 85, 86] (by decide +kernel) (by decide +kernel)
set_option maxRecDepth 20000 in
theorem gX9_ledWord_X9_nearestHalf : GoodIn wsX9_ledWord (va_wsS RX9 252 yX9_nearestHalf wsX9_nearestHalf) := goodIn_app (goodIn_of _ (by decide +kernel)) ggX9_ledWord_X9_nearestHalf
set_option maxRecDepth 20000 in
theorem ggX9_ledWord_X9_held : GoodIn wsX9_ledWord wsX9_held := goodIn_r _ [89, 90, 91, 44, 92, 93, 94, 95] (by decide +kernel) (by decide +kernel)
set_option maxRecDepth 20000 in
theorem gX9_ledWord_X9_held : GoodIn wsX9_ledWord (va_wsS RX9 255 yX9_held wsX9_held) := goodIn_app (goodIn_of _ (by decide +kernel)) ggX9_ledWord_X9_held
set_option maxRecDepth 20000 in
theorem ggX9_ledWord_X3_follow : GoodIn wsX9_ledWord wsX3_follow := goodIn_r _ [100, 101, 117, 118, 119, 120, 121, 122] (by decide +kernel) (by decide +kernel)
set_option maxRecDepth 20000 in
theorem gX9_ledWord_X3_follow : GoodIn wsX9_ledWord (wsV RX9 204 RX3 yX3_follow wsX3_follow) := goodIn_app (goodIn_of _ (by decide +kernel)) ggX9_ledWord_X3_follow
theorem bdX9_ledWord_0 : (decode cX9_ledWord 0 = .ok (.aload_n 0, 1)) ∧ (decode cX9_ledWord 1 = .ok (.getfield 65, 3)) ∧ (decode cX9_ledWord 4 = .ok (.invokevirtual 233, 3)) ∧ (decode cX9_ledWord 7 = .ok (.aload_n 0, 1)) ∧ (decode cX9_ledWord 8 = .ok (.getfield 65, 3)) ∧ (decode cX9_ledWord 11 = .ok (.invokevirtual 246, 3)) ∧ (decode cX9_ledWord 14 = .ok (.aload_n 0, 1)) ∧ (decode cX9_ledWord 15 = .ok (.getfield 51, 3)) ∧ (decode cX9_ledWord 18 = .ok (.aload_n 0, 1)) ∧ (decode cX9_ledWord 19 = .ok (.getfield 65, 3)) ∧ (decode cX9_ledWord 22 = .ok (.getfield 240, 3)) ∧ (decode cX9_ledWord 25 = .ok (.aload_n 0, 1)) ∧ (decode cX9_ledWord 26 = .ok (.getfield 65, 3)) ∧ (decode cX9_ledWord 29 = .ok (.getfield 249, 3)) ∧ (decode cX9_ledWord 32 = .ok (.aload_n 0, 1)) ∧ (decode cX9_ledWord 33 = .ok (.getfield 12, 3)) := by decide +kernel
theorem dX9_ledWord_0 : decode cX9_ledWord 0 = .ok (.aload_n 0, 1) := bdX9_ledWord_0.1
theorem dX9_ledWord_1 : decode cX9_ledWord 1 = .ok (.getfield 65, 3) := bdX9_ledWord_0.2.1
theorem dX9_ledWord_4 : decode cX9_ledWord 4 = .ok (.invokevirtual 233, 3) := bdX9_ledWord_0.2.2.1
theorem dX9_ledWord_7 : decode cX9_ledWord 7 = .ok (.aload_n 0, 1) := bdX9_ledWord_0.2.2.2.1
theorem dX9_ledWord_8 : decode cX9_ledWord 8 = .ok (.getfield 65, 3) := bdX9_ledWord_0.2.2.2.2.1
theorem dX9_ledWord_11 : decode cX9_ledWord 11 = .ok (.invokevirtual 246, 3) := bdX9_ledWord_0.2.2.2.2.2.1
theorem dX9_ledWord_14 : decode cX9_ledWord 14 = .ok (.aload_n 0, 1) := bdX9_ledWord_0.2.2.2.2.2.2.1
theorem dX9_ledWord_15 : decode cX9_ledWord 15 = .ok (.getfield 51, 3) := bdX9_ledWord_0.2.2.2.2.2.2.2.1
theorem dX9_ledWord_18 : decode cX9_ledWord 18 = .ok (.aload_n 0, 1) := bdX9_ledWord_0.2.2.2.2.2.2.2.2.1
theorem dX9_ledWord_19 : decode cX9_ledWord 19 = .ok (.getfield 65, 3) := bdX9_ledWord_0.2.2.2.2.2.2.2.2.2.1
theorem dX9_ledWord_22 : decode cX9_ledWord 22 = .ok (.getfield 240, 3) := bdX9_ledWord_0.2.2.2.2.2.2.2.2.2.2.1
theorem dX9_ledWord_25 : decode cX9_ledWord 25 = .ok (.aload_n 0, 1) := bdX9_ledWord_0.2.2.2.2.2.2.2.2.2.2.2.1
theorem dX9_ledWord_26 : decode cX9_ledWord 26 = .ok (.getfield 65, 3) := bdX9_ledWord_0.2.2.2.2.2.2.2.2.2.2.2.2.1
theorem dX9_ledWord_29 : decode cX9_ledWord 29 = .ok (.getfield 249, 3) := bdX9_ledWord_0.2.2.2.2.2.2.2.2.2.2.2.2.2.1
theorem dX9_ledWord_32 : decode cX9_ledWord 32 = .ok (.aload_n 0, 1) := bdX9_ledWord_0.2.2.2.2.2.2.2.2.2.2.2.2.2.2.1
theorem dX9_ledWord_33 : decode cX9_ledWord 33 = .ok (.getfield 12, 3) := bdX9_ledWord_0.2.2.2.2.2.2.2.2.2.2.2.2.2.2.2
theorem bdX9_ledWord_36 : (decode cX9_ledWord 36 = .ok (.getfield 147, 3)) ∧ (decode cX9_ledWord 39 = .ok (.aload_n 0, 1)) ∧ (decode cX9_ledWord 40 = .ok (.getfield 12, 3)) ∧ (decode cX9_ledWord 43 = .ok (.getfield 106, 3)) ∧ (decode cX9_ledWord 46 = .ok (.invokevirtual 188, 3)) ∧ (decode cX9_ledWord 49 = .ok (.aload_n 0, 1)) ∧ (decode cX9_ledWord 50 = .ok (.getfield 51, 3)) ∧ (decode cX9_ledWord 53 = .ok (.getfield 192, 3)) ∧ (decode cX9_ledWord 56 = .ok (.lconst 0, 1)) ∧ (decode cX9_ledWord 57 = .ok (.lcmp, 1)) ∧ (decode cX9_ledWord 58 = .ok (.ifCond .gt 6, 3)) ∧ (decode cX9_ledWord 61 = .ok (.bipush (-2), 2)) ∧ (decode cX9_ledWord 63 = .ok (.ireturn, 1)) ∧ (decode cX9_ledWord 64 = .ok (.iconst 0, 1)) ∧ (decode cX9_ledWord 65 = .ok (.istore_n 1, 1)) ∧ (decode cX9_ledWord 66 = .ok (.iconst 0, 1)) := by decide +kernel
theorem dX9_ledWord_36 : decode cX9_ledWord 36 = .ok (.getfield 147, 3) := bdX9_ledWord_36.1
theorem dX9_ledWord_39 : decode cX9_ledWord 39 = .ok (.aload_n 0, 1) := bdX9_ledWord_36.2.1
theorem dX9_ledWord_40 : decode cX9_ledWord 40 = .ok (.getfield 12, 3) := bdX9_ledWord_36.2.2.1
theorem dX9_ledWord_43 : decode cX9_ledWord 43 = .ok (.getfield 106, 3) := bdX9_ledWord_36.2.2.2.1
theorem dX9_ledWord_46 : decode cX9_ledWord 46 = .ok (.invokevirtual 188, 3) := bdX9_ledWord_36.2.2.2.2.1
theorem dX9_ledWord_49 : decode cX9_ledWord 49 = .ok (.aload_n 0, 1) := bdX9_ledWord_36.2.2.2.2.2.1
theorem dX9_ledWord_50 : decode cX9_ledWord 50 = .ok (.getfield 51, 3) := bdX9_ledWord_36.2.2.2.2.2.2.1
theorem dX9_ledWord_53 : decode cX9_ledWord 53 = .ok (.getfield 192, 3) := bdX9_ledWord_36.2.2.2.2.2.2.2.1
theorem dX9_ledWord_56 : decode cX9_ledWord 56 = .ok (.lconst 0, 1) := bdX9_ledWord_36.2.2.2.2.2.2.2.2.1
theorem dX9_ledWord_57 : decode cX9_ledWord 57 = .ok (.lcmp, 1) := bdX9_ledWord_36.2.2.2.2.2.2.2.2.2.1
theorem dX9_ledWord_58 : decode cX9_ledWord 58 = .ok (.ifCond .gt 6, 3) := bdX9_ledWord_36.2.2.2.2.2.2.2.2.2.2.1
theorem dX9_ledWord_61 : decode cX9_ledWord 61 = .ok (.bipush (-2), 2) := bdX9_ledWord_36.2.2.2.2.2.2.2.2.2.2.2.1
theorem dX9_ledWord_63 : decode cX9_ledWord 63 = .ok (.ireturn, 1) := bdX9_ledWord_36.2.2.2.2.2.2.2.2.2.2.2.2.1
theorem dX9_ledWord_64 : decode cX9_ledWord 64 = .ok (.iconst 0, 1) := bdX9_ledWord_36.2.2.2.2.2.2.2.2.2.2.2.2.2.1
theorem dX9_ledWord_65 : decode cX9_ledWord 65 = .ok (.istore_n 1, 1) := bdX9_ledWord_36.2.2.2.2.2.2.2.2.2.2.2.2.2.2.1
theorem dX9_ledWord_66 : decode cX9_ledWord 66 = .ok (.iconst 0, 1) := bdX9_ledWord_36.2.2.2.2.2.2.2.2.2.2.2.2.2.2.2
theorem bdX9_ledWord_67 : (decode cX9_ledWord 67 = .ok (.istore_n 2, 1)) ∧ (decode cX9_ledWord 68 = .ok (.iload_n 2, 1)) ∧ (decode cX9_ledWord 69 = .ok (.aload_n 0, 1)) ∧ (decode cX9_ledWord 70 = .ok (.getfield 12, 3)) ∧ (decode cX9_ledWord 73 = .ok (.getfield 106, 3)) ∧ (decode cX9_ledWord 76 = .ok (.if_icmp .ge 89, 3)) ∧ (decode cX9_ledWord 79 = .ok (.lconst 0, 1)) ∧ (decode cX9_ledWord 80 = .ok (.lstore_n 3, 1)) ∧ (decode cX9_ledWord 81 = .ok (.iconst 0, 1)) ∧ (decode cX9_ledWord 82 = .ok (.istore 5, 2)) ∧ (decode cX9_ledWord 84 = .ok (.iload 5, 2)) ∧ (decode cX9_ledWord 86 = .ok (.aload_n 0, 1)) ∧ (decode cX9_ledWord 87 = .ok (.getfield 12, 3)) ∧ (decode cX9_ledWord 90 = .ok (.getfield 106, 3)) ∧ (decode cX9_ledWord 93 = .ok (.if_icmp .ge 46, 3)) ∧ (decode cX9_ledWord 96 = .ok (.lload_n 3, 1)) := by decide +kernel
theorem dX9_ledWord_67 : decode cX9_ledWord 67 = .ok (.istore_n 2, 1) := bdX9_ledWord_67.1
theorem dX9_ledWord_68 : decode cX9_ledWord 68 = .ok (.iload_n 2, 1) := bdX9_ledWord_67.2.1
theorem dX9_ledWord_69 : decode cX9_ledWord 69 = .ok (.aload_n 0, 1) := bdX9_ledWord_67.2.2.1
theorem dX9_ledWord_70 : decode cX9_ledWord 70 = .ok (.getfield 12, 3) := bdX9_ledWord_67.2.2.2.1
theorem dX9_ledWord_73 : decode cX9_ledWord 73 = .ok (.getfield 106, 3) := bdX9_ledWord_67.2.2.2.2.1
theorem dX9_ledWord_76 : decode cX9_ledWord 76 = .ok (.if_icmp .ge 89, 3) := bdX9_ledWord_67.2.2.2.2.2.1
theorem dX9_ledWord_79 : decode cX9_ledWord 79 = .ok (.lconst 0, 1) := bdX9_ledWord_67.2.2.2.2.2.2.1
theorem dX9_ledWord_80 : decode cX9_ledWord 80 = .ok (.lstore_n 3, 1) := bdX9_ledWord_67.2.2.2.2.2.2.2.1
theorem dX9_ledWord_81 : decode cX9_ledWord 81 = .ok (.iconst 0, 1) := bdX9_ledWord_67.2.2.2.2.2.2.2.2.1
theorem dX9_ledWord_82 : decode cX9_ledWord 82 = .ok (.istore 5, 2) := bdX9_ledWord_67.2.2.2.2.2.2.2.2.2.1
theorem dX9_ledWord_84 : decode cX9_ledWord 84 = .ok (.iload 5, 2) := bdX9_ledWord_67.2.2.2.2.2.2.2.2.2.2.1
theorem dX9_ledWord_86 : decode cX9_ledWord 86 = .ok (.aload_n 0, 1) := bdX9_ledWord_67.2.2.2.2.2.2.2.2.2.2.2.1
theorem dX9_ledWord_87 : decode cX9_ledWord 87 = .ok (.getfield 12, 3) := bdX9_ledWord_67.2.2.2.2.2.2.2.2.2.2.2.2.1
theorem dX9_ledWord_90 : decode cX9_ledWord 90 = .ok (.getfield 106, 3) := bdX9_ledWord_67.2.2.2.2.2.2.2.2.2.2.2.2.2.1
theorem dX9_ledWord_93 : decode cX9_ledWord 93 = .ok (.if_icmp .ge 46, 3) := bdX9_ledWord_67.2.2.2.2.2.2.2.2.2.2.2.2.2.2.1
theorem dX9_ledWord_96 : decode cX9_ledWord 96 = .ok (.lload_n 3, 1) := bdX9_ledWord_67.2.2.2.2.2.2.2.2.2.2.2.2.2.2.2
theorem bdX9_ledWord_97 : (decode cX9_ledWord 97 = .ok (.aload_n 0, 1)) ∧ (decode cX9_ledWord 98 = .ok (.getfield 65, 3)) ∧ (decode cX9_ledWord 101 = .ok (.getfield 243, 3)) ∧ (decode cX9_ledWord 104 = .ok (.iload_n 2, 1)) ∧ (decode cX9_ledWord 105 = .ok (.aaload, 1)) ∧ (decode cX9_ledWord 106 = .ok (.iload 5, 2)) ∧ (decode cX9_ledWord 108 = .ok (.iaload, 1)) ∧ (decode cX9_ledWord 109 = .ok (.i2l, 1)) ∧ (decode cX9_ledWord 110 = .ok (.aload_n 0, 1)) ∧ (decode cX9_ledWord 111 = .ok (.getfield 51, 3)) ∧ (decode cX9_ledWord 114 = .ok (.getfield 196, 3)) ∧ (decode cX9_ledWord 117 = .ok (.iload 5, 2)) ∧ (decode cX9_ledWord 119 = .ok (.laload, 1)) ∧ (decode cX9_ledWord 120 = .ok (.aload_n 0, 1)) ∧ (decode cX9_ledWord 121 = .ok (.getfield 51, 3)) ∧ (decode cX9_ledWord 124 = .ok (.getfield 192, 3)) := by decide +kernel
theorem dX9_ledWord_97 : decode cX9_ledWord 97 = .ok (.aload_n 0, 1) := bdX9_ledWord_97.1
theorem dX9_ledWord_98 : decode cX9_ledWord 98 = .ok (.getfield 65, 3) := bdX9_ledWord_97.2.1
theorem dX9_ledWord_101 : decode cX9_ledWord 101 = .ok (.getfield 243, 3) := bdX9_ledWord_97.2.2.1
theorem dX9_ledWord_104 : decode cX9_ledWord 104 = .ok (.iload_n 2, 1) := bdX9_ledWord_97.2.2.2.1
theorem dX9_ledWord_105 : decode cX9_ledWord 105 = .ok (.aaload, 1) := bdX9_ledWord_97.2.2.2.2.1
theorem dX9_ledWord_106 : decode cX9_ledWord 106 = .ok (.iload 5, 2) := bdX9_ledWord_97.2.2.2.2.2.1
theorem dX9_ledWord_108 : decode cX9_ledWord 108 = .ok (.iaload, 1) := bdX9_ledWord_97.2.2.2.2.2.2.1
theorem dX9_ledWord_109 : decode cX9_ledWord 109 = .ok (.i2l, 1) := bdX9_ledWord_97.2.2.2.2.2.2.2.1
theorem dX9_ledWord_110 : decode cX9_ledWord 110 = .ok (.aload_n 0, 1) := bdX9_ledWord_97.2.2.2.2.2.2.2.2.1
theorem dX9_ledWord_111 : decode cX9_ledWord 111 = .ok (.getfield 51, 3) := bdX9_ledWord_97.2.2.2.2.2.2.2.2.2.1
theorem dX9_ledWord_114 : decode cX9_ledWord 114 = .ok (.getfield 196, 3) := bdX9_ledWord_97.2.2.2.2.2.2.2.2.2.2.1
theorem dX9_ledWord_117 : decode cX9_ledWord 117 = .ok (.iload 5, 2) := bdX9_ledWord_97.2.2.2.2.2.2.2.2.2.2.2.1
theorem dX9_ledWord_119 : decode cX9_ledWord 119 = .ok (.laload, 1) := bdX9_ledWord_97.2.2.2.2.2.2.2.2.2.2.2.2.1
theorem dX9_ledWord_120 : decode cX9_ledWord 120 = .ok (.aload_n 0, 1) := bdX9_ledWord_97.2.2.2.2.2.2.2.2.2.2.2.2.2.1
theorem dX9_ledWord_121 : decode cX9_ledWord 121 = .ok (.getfield 51, 3) := bdX9_ledWord_97.2.2.2.2.2.2.2.2.2.2.2.2.2.2.1
theorem dX9_ledWord_124 : decode cX9_ledWord 124 = .ok (.getfield 192, 3) := bdX9_ledWord_97.2.2.2.2.2.2.2.2.2.2.2.2.2.2.2
theorem bdX9_ledWord_127 : (decode cX9_ledWord 127 = .ok (.invokestatic 252, 3)) ∧ (decode cX9_ledWord 130 = .ok (.lmul, 1)) ∧ (decode cX9_ledWord 131 = .ok (.ladd, 1)) ∧ (decode cX9_ledWord 132 = .ok (.lstore_n 3, 1)) ∧ (decode cX9_ledWord 133 = .ok (.iinc 5 1, 3)) ∧ (decode cX9_ledWord 136 = .ok (.goto (-52), 3)) ∧ (decode cX9_ledWord 139 = .ok (.aload_n 0, 1)) ∧ (decode cX9_ledWord 140 = .ok (.getfield 12, 3)) ∧ (decode cX9_ledWord 143 = .ok (.iload_n 1, 1)) ∧ (decode cX9_ledWord 144 = .ok (.lload_n 3, 1)) ∧ (decode cX9_ledWord 145 = .ok (.aload_n 0, 1)) ∧ (decode cX9_ledWord 146 = .ok (.getfield 12, 3)) ∧ (decode cX9_ledWord 149 = .ok (.getfield 83, 3)) ∧ (decode cX9_ledWord 152 = .ok (.invokestatic 255, 3)) ∧ (decode cX9_ledWord 155 = .ok (.invokevirtual 204, 3)) ∧ (decode cX9_ledWord 158 = .ok (.istore_n 1, 1)) := by decide +kernel
theorem dX9_ledWord_127 : decode cX9_ledWord 127 = .ok (.invokestatic 252, 3) := bdX9_ledWord_127.1
theorem dX9_ledWord_130 : decode cX9_ledWord 130 = .ok (.lmul, 1) := bdX9_ledWord_127.2.1
theorem dX9_ledWord_131 : decode cX9_ledWord 131 = .ok (.ladd, 1) := bdX9_ledWord_127.2.2.1
theorem dX9_ledWord_132 : decode cX9_ledWord 132 = .ok (.lstore_n 3, 1) := bdX9_ledWord_127.2.2.2.1
theorem dX9_ledWord_133 : decode cX9_ledWord 133 = .ok (.iinc 5 1, 3) := bdX9_ledWord_127.2.2.2.2.1
theorem dX9_ledWord_136 : decode cX9_ledWord 136 = .ok (.goto (-52), 3) := bdX9_ledWord_127.2.2.2.2.2.1
theorem dX9_ledWord_139 : decode cX9_ledWord 139 = .ok (.aload_n 0, 1) := bdX9_ledWord_127.2.2.2.2.2.2.1
theorem dX9_ledWord_140 : decode cX9_ledWord 140 = .ok (.getfield 12, 3) := bdX9_ledWord_127.2.2.2.2.2.2.2.1
theorem dX9_ledWord_143 : decode cX9_ledWord 143 = .ok (.iload_n 1, 1) := bdX9_ledWord_127.2.2.2.2.2.2.2.2.1
theorem dX9_ledWord_144 : decode cX9_ledWord 144 = .ok (.lload_n 3, 1) := bdX9_ledWord_127.2.2.2.2.2.2.2.2.2.1
theorem dX9_ledWord_145 : decode cX9_ledWord 145 = .ok (.aload_n 0, 1) := bdX9_ledWord_127.2.2.2.2.2.2.2.2.2.2.1
theorem dX9_ledWord_146 : decode cX9_ledWord 146 = .ok (.getfield 12, 3) := bdX9_ledWord_127.2.2.2.2.2.2.2.2.2.2.2.1
theorem dX9_ledWord_149 : decode cX9_ledWord 149 = .ok (.getfield 83, 3) := bdX9_ledWord_127.2.2.2.2.2.2.2.2.2.2.2.2.1
theorem dX9_ledWord_152 : decode cX9_ledWord 152 = .ok (.invokestatic 255, 3) := bdX9_ledWord_127.2.2.2.2.2.2.2.2.2.2.2.2.2.1
theorem dX9_ledWord_155 : decode cX9_ledWord 155 = .ok (.invokevirtual 204, 3) := bdX9_ledWord_127.2.2.2.2.2.2.2.2.2.2.2.2.2.2.1
theorem dX9_ledWord_158 : decode cX9_ledWord 158 = .ok (.istore_n 1, 1) := bdX9_ledWord_127.2.2.2.2.2.2.2.2.2.2.2.2.2.2.2
theorem bdX9_ledWord_159 : (decode cX9_ledWord 159 = .ok (.iinc 2 1, 3)) ∧ (decode cX9_ledWord 162 = .ok (.goto (-94), 3)) ∧ (decode cX9_ledWord 165 = .ok (.iload_n 1, 1)) ∧ (decode cX9_ledWord 166 = .ok (.ireturn, 1)) := by decide +kernel
theorem dX9_ledWord_159 : decode cX9_ledWord 159 = .ok (.iinc 2 1, 3) := bdX9_ledWord_159.1
theorem dX9_ledWord_162 : decode cX9_ledWord 162 = .ok (.goto (-94), 3) := bdX9_ledWord_159.2.1
theorem dX9_ledWord_165 : decode cX9_ledWord 165 = .ok (.iload_n 1, 1) := bdX9_ledWord_159.2.2.1
theorem dX9_ledWord_166 : decode cX9_ledWord 166 = .ok (.ireturn, 1) := bdX9_ledWord_159.2.2.2
set_option maxHeartbeats 4000000 in
set_option maxRecDepth 100000 in
theorem k_X9_ledWord (l : Launch) (dC : Nat → ClassId) (dI : Nat → Nat → Nat) (h : Nat → Nat) (cs : Nat → ClassId) (sz : Nat) (I : Nat → Int32) (L : Nat → Int64) (A : Nat → Nat → Int32) (Q : Nat → Nat → Int64) (G : Nat → Nat → Nat → Int32) (J : Nat → Nat → Nat → Int64) (R M a : Nat) (hR : I 120 = nI R) (hR1 : 1 ≤ R) (hR5 : R ≤ 5) (hM : I 121 = nI M) (hM1 : 1 ≤ M) (hM4 : M ≤ 4) (ha : I 122 = nI a) (ha2 : a = 2 ∨ a = 4) : Met l yX9_ledWord wsX9_ledWord ({ frames := 6, cells := 0, slots := 0, locals := 166 }) (va_Pc [.ref (h 100)] (xPre (dC, dI) (wFW h cs I L A Q G J) (tysA cs) sz)) (va_Qi (fun (r : Int32) (u : CS) => ∃ i212 : Int32, ∃ i213 : Int32, ∃ l188 : Int64, ∃ a211 : Nat → Int32, ∃ q185 : Nat → Int64, ∃ q187 : Nat → Int64, ∃ g2 : Nat → Nat → Int32, ∃ g3 : Nat → Nat → Int32, ∃ j0 : Nat → Nat → Int64, (True) ∧ u = ((va_up (va_up I 212 i212) 213 i213), (va_up L 188 l188), (va_up A 211 a211), (va_up (va_up Q 185 q185) 187 q187), (va_up (va_up G 2 g2) 3 g3), (va_up J 0 j0))) (xB (dC, dI) (tysA cs) (va_A (wFW h cs I L A Q G J) sz) (fun u : CS => wFW h cs u.1 u.2.1 u.2.2.1 u.2.2.2.1 u.2.2.2.2.1 u.2.2.2.2.2)) (va_A (wFW h cs I L A Q G J) sz)) 0 0 (va_A (wFW h cs I L A Q G J) sz) := by
  refine Met.ofW (cc := cX9_ledWord) (maxL := 6) (ret := (some .int)) (by decide) rfl ?_
  intro p e s m args below meth c s₁ B hml hv
  obtain ⟨rfl, hsz, hP, hK, hD0, hN⟩ := hv
  have hx := B.exec
  have hb := B.bytes
  have hr := B.returns
  have hts := atoms_spec (ws := wsX9_ledWord) B.pre
  have hown : s.vm.findClass RX9 = some m.cls := findClass_of_methodNamed B.named
  have hlocks := B.notSynchronized
  subst hsz
  have hD := hD0.self (sz := s.heap.size)
  generalize hAe : va_A (wFW h cs I L A Q G J) s.heap.size = A0 at hD ⊢
  have hA : ∀ q : Nat, s.heap.size ≤ q → A0 q := fun q h => by rw [← hAe]; exact Or.inr h
  have hl := lv_entry ([.ref (h 100)]) (n := 6) (Nat.le_of_ble_eq_true rfl)
  rw [lg_entry_eq]
  generalize (lg_sl ([.ref (h 100)]) ++ List.replicate (6 - (lg_sl ([.ref (h 100)])).length) Slot.unset).toArray = ls at hl ⊢
  have hl : lv_has ls 6 [(0, .ref (h 100))] := hl
  generalize hH : s.heap = H at hP ⊢
  have hS : va_S A0 s.heap H [] := by rw [← hH]; exact va_S.rf
  have hinX9 : ∀ w ∈ wsX90, w ∈ wsX9_ledWord := by decide +kernel
  have hinX1 : ∀ w ∈ wsX10, w ∈ wsX9_ledWord := by decide +kernel
  have hinX3 : ∀ w ∈ wsX30, w ∈ wsX9_ledWord := by decide +kernel
  have hinX2 : ∀ w ∈ wsX20, w ∈ wsX9_ledWord := by decide +kernel
  refine lv_aload_n hx hb dX9_ledWord_0 rfl (lv_at hl 0 rfl) ?_
  refine va_get (D := (dC, dI)) (ci := 9) (v := .ref (h 108)) (C := RX9) (T := TX9) (N := 9) hx hb hts hinX9 hown hK hP 0 rfl rfl 7 (by decide) (hts (.fieldLink RX9 65 "MixedWords" "leader" "LMixedWords$Leader;") (by decide +kernel)) (fun _ h9 => h9) rfl dX9_ledWord_1 ?_
  refine xj_v (wc := (wLead h cs I L A Q G J)) (wr := [(h 100, .inr (9, [.ref (h 101), .ref (h 102), .ref (h 103), .ref (h 104), .ref (h 105), .ref (h 106), .ref (h 107), .ref (h 108), .ref (h 109)])), (h 106, .inr (2, [.ref (h 180), .ref (h 185), .ref (h 186), .ref (h 187), .long (L 188)])), (h 180, .inl (cs 4, 4, .inr (.inr (.inr (.inr (fun i => if i < 4 then some (h (i + 181)) else none)))))), (h 181, .inl (cs 1, 4, .inr (.inl ((J 0) 0)))), (h 182, .inl (cs 1, 4, .inr (.inl ((J 0) 1)))), (h 183, .inl (cs 1, 4, .inr (.inl ((J 0) 2)))), (h 184, .inl (cs 1, 4, .inr (.inl ((J 0) 3)))), (h 185, .inl (cs 1, 4, .inr (.inl (Q 185)))), (h 186, .inl (cs 0, 4, .inl (A 186))), (h 187, .inl (cs 1, 4, .inr (.inl (Q 187))))]) hP hD hS hA [1, 2, 3, 4, 5, 6, 7, 8, 9, 10, 11, 12, 13, 23, 24, 25, 26, 27, 28, 29, 30] [0, 14, 15, 16, 17, 18, 19, 20, 21, 22] rfl rfl (by decide) (by decide) (va_runV (As := []) (rest := []) ⟨hx, hb, hml, hown, hts⟩ (k_X1_lead l dC dI h cs H.size I L A Q G J R M hR (by first | assumption | omega | exact hR1) (by first | assumption | omega | exact hR5) hM (by first | assumption | omega | exact hM1) (by first | assumption | omega | exact hM4)) (cwV 0 hts gX9_ledWord_X1_lead rfl rfl rfl (by decide +kernel) ⟨Nat.le_of_ble_eq_true rfl, Nat.le_of_ble_eq_true rfl⟩) (xpV (wc := (wLead h cs I L A Q G J)) hP hD hK hN [1, 2, 3, 4, 5, 6, 7, 8, 9, 10, 11, 12, 13, 23, 24, 25, 26, 27, 28, 29, 30] rfl (by decide) 1 (ci := 1) rfl rfl _) rfl rfl hl.1 rfl (lv_room (Nat.le_of_ble_eq_true rfl)) dX9_ledWord_4 ⟨Nat.zero_le _, Nat.zero_le _⟩) (fun u_1 H locs hw hP hD hS => ?_)
  obtain ⟨i212_3, i213_4, g2_5, g3_6, hf_7, rfl⟩ := hw
  have hP : va_P (dC, dI) vwCl (wFW h cs (va_up (va_up I 212 i212_3) 213 i213_4) L A Q (va_up (va_up G 2 g2_5) 3 g3_6) J) H := xP_sub hP [0, 10, 11, 12, 13, 14, 15, 16, 17, 18, 19, 20, 21, 22, 1, 2, 3, 4, 5, 6, 7, 8, 9, 23, 24, 25, 26, 27, 28, 29, 30] rfl
  have hD : va_D A0 (wFW h cs (va_up (va_up I 212 i212_3) 213 i213_4) L A Q (va_up (va_up G 2 g2_5) 3 g3_6) J) := hD.sub [0, 10, 11, 12, 13, 14, 15, 16, 17, 18, 19, 20, 21, 22, 1, 2, 3, 4, 5, 6, 7, 8, 9, 23, 24, 25, 26, 27, 28, 29, 30] (by decide) rfl
  refine lv_aload_n hx hb dX9_ledWord_7 rfl (lv_at hl 0 rfl) ?_
  refine va_get (D := (dC, dI)) (ci := 9) (v := .ref (h 108)) (C := RX9) (T := TX9) (N := 9) hx hb hts hinX9 hown hK hP 0 rfl rfl 7 (by decide) (hts (.fieldLink RX9 65 "MixedWords" "leader" "LMixedWords$Leader;") (by decide +kernel)) (fun _ h9 => h9) rfl dX9_ledWord_8 ?_
  refine xj_v (wc := (wLead h cs (va_up (va_up I 212 i212_3) 213 i213_4) L A Q (va_up (va_up G 2 g2_5) 3 g3_6) J)) (wr := [(h 100, .inr (9, [.ref (h 101), .ref (h 102), .ref (h 103), .ref (h 104), .ref (h 105), .ref (h 106), .ref (h 107), .ref (h 108), .ref (h 109)])), (h 106, .inr (2, [.ref (h 180), .ref (h 185), .ref (h 186), .ref (h 187), .long (L 188)])), (h 180, .inl (cs 4, 4, .inr (.inr (.inr (.inr (fun i => if i < 4 then some (h (i + 181)) else none)))))), (h 181, .inl (cs 1, 4, .inr (.inl ((J 0) 0)))), (h 182, .inl (cs 1, 4, .inr (.inl ((J 0) 1)))), (h 183, .inl (cs 1, 4, .inr (.inl ((J 0) 2)))), (h 184, .inl (cs 1, 4, .inr (.inl ((J 0) 3)))), (h 185, .inl (cs 1, 4, .inr (.inl (Q 185)))), (h 186, .inl (cs 0, 4, .inl (A 186))), (h 187, .inl (cs 1, 4, .inr (.inl (Q 187))))]) hP hD hS hA [1, 2, 3, 4, 5, 6, 7, 8, 9, 10, 11, 12, 13, 23, 24, 25, 26, 27, 28, 29, 30] [0, 14, 15, 16, 17, 18, 19, 20, 21, 22] rfl rfl (by decide) (by decide) (va_runV (As := []) (rest := []) ⟨hx, hb, hml, hown, hts⟩ (k_X1_aim l dC dI h cs H.size (va_up (va_up I 212 i212_3) 213 i213_4) L A Q (va_up (va_up G 2 g2_5) 3 g3_6) J R M a hR (by first | assumption | omega | exact hR1) (by first | assumption | omega | exact hR5) hM (by first | assumption | omega | exact hM1) (by first | assumption | omega | exact hM4) ha (by first | assumption | omega | exact ha2)) (cwV 0 hts gX9_ledWord_X1_aim rfl rfl rfl (by decide +kernel) ⟨Nat.le_of_ble_eq_true rfl, Nat.le_of_ble_eq_true rfl⟩) (xpV (wc := (wLead h cs (va_up (va_up I 212 i212_3) 213 i213_4) L A Q (va_up (va_up G 2 g2_5) 3 g3_6) J)) hP hD hK hN [1, 2, 3, 4, 5, 6, 7, 8, 9, 10, 11, 12, 13, 23, 24, 25, 26, 27, 28, 29, 30] rfl (by decide) 1 (ci := 1) rfl rfl _) rfl rfl hl.1 rfl (lv_room (Nat.le_of_ble_eq_true rfl)) dX9_ledWord_11 ⟨Nat.zero_le _, Nat.zero_le _⟩) (fun u_8 H locs hw hP hD hS => ?_)
  obtain ⟨a211_10, hf_11, rfl⟩ := hw
  have hP : va_P (dC, dI) vwCl (wFW h cs (va_up (va_up I 212 i212_3) 213 i213_4) L (va_up A 211 a211_10) Q (va_up (va_up G 2 g2_5) 3 g3_6) J) H := xP_sub hP [0, 10, 11, 12, 13, 14, 15, 16, 17, 18, 19, 20, 21, 22, 1, 2, 3, 4, 5, 6, 7, 8, 9, 23, 24, 25, 26, 27, 28, 29, 30] rfl
  have hD : va_D A0 (wFW h cs (va_up (va_up I 212 i212_3) 213 i213_4) L (va_up A 211 a211_10) Q (va_up (va_up G 2 g2_5) 3 g3_6) J) := hD.sub [0, 10, 11, 12, 13, 14, 15, 16, 17, 18, 19, 20, 21, 22, 1, 2, 3, 4, 5, 6, 7, 8, 9, 23, 24, 25, 26, 27, 28, 29, 30] (by decide) rfl
  refine lv_aload_n hx hb dX9_ledWord_14 rfl (lv_at hl 0 rfl) ?_
  refine va_get (D := (dC, dI)) (ci := 9) (v := .ref (h 106)) (C := RX9) (T := TX9) (N := 9) hx hb hts hinX9 hown hK hP 0 rfl rfl 5 (by decide) (hts (.fieldLink RX9 51 "MixedWords" "least" "LMixedWords$Least;") (by decide +kernel)) (fun _ h9 => h9) rfl dX9_ledWord_15 ?_
  refine lv_aload_n hx hb dX9_ledWord_18 rfl (lv_at hl 0 rfl) ?_
  refine va_get (D := (dC, dI)) (ci := 9) (v := .ref (h 108)) (C := RX9) (T := TX9) (N := 9) hx hb hts hinX9 hown hK hP 0 rfl rfl 7 (by decide) (hts (.fieldLink RX9 65 "MixedWords" "leader" "LMixedWords$Leader;") (by decide +kernel)) (fun _ h9 => h9) rfl dX9_ledWord_19 ?_
  refine va_get (D := (dC, dI)) (ci := 1) (v := .ref (h 200)) (C := RX1) (T := TX1) (N := 6) hx hb hts hinX1 hown hK hP 1 rfl rfl 1 (by decide) (hts (.fieldLink RX9 240 "MixedWords$Leader" "columns" "[[I") (by decide +kernel)) (fun _ h9 => h9) rfl dX9_ledWord_22 ?_
  refine lv_aload_n hx hb dX9_ledWord_25 rfl (lv_at hl 0 rfl) ?_
  refine va_get (D := (dC, dI)) (ci := 9) (v := .ref (h 108)) (C := RX9) (T := TX9) (N := 9) hx hb hts hinX9 hown hK hP 0 rfl rfl 7 (by decide) (hts (.fieldLink RX9 65 "MixedWords" "leader" "LMixedWords$Leader;") (by decide +kernel)) (fun _ h9 => h9) rfl dX9_ledWord_26 ?_
  refine va_get (D := (dC, dI)) (ci := 1) (v := .ref (h 211)) (C := RX1) (T := TX1) (N := 6) hx hb hts hinX1 hown hK hP 1 rfl rfl 3 (by decide) (hts (.fieldLink RX9 249 "MixedWords$Leader" "target" "[I") (by decide +kernel)) (fun _ h9 => h9) rfl dX9_ledWord_29 ?_
  refine lv_aload_n hx hb dX9_ledWord_32 rfl (lv_at hl 0 rfl) ?_
  refine va_get (D := (dC, dI)) (ci := 9) (v := .ref (h 101)) (C := RX9) (T := TX9) (N := 9) hx hb hts hinX9 hown hK hP 0 rfl rfl 0 (by decide) (hts (.fieldLink RX9 12 "MixedWords" "mix" "LMixedWords$Mix;") (by decide +kernel)) (fun _ h9 => h9) rfl dX9_ledWord_33 ?_
  refine va_get (D := (dC, dI)) (ci := 3) (v := .int (I 120)) (C := RX3) (T := TX3) (N := 6) hx hb hts hinX3 hown hK hP 23 rfl rfl 0 (by decide) (hts (.fieldLink RX9 147 "MixedWords$Mix" "height" "I") (by decide +kernel)) (fun _ h9 => h9) rfl dX9_ledWord_36 ?_
  refine xt_i (y := nI R) (hR) ?_
  refine lv_aload_n hx hb dX9_ledWord_39 rfl (lv_at hl 0 rfl) ?_
  refine va_get (D := (dC, dI)) (ci := 9) (v := .ref (h 101)) (C := RX9) (T := TX9) (N := 9) hx hb hts hinX9 hown hK hP 0 rfl rfl 0 (by decide) (hts (.fieldLink RX9 12 "MixedWords" "mix" "LMixedWords$Mix;") (by decide +kernel)) (fun _ h9 => h9) rfl dX9_ledWord_40 ?_
  refine va_get (D := (dC, dI)) (ci := 3) (v := .int (I 121)) (C := RX3) (T := TX3) (N := 6) hx hb hts hinX3 hown hK hP 23 rfl rfl 1 (by decide) (hts (.fieldLink RX9 106 "MixedWords$Mix" "width" "I") (by decide +kernel)) (fun _ h9 => h9) rfl dX9_ledWord_43 ?_
  refine xt_i (y := nI M) (hM) ?_
  refine xj_v (wc := (wSl h cs (va_up (va_up I 212 i212_3) 213 i213_4) L (va_up A 211 a211_10) Q (va_up (va_up G 2 g2_5) 3 g3_6) J)) (wr := [(h 100, .inr (9, [.ref (h 101), .ref (h 102), .ref (h 103), .ref (h 104), .ref (h 105), .ref (h 106), .ref (h 107), .ref (h 108), .ref (h 109)])), (h 108, .inr (1, [.ref (h 101), .ref (h 200), .ref (h 206), .ref (h 211), .int (i212_3), .int (i213_4)])), (h 206, .inl (cs 3, 4, .inr (.inr (.inr (.inr (fun i => if i < 4 then some (h (i + 207)) else none)))))), (h 207, .inl (cs 0, 4, .inl (g3_6 0))), (h 208, .inl (cs 0, 4, .inl (g3_6 1))), (h 209, .inl (cs 0, 4, .inl (g3_6 2))), (h 210, .inl (cs 0, 4, .inl (g3_6 3))), (h 101, .inr (3, [.int (I 120), .int (I 121), .int (I 122), .int (I 123), .ref (h 130), .ref (h 136)])), (h 130, .inl (cs 3, 5, .inr (.inr (.inr (.inr (fun i => if i < 5 then some (h (i + 131)) else none)))))), (h 131, .inl (cs 0, 4, .inl ((G 0) 0))), (h 132, .inl (cs 0, 4, .inl ((G 0) 1))), (h 133, .inl (cs 0, 4, .inl ((G 0) 2))), (h 134, .inl (cs 0, 4, .inl ((G 0) 3))), (h 135, .inl (cs 0, 4, .inl ((G 0) 4))), (h 136, .inl (cs 0, 5, .inl (A 136)))]) hP hD hS hA [14, 15, 16, 17, 18, 19, 20, 21, 22, 2, 3, 4, 5, 6, 7, 13] [0, 1, 8, 9, 10, 11, 12, 23, 24, 25, 26, 27, 28, 29, 30] rfl rfl (by decide) (by decide) (va_runV (As := [.ref (h 200), .ref (h 211), .int (nI R), .int (nI M)]) (rest := []) ⟨hx, hb, hml, hown, hts⟩ (k_X2_solveL l dC dI h cs H.size (va_up (va_up I 212 i212_3) 213 i213_4) L (va_up A 211 a211_10) Q (va_up (va_up G 2 g2_5) 3 g3_6) J R M (by first | assumption | omega | exact hR5) (by first | assumption | omega | exact hM4)) (cwV 4 hts gX9_ledWord_X2_solve rfl rfl rfl (by decide +kernel) ⟨Nat.le_of_ble_eq_true rfl, Nat.le_of_ble_eq_true rfl⟩) (xpV (wc := (wSl h cs (va_up (va_up I 212 i212_3) 213 i213_4) L (va_up A 211 a211_10) Q (va_up (va_up G 2 g2_5) 3 g3_6) J)) hP hD hK hN [14, 15, 16, 17, 18, 19, 20, 21, 22, 2, 3, 4, 5, 6, 7, 13] rfl (by decide) 14 (ci := 2) rfl rfl _) rfl rfl hl.1 rfl (lv_room (Nat.le_of_ble_eq_true rfl)) dX9_ledWord_46 ⟨Nat.zero_le _, Nat.zero_le _⟩) (fun u_12 H locs hw hP hD hS => ?_)
  obtain ⟨l188_14, q185_15, q187_16, j0_17, hf_18, rfl⟩ := hw
  have hP : va_P (dC, dI) vwCl (wFW h cs (va_up (va_up I 212 i212_3) 213 i213_4) (va_up L 188 l188_14) (va_up A 211 a211_10) (va_up (va_up Q 185 q185_15) 187 q187_16) (va_up (va_up G 2 g2_5) 3 g3_6) (va_up J 0 j0_17)) H := xP_sub hP [0, 1, 24, 25, 26, 27, 28, 29, 2, 3, 4, 5, 6, 30, 15, 16, 17, 18, 19, 20, 21, 22, 23, 7, 8, 9, 10, 11, 12, 13, 14] rfl
  have hD : va_D A0 (wFW h cs (va_up (va_up I 212 i212_3) 213 i213_4) (va_up L 188 l188_14) (va_up A 211 a211_10) (va_up (va_up Q 185 q185_15) 187 q187_16) (va_up (va_up G 2 g2_5) 3 g3_6) (va_up J 0 j0_17)) := hD.sub [0, 1, 24, 25, 26, 27, 28, 29, 2, 3, 4, 5, 6, 30, 15, 16, 17, 18, 19, 20, 21, 22, 23, 7, 8, 9, 10, 11, 12, 13, 14] (by decide) rfl
  refine lv_aload_n hx hb dX9_ledWord_49 rfl (lv_at hl 0 rfl) ?_
  refine va_get (D := (dC, dI)) (ci := 9) (v := .ref (h 106)) (C := RX9) (T := TX9) (N := 9) hx hb hts hinX9 hown hK hP 0 rfl rfl 5 (by decide) (hts (.fieldLink RX9 51 "MixedWords" "least" "LMixedWords$Least;") (by decide +kernel)) (fun _ h9 => h9) rfl dX9_ledWord_50 ?_
  refine va_get (D := (dC, dI)) (ci := 2) (v := .long l188_14) (C := RX2) (T := TX2) (N := 5) hx hb hts hinX2 hown hK hP 14 rfl rfl 4 (by decide) (hts (.fieldLink RX9 192 "MixedWords$Least" "below" "J") (by decide +kernel)) (fun _ h9 => h9) rfl dX9_ledWord_53 ?_
  refine lv_lconst (v := 0) hx hb dX9_ledWord_56 rfl ?_
  refine xl_gt (tgt := 64) hx hb dX9_ledWord_57 dX9_ledWord_58 (by decide) (fun c_57_18 => ?_) (fun c_57_18 => ?_)
  · skip
    refine lv_iconst (v := nI 0) hx hb dX9_ledWord_64 (by decide) ?_
    refine lv_istore_n (lv' := [(1, .int (nI 0)), (0, .ref (h 100))]) hx hb dX9_ledWord_65 rfl hl (by decide) rfl (fun ls hl => ?_)
    refine lv_iconst (v := nI 0) hx hb dX9_ledWord_66 (by decide) ?_
    refine lv_istore_n (lv' := [(2, .int (nI 0)), (1, .int (nI 0)), (0, .ref (h 100))]) hx hb dX9_ledWord_67 rfl hl (by decide) rfl (fun ls hl => ?_)
    have cut_68 : ∀ (nf : Nat) (k : Nat) (z1 : Int32), (M - k) < nf → (k ≤ M) → ∀ (H : Heap) (locs : List Loc) (ls : Array Slot), va_P (dC, dI) vwCl (wFW h cs (va_up (va_up I 212 i212_3) 213 i213_4) (va_up L 188 l188_14) (va_up A 211 a211_10) (va_up (va_up Q 185 q185_15) 187 q187_16) (va_up (va_up G 2 g2_5) 3 g3_6) (va_up J 0 j0_17)) H → va_D A0 (wFW h cs (va_up (va_up I 212 i212_3) 213 i213_4) (va_up L 188 l188_14) (va_up A 211 a211_10) (va_up (va_up Q 185 q185_15) 187 q187_16) (va_up (va_up G 2 g2_5) 3 g3_6) (va_up J 0 j0_17)) → va_S A0 s.heap H locs → lv_has ls 6 [(0, .ref (h 100)), (1, .int z1), (2, .int (nI k))] → W p l e (headSpec wsX9_ledWord ({ frames := 6, cells := 0, slots := 0, locals := 166 })).room s m ([.ref (h 100)] : List Value).toArray below meth c H locs 0 0 (MQ below (va_Qi (fun (r : Int32) (u : CS) => ∃ i212 : Int32, ∃ i213 : Int32, ∃ l188 : Int64, ∃ a211 : Nat → Int32, ∃ q185 : Nat → Int64, ∃ q187 : Nat → Int64, ∃ g2 : Nat → Nat → Int32, ∃ g3 : Nat → Nat → Int32, ∃ j0 : Nat → Nat → Int64, (True) ∧ u = ((va_up (va_up I 212 i212) 213 i213), (va_up L 188 l188), (va_up A 211 a211), (va_up (va_up Q 185 q185) 187 q187), (va_up (va_up G 2 g2) 3 g3), (va_up J 0 j0))) (xB (dC, dI) (tysA cs) A0 (fun u : CS => wFW h cs u.1 u.2.1 u.2.2.1 u.2.2.2.1 u.2.2.2.2.1 u.2.2.2.2.2)) A0) ([.ref (h 100)] : List Value).toArray s 0 0 A0) (F0 m 68 ls []) := by
      intro nf
      induction nf with
      | zero => intro k z1 hm; exact absurd hm (Nat.not_lt_zero _)
      | succ nf ih_68 =>
        intro k z1 hm_68 hk68 H locs ls hP hD hS hl
        refine lv_iload_n hx hb dX9_ledWord_68 rfl (lv_at hl 2 rfl) ?_
        refine lv_aload_n hx hb dX9_ledWord_69 rfl (lv_at hl 0 rfl) ?_
        refine va_get (D := (dC, dI)) (ci := 9) (v := .ref (h 101)) (C := RX9) (T := TX9) (N := 9) hx hb hts hinX9 hown hK hP 0 rfl rfl 0 (by decide) (hts (.fieldLink RX9 12 "MixedWords" "mix" "LMixedWords$Mix;") (by decide +kernel)) (fun _ h9 => h9) rfl dX9_ledWord_70 ?_
        refine va_get (D := (dC, dI)) (ci := 3) (v := .int (I 121)) (C := RX3) (T := TX3) (N := 6) hx hb hts hinX3 hown hK hP 23 rfl rfl 1 (by decide) (hts (.fieldLink RX9 106 "MixedWords$Mix" "width" "I") (by decide +kernel)) (fun _ h9 => h9) rfl dX9_ledWord_73 ?_
        refine xt_i (y := nI M) (hM) ?_
        refine xn_ge (tgt := 165) hx hb dX9_ledWord_76 (by decide) (by omega) (by omega) (fun c_76_19 => ?_) (fun c_76_19 => ?_)
        · skip
          refine lv_iload_n hx hb dX9_ledWord_165 rfl (lv_at hl 1 rfl) ?_
          exact xr_i (v := z1) hx hb hr hlocks hK hS dX9_ledWord_166 ((va_up (va_up I 212 i212_3) 213 i213_4), (va_up L 188 l188_14), (va_up A 211 a211_10), (va_up (va_up Q 185 q185_15) 187 q187_16), (va_up (va_up G 2 g2_5) 3 g3_6), (va_up J 0 j0_17)) ⟨i212_3, i213_4, l188_14, a211_10, q185_15, q187_16, g2_5, g3_6, j0_17, trivial, rfl⟩ hP hD
        · skip
          refine lv_lconst (v := 0) hx hb dX9_ledWord_79 rfl ?_
          refine lv_lstore_n (lv' := [(3, .long (0 : Int64)), (0, .ref (h 100)), (1, .int z1), (2, .int (nI k))]) hx hb dX9_ledWord_80 rfl hl (by decide) rfl (fun ls hl => ?_)
          refine lv_iconst (v := nI 0) hx hb dX9_ledWord_81 (by decide) ?_
          refine lv_istore (lv' := [(5, .int (nI 0)), (3, .long (0 : Int64)), (0, .ref (h 100)), (1, .int z1), (2, .int (nI k))]) hx hb dX9_ledWord_82 hl (by decide) rfl (fun ls hl => ?_)
          have cut_84 : ∀ (nf : Nat) (c5 : Nat) (z3 : Int64), (M - c5) < nf → (c5 ≤ M) → ∀ (H : Heap) (locs : List Loc) (ls : Array Slot), va_P (dC, dI) vwCl (wFW h cs (va_up (va_up I 212 i212_3) 213 i213_4) (va_up L 188 l188_14) (va_up A 211 a211_10) (va_up (va_up Q 185 q185_15) 187 q187_16) (va_up (va_up G 2 g2_5) 3 g3_6) (va_up J 0 j0_17)) H → va_D A0 (wFW h cs (va_up (va_up I 212 i212_3) 213 i213_4) (va_up L 188 l188_14) (va_up A 211 a211_10) (va_up (va_up Q 185 q185_15) 187 q187_16) (va_up (va_up G 2 g2_5) 3 g3_6) (va_up J 0 j0_17)) → va_S A0 s.heap H locs → lv_has ls 6 [(0, .ref (h 100)), (1, .int z1), (2, .int (nI k)), (3, .long z3), (5, .int (nI c5))] → W p l e (headSpec wsX9_ledWord ({ frames := 6, cells := 0, slots := 0, locals := 166 })).room s m ([.ref (h 100)] : List Value).toArray below meth c H locs 0 0 (MQ below (va_Qi (fun (r : Int32) (u : CS) => ∃ i212 : Int32, ∃ i213 : Int32, ∃ l188 : Int64, ∃ a211 : Nat → Int32, ∃ q185 : Nat → Int64, ∃ q187 : Nat → Int64, ∃ g2 : Nat → Nat → Int32, ∃ g3 : Nat → Nat → Int32, ∃ j0 : Nat → Nat → Int64, (True) ∧ u = ((va_up (va_up I 212 i212) 213 i213), (va_up L 188 l188), (va_up A 211 a211), (va_up (va_up Q 185 q185) 187 q187), (va_up (va_up G 2 g2) 3 g3), (va_up J 0 j0))) (xB (dC, dI) (tysA cs) A0 (fun u : CS => wFW h cs u.1 u.2.1 u.2.2.1 u.2.2.2.1 u.2.2.2.2.1 u.2.2.2.2.2)) A0) ([.ref (h 100)] : List Value).toArray s 0 0 A0) (F0 m 84 ls []) := by
            intro nf
            induction nf with
            | zero => intro c5 z3 hm; exact absurd hm (Nat.not_lt_zero _)
            | succ nf ih_84 =>
              intro c5 z3 hm_84 hc84 H locs ls hP hD hS hl
              refine lv_iload hx hb dX9_ledWord_84 (lv_at hl 4 rfl) ?_
              refine lv_aload_n hx hb dX9_ledWord_86 rfl (lv_at hl 0 rfl) ?_
              refine va_get (D := (dC, dI)) (ci := 9) (v := .ref (h 101)) (C := RX9) (T := TX9) (N := 9) hx hb hts hinX9 hown hK hP 0 rfl rfl 0 (by decide) (hts (.fieldLink RX9 12 "MixedWords" "mix" "LMixedWords$Mix;") (by decide +kernel)) (fun _ h9 => h9) rfl dX9_ledWord_87 ?_
              refine va_get (D := (dC, dI)) (ci := 3) (v := .int (I 121)) (C := RX3) (T := TX3) (N := 6) hx hb hts hinX3 hown hK hP 23 rfl rfl 1 (by decide) (hts (.fieldLink RX9 106 "MixedWords$Mix" "width" "I") (by decide +kernel)) (fun _ h9 => h9) rfl dX9_ledWord_90 ?_
              refine xt_i (y := nI M) (hM) ?_
              refine xn_ge (tgt := 139) hx hb dX9_ledWord_93 (by decide) (by omega) (by omega) (fun c_93_20 => ?_) (fun c_93_20 => ?_)
              · skip
                refine lv_aload_n hx hb dX9_ledWord_139 rfl (lv_at hl 0 rfl) ?_
                refine va_get (D := (dC, dI)) (ci := 9) (v := .ref (h 101)) (C := RX9) (T := TX9) (N := 9) hx hb hts hinX9 hown hK hP 0 rfl rfl 0 (by decide) (hts (.fieldLink RX9 12 "MixedWords" "mix" "LMixedWords$Mix;") (by decide +kernel)) (fun _ h9 => h9) rfl dX9_ledWord_140 ?_
                refine lv_iload_n hx hb dX9_ledWord_143 rfl (lv_at hl 1 rfl) ?_
                refine lv_lload_n hx hb dX9_ledWord_144 rfl (lv_at hl 3 rfl) ?_
                refine lv_aload_n hx hb dX9_ledWord_145 rfl (lv_at hl 0 rfl) ?_
                refine va_get (D := (dC, dI)) (ci := 9) (v := .ref (h 101)) (C := RX9) (T := TX9) (N := 9) hx hb hts hinX9 hown hK hP 0 rfl rfl 0 (by decide) (hts (.fieldLink RX9 12 "MixedWords" "mix" "LMixedWords$Mix;") (by decide +kernel)) (fun _ h9 => h9) rfl dX9_ledWord_146 ?_
                refine va_get (D := (dC, dI)) (ci := 3) (v := .int (I 122)) (C := RX3) (T := TX3) (N := 6) hx hb hts hinX3 hown hK hP 23 rfl rfl 2 (by decide) (hts (.fieldLink RX9 83 "MixedWords$Mix" "letterCount" "I") (by decide +kernel)) (fun _ h9 => h9) rfl dX9_ledWord_149 ?_
                refine xt_i (y := nI a) (ha) ?_
                refine xj_i (wc := ([] : va_W)) (wr := (wFW h cs (va_up (va_up I 212 i212_3) 213 i213_4) (va_up L 188 l188_14) (va_up A 211 a211_10) (va_up (va_up Q 185 q185_15) 187 q187_16) (va_up (va_up G 2 g2_5) 3 g3_6) (va_up J 0 j0_17))) hP hD hS hA [] [0, 1, 2, 3, 4, 5, 6, 7, 8, 9, 10, 11, 12, 13, 14, 15, 16, 17, 18, 19, 20, 21, 22, 23, 24, 25, 26, 27, 28, 29, 30] rfl rfl (by decide) (by decide) (va_runS (As := [.long z3, .int (nI a)]) (rest := [.int z1, .ref (h 101)]) ⟨hx, hb, hml, hown, hts⟩ (k_X9_held l dC dI h cs H.size I L A Q G J z3 (nI a)) (va_cwS 2 hts gX9_ledWord_X9_held rfl rfl rfl (by decide +kernel) ⟨Nat.le_of_ble_eq_true rfl, Nat.le_of_ble_eq_true rfl⟩) (xpS (wc := ([] : va_W)) hP hD hK hN [] rfl (by decide) _) rfl rfl hl.1 rfl (lv_room (Nat.le_of_ble_eq_true rfl)) dX9_ledWord_152 ⟨Nat.zero_le _, Nat.zero_le _⟩) (fun r_23 u_22 H locs hw hP hD hS => ?_)
                obtain ⟨hf_24, rfl⟩ := hw
                have hP : va_P (dC, dI) vwCl (wFW h cs (va_up (va_up I 212 i212_3) 213 i213_4) (va_up L 188 l188_14) (va_up A 211 a211_10) (va_up (va_up Q 185 q185_15) 187 q187_16) (va_up (va_up G 2 g2_5) 3 g3_6) (va_up J 0 j0_17)) H := hP
                have hD : va_D A0 (wFW h cs (va_up (va_up I 212 i212_3) 213 i213_4) (va_up L 188 l188_14) (va_up A 211 a211_10) (va_up (va_up Q 185 q185_15) 187 q187_16) (va_up (va_up G 2 g2_5) 3 g3_6) (va_up J 0 j0_17)) := hD
                obtain rfl := hf_24
                refine xj_i (wc := (wMix h cs (va_up (va_up I 212 i212_3) 213 i213_4) (va_up L 188 l188_14) (va_up A 211 a211_10) (va_up (va_up Q 185 q185_15) 187 q187_16) (va_up (va_up G 2 g2_5) 3 g3_6) (va_up J 0 j0_17))) (wr := [(h 100, .inr (9, [.ref (h 101), .ref (h 102), .ref (h 103), .ref (h 104), .ref (h 105), .ref (h 106), .ref (h 107), .ref (h 108), .ref (h 109)])), (h 108, .inr (1, [.ref (h 101), .ref (h 200), .ref (h 206), .ref (h 211), .int (i212_3), .int (i213_4)])), (h 200, .inl (cs 3, 5, .inr (.inr (.inr (.inr (fun i => if i < 5 then some (h (i + 201)) else none)))))), (h 201, .inl (cs 0, 4, .inl (g2_5 0))), (h 202, .inl (cs 0, 4, .inl (g2_5 1))), (h 203, .inl (cs 0, 4, .inl (g2_5 2))), (h 204, .inl (cs 0, 4, .inl (g2_5 3))), (h 205, .inl (cs 0, 4, .inl (g2_5 4))), (h 206, .inl (cs 3, 4, .inr (.inr (.inr (.inr (fun i => if i < 4 then some (h (i + 207)) else none)))))), (h 207, .inl (cs 0, 4, .inl (g3_6 0))), (h 208, .inl (cs 0, 4, .inl (g3_6 1))), (h 209, .inl (cs 0, 4, .inl (g3_6 2))), (h 210, .inl (cs 0, 4, .inl (g3_6 3))), (h 211, .inl (cs 0, 5, .inl a211_10)), (h 106, .inr (2, [.ref (h 180), .ref (h 185), .ref (h 186), .ref (h 187), .long (l188_14)])), (h 180, .inl (cs 4, 4, .inr (.inr (.inr (.inr (fun i => if i < 4 then some (h (i + 181)) else none)))))), (h 181, .inl (cs 1, 4, .inr (.inl (j0_17 0)))), (h 182, .inl (cs 1, 4, .inr (.inl (j0_17 1)))), (h 183, .inl (cs 1, 4, .inr (.inl (j0_17 2)))), (h 184, .inl (cs 1, 4, .inr (.inl (j0_17 3)))), (h 185, .inl (cs 1, 4, .inr (.inl q185_15))), (h 186, .inl (cs 0, 4, .inl (A 186))), (h 187, .inl (cs 1, 4, .inr (.inl q187_16)))]) hP hD hS hA [23, 24, 25, 26, 27, 28, 29, 30] [0, 1, 2, 3, 4, 5, 6, 7, 8, 9, 10, 11, 12, 13, 14, 15, 16, 17, 18, 19, 20, 21, 22] rfl rfl (by decide) (by decide) (va_runV (As := [.int z1, .int (hdF z3 (nI a))]) (rest := []) ⟨hx, hb, hml, hown, hts⟩ (k_X3_follow l dC dI h cs H.size (va_up (va_up I 212 i212_3) 213 i213_4) (va_up L 188 l188_14) (va_up A 211 a211_10) (va_up (va_up Q 185 q185_15) 187 q187_16) (va_up (va_up G 2 g2_5) 3 g3_6) (va_up J 0 j0_17) z1 (hdF z3 (nI a)) a ha (by first | assumption | omega | exact ha2)) (cwV 2 hts gX9_ledWord_X3_follow rfl rfl rfl (by decide +kernel) ⟨Nat.le_of_ble_eq_true rfl, Nat.le_of_ble_eq_true rfl⟩) (xpV (wc := (wMix h cs (va_up (va_up I 212 i212_3) 213 i213_4) (va_up L 188 l188_14) (va_up A 211 a211_10) (va_up (va_up Q 185 q185_15) 187 q187_16) (va_up (va_up G 2 g2_5) 3 g3_6) (va_up J 0 j0_17))) hP hD hK hN [23, 24, 25, 26, 27, 28, 29, 30] rfl (by decide) 23 (ci := 3) rfl rfl _) rfl rfl hl.1 rfl (lv_room (Nat.le_of_ble_eq_true rfl)) dX9_ledWord_155 ⟨Nat.zero_le _, Nat.zero_le _⟩) (fun r_26 u_25 H locs hw hP hD hS => ?_)
                obtain ⟨hf_27, rfl⟩ := hw
                have hP : va_P (dC, dI) vwCl (wFW h cs (va_up (va_up I 212 i212_3) 213 i213_4) (va_up L 188 l188_14) (va_up A 211 a211_10) (va_up (va_up Q 185 q185_15) 187 q187_16) (va_up (va_up G 2 g2_5) 3 g3_6) (va_up J 0 j0_17)) H := hP
                have hD : va_D A0 (wFW h cs (va_up (va_up I 212 i212_3) 213 i213_4) (va_up L 188 l188_14) (va_up A 211 a211_10) (va_up (va_up Q 185 q185_15) 187 q187_16) (va_up (va_up G 2 g2_5) 3 g3_6) (va_up J 0 j0_17)) := hD
                refine lv_topi (fun x_28 ex_28 => ?_)
                refine lv_istore_n (lv' := [(1, .int x_28), (0, .ref (h 100)), (2, .int (nI k)), (3, .long z3), (5, .int (nI c5))]) hx hb dX9_ledWord_158 rfl hl (by decide) rfl (fun ls hl => ?_)
                refine lv_iinc (v := nI (k + 1)) (lv' := [(2, .int (nI (k + 1))), (1, .int x_28), (0, .ref (h 100)), (3, .long z3), (5, .int (nI c5))]) hx hb dX9_ledWord_159 hl (k := 2) rfl (nI_1 _) (by decide) rfl (fun ls hl => ?_)
                refine lv_goto (tgt := 68) hx hb dX9_ledWord_162 (by decide) ?_
                exact ih_68 (k + 1) x_28 (by omega) (by first | assumption | omega) _ _ _ hP hD hS (lv_sub hl [2, 1, 0] rfl)
              · skip
                refine lv_lload_n hx hb dX9_ledWord_96 rfl (lv_at hl 3 rfl) ?_
                refine lv_aload_n hx hb dX9_ledWord_97 rfl (lv_at hl 0 rfl) ?_
                refine va_get (D := (dC, dI)) (ci := 9) (v := .ref (h 108)) (C := RX9) (T := TX9) (N := 9) hx hb hts hinX9 hown hK hP 0 rfl rfl 7 (by decide) (hts (.fieldLink RX9 65 "MixedWords" "leader" "LMixedWords$Leader;") (by decide +kernel)) (fun _ h9 => h9) rfl dX9_ledWord_98 ?_
                refine va_get (D := (dC, dI)) (ci := 1) (v := .ref (h 206)) (C := RX1) (T := TX1) (N := 6) hx hb hts hinX1 hown hK hP 1 rfl rfl 2 (by decide) (hts (.fieldLink RX9 243 "MixedWords$Leader" "steps" "[[I") (by decide +kernel)) (fun _ h9 => h9) rfl dX9_ledWord_101 ?_
                refine lv_iload_n hx hb dX9_ledWord_104 rfl (lv_at hl 2 rfl) ?_
                refine xa_aald (b := h (k + 207)) hx hb hK hP 8 3 rfl rfl rfl (by omega) (by decide) (if_pos (by omega)) dX9_ledWord_105 ?_
                refine lv_iload hx hb dX9_ledWord_106 (lv_at hl 4 rfl) ?_
                refine xa_iald hx hb hK hP (9 + k) 0 (wFW_atG3 (by omega)) rfl (by omega) (by decide) dX9_ledWord_108 ?_
                refine lv_i2l (v := ((g3_6 k) c5).toInt64) hx hb dX9_ledWord_109 rfl ?_
                refine lv_aload_n hx hb dX9_ledWord_110 rfl (lv_at hl 0 rfl) ?_
                refine va_get (D := (dC, dI)) (ci := 9) (v := .ref (h 106)) (C := RX9) (T := TX9) (N := 9) hx hb hts hinX9 hown hK hP 0 rfl rfl 5 (by decide) (hts (.fieldLink RX9 51 "MixedWords" "least" "LMixedWords$Least;") (by decide +kernel)) (fun _ h9 => h9) rfl dX9_ledWord_111 ?_
                refine va_get (D := (dC, dI)) (ci := 2) (v := .ref (h 187)) (C := RX2) (T := TX2) (N := 5) hx hb hts hinX2 hown hK hP 14 rfl rfl 3 (by decide) (hts (.fieldLink RX9 196 "MixedWords$Least" "above" "[J") (by decide +kernel)) (fun _ h9 => h9) rfl dX9_ledWord_114 ?_
                refine lv_iload hx hb dX9_ledWord_117 (lv_at hl 4 rfl) ?_
                refine xa_lald hx hb hK hP 22 1 rfl rfl (by omega) (by decide) dX9_ledWord_119 ?_
                refine lv_aload_n hx hb dX9_ledWord_120 rfl (lv_at hl 0 rfl) ?_
                refine va_get (D := (dC, dI)) (ci := 9) (v := .ref (h 106)) (C := RX9) (T := TX9) (N := 9) hx hb hts hinX9 hown hK hP 0 rfl rfl 5 (by decide) (hts (.fieldLink RX9 51 "MixedWords" "least" "LMixedWords$Least;") (by decide +kernel)) (fun _ h9 => h9) rfl dX9_ledWord_121 ?_
                refine va_get (D := (dC, dI)) (ci := 2) (v := .long l188_14) (C := RX2) (T := TX2) (N := 5) hx hb hts hinX2 hown hK hP 14 rfl rfl 4 (by decide) (hts (.fieldLink RX9 192 "MixedWords$Least" "below" "J") (by decide +kernel)) (fun _ h9 => h9) rfl dX9_ledWord_124 ?_
                refine xj_l (wc := ([] : va_W)) (wr := (wFW h cs (va_up (va_up I 212 i212_3) 213 i213_4) (va_up L 188 l188_14) (va_up A 211 a211_10) (va_up (va_up Q 185 q185_15) 187 q187_16) (va_up (va_up G 2 g2_5) 3 g3_6) (va_up J 0 j0_17))) hP hD hS hA [] [0, 1, 2, 3, 4, 5, 6, 7, 8, 9, 10, 11, 12, 13, 14, 15, 16, 17, 18, 19, 20, 21, 22, 23, 24, 25, 26, 27, 28, 29, 30] rfl rfl (by decide) (by decide) (va_runS (As := [.long (q187_16 c5), .long l188_14]) (rest := [.long (((g3_6 k) c5).toInt64), .long z3]) ⟨hx, hb, hml, hown, hts⟩ (k_X9_nearestHalf l dC dI h cs H.size I L A Q G J (q187_16 c5) l188_14) (va_cwS 2 hts gX9_ledWord_X9_nearestHalf rfl rfl rfl (by decide +kernel) ⟨Nat.le_of_ble_eq_true rfl, Nat.le_of_ble_eq_true rfl⟩) (xpS (wc := ([] : va_W)) hP hD hK hN [] rfl (by decide) _) rfl rfl hl.1 rfl (lv_room (Nat.le_of_ble_eq_true rfl)) dX9_ledWord_127 ⟨Nat.zero_le _, Nat.zero_le _⟩) (fun r_30 u_29 H locs hw hP hD hS => ?_)
                obtain ⟨hf_31, rfl⟩ := hw
                have hP : va_P (dC, dI) vwCl (wFW h cs (va_up (va_up I 212 i212_3) 213 i213_4) (va_up L 188 l188_14) (va_up A 211 a211_10) (va_up (va_up Q 185 q185_15) 187 q187_16) (va_up (va_up G 2 g2_5) 3 g3_6) (va_up J 0 j0_17)) H := hP
                have hD : va_D A0 (wFW h cs (va_up (va_up I 212 i212_3) 213 i213_4) (va_up L 188 l188_14) (va_up A 211 a211_10) (va_up (va_up Q 185 q185_15) 187 q187_16) (va_up (va_up G 2 g2_5) 3 g3_6) (va_up J 0 j0_17)) := hD
                obtain rfl := hf_31
                refine lv_lmul hx hb dX9_ledWord_130 ?_
                refine lv_ladd hx hb dX9_ledWord_131 ?_
                refine lv_topl (fun x_32 ex_32 => ?_)
                refine lv_lstore_n (lv' := [(3, .long x_32), (0, .ref (h 100)), (1, .int z1), (2, .int (nI k)), (5, .int (nI c5))]) hx hb dX9_ledWord_132 rfl hl (by decide) rfl (fun ls hl => ?_)
                refine lv_iinc (v := nI (c5 + 1)) (lv' := [(5, .int (nI (c5 + 1))), (3, .long x_32), (0, .ref (h 100)), (1, .int z1), (2, .int (nI k))]) hx hb dX9_ledWord_133 hl (k := 4) rfl (nI_1 _) (by decide) rfl (fun ls hl => ?_)
                refine lv_goto (tgt := 84) hx hb dX9_ledWord_136 (by decide) ?_
                exact ih_84 (c5 + 1) x_32 (by omega) (by first | assumption | omega) _ _ _ hP hD hS (lv_sub hl [2, 3, 4, 1, 0] rfl)
          exact cut_84 _ 0 (0 : Int64) (Nat.lt_succ_self _) (by first | assumption | omega) _ _ _ hP hD hS (lv_sub hl [2, 3, 4, 1, 0] rfl)
    exact cut_68 _ 0 (nI 0) (Nat.lt_succ_self _) (by first | assumption | omega) _ _ _ hP hD hS (lv_sub hl [2, 1, 0] rfl)
  · skip
    refine lv_bipush (v := (-2)) hx hb dX9_ledWord_61 (by decide) ?_
    exact xr_i (v := (-2)) hx hb hr hlocks hK hS dX9_ledWord_63 ((va_up (va_up I 212 i212_3) 213 i213_4), (va_up L 188 l188_14), (va_up A 211 a211_10), (va_up (va_up Q 185 q185_15) 187 q187_16), (va_up (va_up G 2 g2_5) 3 g3_6), (va_up J 0 j0_17)) ⟨i212_3, i213_4, l188_14, a211_10, q185_15, q187_16, g2_5, g3_6, j0_17, trivial, rfl⟩ hP hD
